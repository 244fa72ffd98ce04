theorem hi_X1_capacity_X0 : ∀ w ∈ wsX00, w ∈ wsX1_capacity := by decide +kernel
theorem hf_X1_capacity_56 : Cond.fieldLink RX1 56 (TX0 4).1 (TX0 4).2.1 (TX0 4).2.2.1 ∈ wsX1_capacity := by decide +kernel
set_option maxRecDepth 100000 in
set_option maxHeartbeats 4000000 in
theorem c_X1_capacity (l : Launch) (hl0 : l.stackTraces = false) (g : zG) (L : List Nat) (f : Nat → va_E) (h : Nat) (P : Nat → Prop) (σ : ZS) (p0 : Int32) (hH : zHC g h P σ L f) : zC l yX1_capacity wsX1_capacity { frames := 9, cells := 2, slots := 12, locals := 146 } 2 12 g [.ref h, .int p0] L f (fun r L1 f1 => (o_capacity σ p0).1 = 0 ∧ some (.int (o_capacity σ p0).2.1) = r ∧ zHC g h P (o_capacity σ p0).2.2 L1 f1 ∧ ∀ b, P b → f1 b = f b) (fun E L1 f1 => zXe ["java/lang/IndexOutOfBoundsException"] (o_capacity σ p0).1 E ∧ L = L1 ∧ f = f1 ∧ (o_capacity σ p0).2.2 = σ) := by
  obtain ⟨ah, G, Rw, rs, wn, ad, ln, kd, ct, rfl, HR⟩ := hH
  obtain ⟨hE, hG, hRw, -⟩ := id HR
  refine z_ofW (cc := cX1_capacity) (maxL := 2) (ret := (some .int)) (by decide) rfl (Nat.le_of_ble_eq_true rfl) ?_
  intro p e s m args below meth c ls A hx hb hr hts hown hlocks hml htab hin hw hX hl
  have hl : lv_has ls 2 [(0, .ref (ah 0)), (1, .int p0)] := hl
  have hown : s.vm.findClass RX1 = some m.cls := hown
  refine lv_aload_n hx hb dX1_capacity_0 rfl (lv_at hl 0 rfl) ?_
  refine lv_iload_n hx hb dX1_capacity_1 rfl (lv_at hl 1 rfl) ?_
  refine z_callV (As := [.int p0]) (rest := []) ⟨hx, hb, hml, hown, hts⟩ hw hX (hE.1 0 (by decide)) rfl (c_X1_windowOf l hl0 g L f ah G Rw rs wn p0 hE hG hRw) (cwV 1 hts gX1_capacity_X1_windowOf rfl rfl rfl (by decide +kernel) ⟨(Nat.le_of_ble_eq_true rfl), (Nat.le_of_ble_eq_true rfl)⟩) rfl hl.1 rfl (Nat.le_of_ble_eq_true rfl) dX1_capacity_2 ⟨(Nat.le_of_ble_eq_true rfl), (Nat.le_of_ble_eq_true rfl)⟩ (fun E ce q9 L9 f9 H locs hp hw hce hcv hcl => ?_) (fun r9 L9 f9 H locs hp hw => ?_)
  · obtain ⟨ck_1, rfl, rfl, rfl⟩ := hp
    have gz : ¬ zis σ p0 = true := fun q => ck_1 ((zH_is HR).mpr q)
    have ho : (o_capacity σ p0) = (1, 0, σ) := by unfold o_capacity; first | exact if_neg (show ¬ (zis σ p0 = true) from by assumption)
    exact z_out htab hlocks hw hce hcv hcl (Nat.le_of_ble_eq_true rfl) (Nat.le_of_ble_eq_true rfl) ⟨⟨0, rfl, by rw [ho]; rfl⟩, rfl, rfl, by rw [ho]⟩
  obtain ⟨ck_1, rfl, rfl, rfl⟩ := hp
  refine W.eq (g2 := F0 m 5 ls [.ref (ah ((Int32.toNatClampNeg p0) + 3))]) rfl ?_
  have hc_2 : zc L f (ah ((Int32.toNatClampNeg p0) + 3)) (.inr (0, zwf (wn (Int32.toNatClampNeg p0)))) := hE.1 ((Int32.toNatClampNeg p0) + 3) (by have := vp_lt ck_1.1; omega)
  have gz0 : zis σ p0 = true := (zH_is HR).mp ck_1
  have gw0 := zI_win HR.I gz0
  obtain ⟨hk0, ho0, hr0, hc0, hp0, he0, hm0⟩ := zH_win HR gz0
  refine zr_get (C := RX0) (T := TX0) (N := 8) (v := .int (zwc (wn (Int32.toNatClampNeg p0)))) hx hb hts hi_X1_capacity_X0 hown hw hc_2 rfl 4 (by decide) hf_X1_capacity_56 rfl dX1_capacity_5 ?_
  have ho : (o_capacity σ p0) = (0, zSZ σ (Int32.toNatClampNeg p0), σ) := by unfold o_capacity; exact if_pos (show (zis σ p0 = true) from by assumption)
  exact z_iret hx hb hr hlocks hw (Nat.le_of_ble_eq_true rfl) (Nat.le_of_ble_eq_true rfl) dX1_capacity_8 ⟨by rw [ho], by rw [ho]; exact congrArg (fun z => some (Value.int z)) (show (zSZ σ (Int32.toNatClampNeg p0) : Int32) = (zwc (wn (Int32.toNatClampNeg p0))) from (by first | rfl | simp only [hk0, ho0, hr0, hc0, hp0, he0, hm0])), by rw [ho]; exact ⟨ah, G, Rw, rs, _, ad, _, _, _, rfl, HR⟩, fun _ _ => rfl⟩

theorem hi_X1_place_X0 : ∀ w ∈ wsX00, w ∈ wsX1_place := by decide +kernel
theorem hf_X1_place_63 : Cond.fieldLink RX1 63 (TX0 5).1 (TX0 5).2.1 (TX0 5).2.2.1 ∈ wsX1_place := by decide +kernel
set_option maxRecDepth 100000 in
set_option maxHeartbeats 4000000 in
theorem c_X1_place (l : Launch) (hl0 : l.stackTraces = false) (g : zG) (L : List Nat) (f : Nat → va_E) (h : Nat) (P : Nat → Prop) (σ : ZS) (p0 : Int32) (hH : zHC g h P σ L f) : zC l yX1_place wsX1_place { frames := 9, cells := 2, slots := 12, locals := 146 } 2 12 g [.ref h, .int p0] L f (fun r L1 f1 => (o_place σ p0).1 = 0 ∧ some (.int (o_place σ p0).2.1) = r ∧ zHC g h P (o_place σ p0).2.2 L1 f1 ∧ ∀ b, P b → f1 b = f b) (fun E L1 f1 => zXe ["java/lang/IndexOutOfBoundsException"] (o_place σ p0).1 E ∧ L = L1 ∧ f = f1 ∧ (o_place σ p0).2.2 = σ) := by
  obtain ⟨ah, G, Rw, rs, wn, ad, ln, kd, ct, rfl, HR⟩ := hH
  obtain ⟨hE, hG, hRw, -⟩ := id HR
  refine z_ofW (cc := cX1_place) (maxL := 2) (ret := (some .int)) (by decide) rfl (Nat.le_of_ble_eq_true rfl) ?_
  intro p e s m args below meth c ls A hx hb hr hts hown hlocks hml htab hin hw hX hl
  have hl : lv_has ls 2 [(0, .ref (ah 0)), (1, .int p0)] := hl
  have hown : s.vm.findClass RX1 = some m.cls := hown
  refine lv_aload_n hx hb dX1_place_0 rfl (lv_at hl 0 rfl) ?_
  refine lv_iload_n hx hb dX1_place_1 rfl (lv_at hl 1 rfl) ?_
  refine z_callV (As := [.int p0]) (rest := []) ⟨hx, hb, hml, hown, hts⟩ hw hX (hE.1 0 (by decide)) rfl (c_X1_windowOf l hl0 g L f ah G Rw rs wn p0 hE hG hRw) (cwV 1 hts gX1_place_X1_windowOf rfl rfl rfl (by decide +kernel) ⟨(Nat.le_of_ble_eq_true rfl), (Nat.le_of_ble_eq_true rfl)⟩) rfl hl.1 rfl (Nat.le_of_ble_eq_true rfl) dX1_place_2 ⟨(Nat.le_of_ble_eq_true rfl), (Nat.le_of_ble_eq_true rfl)⟩ (fun E ce q9 L9 f9 H locs hp hw hce hcv hcl => ?_) (fun r9 L9 f9 H locs hp hw => ?_)
  · obtain ⟨ck_1, rfl, rfl, rfl⟩ := hp
    have gz : ¬ zis σ p0 = true := fun q => ck_1 ((zH_is HR).mpr q)
    have ho : (o_place σ p0) = (1, 0, σ) := by unfold o_place; first | exact if_neg (show ¬ (zis σ p0 = true) from by assumption)
    exact z_out htab hlocks hw hce hcv hcl (Nat.le_of_ble_eq_true rfl) (Nat.le_of_ble_eq_true rfl) ⟨⟨0, rfl, by rw [ho]; rfl⟩, rfl, rfl, by rw [ho]⟩
  obtain ⟨ck_1, rfl, rfl, rfl⟩ := hp
  refine W.eq (g2 := F0 m 5 ls [.ref (ah ((Int32.toNatClampNeg p0) + 3))]) rfl ?_
  have hc_2 : zc L f (ah ((Int32.toNatClampNeg p0) + 3)) (.inr (0, zwf (wn (Int32.toNatClampNeg p0)))) := hE.1 ((Int32.toNatClampNeg p0) + 3) (by have := vp_lt ck_1.1; omega)
  have gz0 : zis σ p0 = true := (zH_is HR).mp ck_1
  have gw0 := zI_win HR.I gz0
  obtain ⟨hk0, ho0, hr0, hc0, hp0, he0, hm0⟩ := zH_win HR gz0
  refine zr_get (C := RX0) (T := TX0) (N := 8) (v := .int (zwp (wn (Int32.toNatClampNeg p0)))) hx hb hts hi_X1_place_X0 hown hw hc_2 rfl 5 (by decide) hf_X1_place_63 rfl dX1_place_5 ?_
  have ho : (o_place σ p0) = (0, zPL σ (Int32.toNatClampNeg p0), σ) := by unfold o_place; exact if_pos (show (zis σ p0 = true) from by assumption)
  exact z_iret hx hb hr hlocks hw (Nat.le_of_ble_eq_true rfl) (Nat.le_of_ble_eq_true rfl) dX1_place_8 ⟨by rw [ho], by rw [ho]; exact congrArg (fun z => some (Value.int z)) (show (zPL σ (Int32.toNatClampNeg p0) : Int32) = (zwp (wn (Int32.toNatClampNeg p0))) from (by first | rfl | simp only [hk0, ho0, hr0, hc0, hp0, he0, hm0])), by rw [ho]; exact ⟨ah, G, Rw, rs, _, ad, _, _, _, rfl, HR⟩, fun _ _ => rfl⟩

theorem hi_X1_end_X0 : ∀ w ∈ wsX00, w ∈ wsX1_end := by decide +kernel
theorem hf_X1_end_74 : Cond.fieldLink RX1 74 (TX0 6).1 (TX0 6).2.1 (TX0 6).2.2.1 ∈ wsX1_end := by decide +kernel
set_option maxRecDepth 100000 in
set_option maxHeartbeats 4000000 in
theorem c_X1_end (l : Launch) (hl0 : l.stackTraces = false) (g : zG) (L : List Nat) (f : Nat → va_E) (h : Nat) (P : Nat → Prop) (σ : ZS) (p0 : Int32) (hH : zHC g h P σ L f) : zC l yX1_end wsX1_end { frames := 9, cells := 2, slots := 12, locals := 146 } 2 12 g [.ref h, .int p0] L f (fun r L1 f1 => (o_end σ p0).1 = 0 ∧ some (.int (o_end σ p0).2.1) = r ∧ zHC g h P (o_end σ p0).2.2 L1 f1 ∧ ∀ b, P b → f1 b = f b) (fun E L1 f1 => zXe ["java/lang/IndexOutOfBoundsException"] (o_end σ p0).1 E ∧ L = L1 ∧ f = f1 ∧ (o_end σ p0).2.2 = σ) := by
  obtain ⟨ah, G, Rw, rs, wn, ad, ln, kd, ct, rfl, HR⟩ := hH
  obtain ⟨hE, hG, hRw, -⟩ := id HR
  refine z_ofW (cc := cX1_end) (maxL := 2) (ret := (some .int)) (by decide) rfl (Nat.le_of_ble_eq_true rfl) ?_
  intro p e s m args below meth c ls A hx hb hr hts hown hlocks hml htab hin hw hX hl
  have hl : lv_has ls 2 [(0, .ref (ah 0)), (1, .int p0)] := hl
  have hown : s.vm.findClass RX1 = some m.cls := hown
  refine lv_aload_n hx hb dX1_end_0 rfl (lv_at hl 0 rfl) ?_
  refine lv_iload_n hx hb dX1_end_1 rfl (lv_at hl 1 rfl) ?_
  refine z_callV (As := [.int p0]) (rest := []) ⟨hx, hb, hml, hown, hts⟩ hw hX (hE.1 0 (by decide)) rfl (c_X1_windowOf l hl0 g L f ah G Rw rs wn p0 hE hG hRw) (cwV 1 hts gX1_end_X1_windowOf rfl rfl rfl (by decide +kernel) ⟨(Nat.le_of_ble_eq_true rfl), (Nat.le_of_ble_eq_true rfl)⟩) rfl hl.1 rfl (Nat.le_of_ble_eq_true rfl) dX1_end_2 ⟨(Nat.le_of_ble_eq_true rfl), (Nat.le_of_ble_eq_true rfl)⟩ (fun E ce q9 L9 f9 H locs hp hw hce hcv hcl => ?_) (fun r9 L9 f9 H locs hp hw => ?_)
  · obtain ⟨ck_1, rfl, rfl, rfl⟩ := hp
    have gz : ¬ zis σ p0 = true := fun q => ck_1 ((zH_is HR).mpr q)
    have ho : (o_end σ p0) = (1, 0, σ) := by unfold o_end; first | exact if_neg (show ¬ (zis σ p0 = true) from by assumption)
    exact z_out htab hlocks hw hce hcv hcl (Nat.le_of_ble_eq_true rfl) (Nat.le_of_ble_eq_true rfl) ⟨⟨0, rfl, by rw [ho]; rfl⟩, rfl, rfl, by rw [ho]⟩
  obtain ⟨ck_1, rfl, rfl, rfl⟩ := hp
  refine W.eq (g2 := F0 m 5 ls [.ref (ah ((Int32.toNatClampNeg p0) + 3))]) rfl ?_
  have hc_2 : zc L f (ah ((Int32.toNatClampNeg p0) + 3)) (.inr (0, zwf (wn (Int32.toNatClampNeg p0)))) := hE.1 ((Int32.toNatClampNeg p0) + 3) (by have := vp_lt ck_1.1; omega)
  have gz0 : zis σ p0 = true := (zH_is HR).mp ck_1
  have gw0 := zI_win HR.I gz0
  obtain ⟨hk0, ho0, hr0, hc0, hp0, he0, hm0⟩ := zH_win HR gz0
  refine zr_get (C := RX0) (T := TX0) (N := 8) (v := .int (zwe (wn (Int32.toNatClampNeg p0)))) hx hb hts hi_X1_end_X0 hown hw hc_2 rfl 6 (by decide) hf_X1_end_74 rfl dX1_end_5 ?_
  have ho : (o_end σ p0) = (0, zEN σ (Int32.toNatClampNeg p0), σ) := by unfold o_end; exact if_pos (show (zis σ p0 = true) from by assumption)
  exact z_iret hx hb hr hlocks hw (Nat.le_of_ble_eq_true rfl) (Nat.le_of_ble_eq_true rfl) dX1_end_8 ⟨by rw [ho], by rw [ho]; exact congrArg (fun z => some (Value.int z)) (show (zEN σ (Int32.toNatClampNeg p0) : Int32) = (zwe (wn (Int32.toNatClampNeg p0))) from (by first | rfl | simp only [hk0, ho0, hr0, hc0, hp0, he0, hm0])), by rw [ho]; exact ⟨ah, G, Rw, rs, _, ad, _, _, _, rfl, HR⟩, fun _ _ => rfl⟩

set_option maxRecDepth 100000 in
set_option maxHeartbeats 4000000 in
theorem c_X1_left (l : Launch) (hl0 : l.stackTraces = false) (g : zG) (L : List Nat) (f : Nat → va_E) (h : Nat) (P : Nat → Prop) (σ : ZS) (p0 : Int32) (hH : zHC g h P σ L f) : zC l yX1_left wsX1_left { frames := 9, cells := 2, slots := 12, locals := 146 } 2 12 g [.ref h, .int p0] L f (fun r L1 f1 => (o_left σ p0).1 = 0 ∧ some (.int (o_left σ p0).2.1) = r ∧ zHC g h P (o_left σ p0).2.2 L1 f1 ∧ ∀ b, P b → f1 b = f b) (fun E L1 f1 => zXe ["java/lang/IndexOutOfBoundsException"] (o_left σ p0).1 E ∧ L = L1 ∧ f = f1 ∧ (o_left σ p0).2.2 = σ) := by
  obtain ⟨ah, G, Rw, rs, wn, ad, ln, kd, ct, rfl, HR⟩ := hH
  obtain ⟨hE, hG, hRw, -⟩ := id HR
  refine z_ofW (cc := cX1_left) (maxL := 2) (ret := (some .int)) (by decide) rfl (Nat.le_of_ble_eq_true rfl) ?_
  intro p e s m args below meth c ls A hx hb hr hts hown hlocks hml htab hin hw hX hl
  have hl : lv_has ls 2 [(0, .ref (ah 0)), (1, .int p0)] := hl
  have hown : s.vm.findClass RX1 = some m.cls := hown
  refine lv_aload_n hx hb dX1_left_0 rfl (lv_at hl 0 rfl) ?_
  refine lv_iload_n hx hb dX1_left_1 rfl (lv_at hl 1 rfl) ?_
  refine z_callV (As := [.int p0]) (rest := []) ⟨hx, hb, hml, hown, hts⟩ hw hX (hE.1 0 (by decide)) rfl (c_X1_windowOf l hl0 g L f ah G Rw rs wn p0 hE hG hRw) (cwV 1 hts gX1_left_X1_windowOf rfl rfl rfl (by decide +kernel) ⟨(Nat.le_of_ble_eq_true rfl), (Nat.le_of_ble_eq_true rfl)⟩) rfl hl.1 rfl (Nat.le_of_ble_eq_true rfl) dX1_left_2 ⟨(Nat.le_of_ble_eq_true rfl), (Nat.le_of_ble_eq_true rfl)⟩ (fun E ce q9 L9 f9 H locs hp hw hce hcv hcl => ?_) (fun r9 L9 f9 H locs hp hw => ?_)
  · obtain ⟨ck_1, rfl, rfl, rfl⟩ := hp
    have gz : ¬ zis σ p0 = true := fun q => ck_1 ((zH_is HR).mpr q)
    have ho : (o_left σ p0) = (1, 0, σ) := by unfold o_left; first | exact if_neg (show ¬ (zis σ p0 = true) from by assumption)
    exact z_out htab hlocks hw hce hcv hcl (Nat.le_of_ble_eq_true rfl) (Nat.le_of_ble_eq_true rfl) ⟨⟨0, rfl, by rw [ho]; rfl⟩, rfl, rfl, by rw [ho]⟩
  obtain ⟨ck_1, rfl, rfl, rfl⟩ := hp
  refine W.eq (g2 := F0 m 5 ls [.ref (ah ((Int32.toNatClampNeg p0) + 3))]) rfl ?_
  have hc_2 : zc L f (ah ((Int32.toNatClampNeg p0) + 3)) (.inr (0, zwf (wn (Int32.toNatClampNeg p0)))) := hE.1 ((Int32.toNatClampNeg p0) + 3) (by have := vp_lt ck_1.1; omega)
  have gz0 : zis σ p0 = true := (zH_is HR).mp ck_1
  have gw0 := zI_win HR.I gz0
  obtain ⟨hk0, ho0, hr0, hc0, hp0, he0, hm0⟩ := zH_win HR gz0
  refine z_callV (As := []) (rest := []) ⟨hx, hb, hml, hown, hts⟩ hw hX hc_2 rfl (c_X0_rest l g L f (ah ((Int32.toNatClampNeg p0) + 3)) ((zwk (wn (Int32.toNatClampNeg p0))), (zwo (wn (Int32.toNatClampNeg p0))), (zws (wn (Int32.toNatClampNeg p0))), (zwr (wn (Int32.toNatClampNeg p0))), (zwc (wn (Int32.toNatClampNeg p0))), (zwp (wn (Int32.toNatClampNeg p0))), (zwe (wn (Int32.toNatClampNeg p0))), (zwm (wn (Int32.toNatClampNeg p0)))) hc_2) (cwV 0 hts gX1_left_X0_rest rfl rfl rfl (by decide +kernel) ⟨(Nat.le_of_ble_eq_true rfl), (Nat.le_of_ble_eq_true rfl)⟩) rfl hl.1 rfl (Nat.le_of_ble_eq_true rfl) dX1_left_5 ⟨(Nat.le_of_ble_eq_true rfl), (Nat.le_of_ble_eq_true rfl)⟩ (fun _ _ _ _ _ _ _ hp => False.elim hp) (fun r9 L9 f9 H locs hp hw => ?_)
  obtain ⟨rfl, rfl, rfl⟩ := hp
  refine W.eq (g2 := F0 m 8 ls [.int ((zwe (wn (Int32.toNatClampNeg p0))) - (zwp (wn (Int32.toNatClampNeg p0))))]) rfl ?_
  have ho : (o_left σ p0) = (0, zEN σ (Int32.toNatClampNeg p0) - zPL σ (Int32.toNatClampNeg p0), σ) := by unfold o_left; exact if_pos (show (zis σ p0 = true) from by assumption)
  exact z_iret hx hb hr hlocks hw (Nat.le_of_ble_eq_true rfl) (Nat.le_of_ble_eq_true rfl) dX1_left_8 ⟨by rw [ho], by rw [ho]; exact congrArg (fun z => some (Value.int z)) (show (zEN σ (Int32.toNatClampNeg p0) - zPL σ (Int32.toNatClampNeg p0) : Int32) = ((zwe (wn (Int32.toNatClampNeg p0))) - (zwp (wn (Int32.toNatClampNeg p0)))) from (by first | rfl | simp only [hk0, ho0, hr0, hc0, hp0, he0, hm0])), by rw [ho]; exact ⟨ah, G, Rw, rs, _, ad, _, _, _, rfl, HR⟩, fun _ _ => rfl⟩

theorem hi_X1_clear_X0 : ∀ w ∈ wsX00, w ∈ wsX1_clear := by decide +kernel
theorem hf_X1_clear_56 : Cond.fieldLink RX1 56 (TX0 4).1 (TX0 4).2.1 (TX0 4).2.2.1 ∈ wsX1_clear := by decide +kernel
theorem hf_X1_clear_74 : Cond.fieldLink RX1 74 (TX0 6).1 (TX0 6).2.1 (TX0 6).2.2.1 ∈ wsX1_clear := by decide +kernel
set_option maxRecDepth 100000 in
set_option maxHeartbeats 4000000 in
theorem c_X1_clear (l : Launch) (hl0 : l.stackTraces = false) (g : zG) (L : List Nat) (f : Nat → va_E) (h : Nat) (P : Nat → Prop) (σ : ZS) (p0 : Int32) (hH : zHC g h P σ L f) : zC l yX1_clear wsX1_clear { frames := 9, cells := 2, slots := 12, locals := 146 } 2 12 g [.ref h, .int p0] L f (fun r L1 f1 => (o_clear σ p0).1 = 0 ∧ some (.int (o_clear σ p0).2.1) = r ∧ zHC g h P (o_clear σ p0).2.2 L1 f1 ∧ ∀ b, P b → f1 b = f b) (fun E L1 f1 => zXe ["java/lang/IndexOutOfBoundsException"] (o_clear σ p0).1 E ∧ L = L1 ∧ f = f1 ∧ (o_clear σ p0).2.2 = σ) := by
  obtain ⟨ah, G, Rw, rs, wn, ad, ln, kd, ct, rfl, HR⟩ := hH
  obtain ⟨hE, hG, hRw, -⟩ := id HR
  refine z_ofW (cc := cX1_clear) (maxL := 3) (ret := (some .int)) (by decide) rfl (Nat.le_of_ble_eq_true rfl) ?_
  intro p e s m args below meth c ls A hx hb hr hts hown hlocks hml htab hin hw hX hl
  have hl : lv_has ls 3 [(0, .ref (ah 0)), (1, .int p0)] := hl
  have hown : s.vm.findClass RX1 = some m.cls := hown
  refine lv_aload_n hx hb dX1_clear_0 rfl (lv_at hl 0 rfl) ?_
  refine lv_iload_n hx hb dX1_clear_1 rfl (lv_at hl 1 rfl) ?_
  refine z_callV (As := [.int p0]) (rest := []) ⟨hx, hb, hml, hown, hts⟩ hw hX (hE.1 0 (by decide)) rfl (c_X1_windowOf l hl0 g L f ah G Rw rs wn p0 hE hG hRw) (cwV 1 hts gX1_clear_X1_windowOf rfl rfl rfl (by decide +kernel) ⟨(Nat.le_of_ble_eq_true rfl), (Nat.le_of_ble_eq_true rfl)⟩) rfl hl.1 rfl (Nat.le_of_ble_eq_true rfl) dX1_clear_2 ⟨(Nat.le_of_ble_eq_true rfl), (Nat.le_of_ble_eq_true rfl)⟩ (fun E ce q9 L9 f9 H locs hp hw hce hcv hcl => ?_) (fun r9 L9 f9 H locs hp hw => ?_)
  · obtain ⟨ck_1, rfl, rfl, rfl⟩ := hp
    have gz : ¬ zis σ p0 = true := fun q => ck_1 ((zH_is HR).mpr q)
    have ho : (o_clear σ p0) = (1, 0, σ) := by unfold o_clear; first | exact if_neg (show ¬ (zis σ p0 = true) from by assumption)
    exact z_out htab hlocks hw hce hcv hcl (Nat.le_of_ble_eq_true rfl) (Nat.le_of_ble_eq_true rfl) ⟨⟨0, rfl, by rw [ho]; rfl⟩, rfl, rfl, by rw [ho]⟩
  obtain ⟨ck_1, rfl, rfl, rfl⟩ := hp
  refine W.eq (g2 := F0 m 5 ls [.ref (ah ((Int32.toNatClampNeg p0) + 3))]) rfl ?_
  have hc_2 : zc L f (ah ((Int32.toNatClampNeg p0) + 3)) (.inr (0, zwf (wn (Int32.toNatClampNeg p0)))) := hE.1 ((Int32.toNatClampNeg p0) + 3) (by have := vp_lt ck_1.1; omega)
  have gz0 : zis σ p0 = true := (zH_is HR).mp ck_1
  have gw0 := zI_win HR.I gz0
  obtain ⟨hk0, ho0, hr0, hc0, hp0, he0, hm0⟩ := zH_win HR gz0
  refine lv_astore_n (lv' := [(2, .ref (ah ((Int32.toNatClampNeg p0) + 3))), (0, .ref (ah 0)), (1, .int p0)]) hx hb dX1_clear_5 rfl hl (by decide) rfl (fun ls hl => ?_)
  refine lv_aload_n hx hb dX1_clear_6 rfl (lv_at hl 0 rfl) ?_
  refine lv_iconst (v := 0) hx hb dX1_clear_7 (by decide) ?_
  refine lv_aload_n hx hb dX1_clear_8 rfl (lv_at hl 0 rfl) ?_
  refine zr_get (C := RX0) (T := TX0) (N := 8) (v := .int (zwc (wn (Int32.toNatClampNeg p0)))) hx hb hts hi_X1_clear_X0 hown hw hc_2 rfl 4 (by decide) hf_X1_clear_56 rfl dX1_clear_9 ?_
  refine z_callV (As := [.int 0, .int (zwc (wn (Int32.toNatClampNeg p0)))]) (rest := []) ⟨hx, hb, hml, hown, hts⟩ hw hX hc_2 rfl (c_X0_moveTo l g L f (ah ((Int32.toNatClampNeg p0) + 3)) ((zwk (wn (Int32.toNatClampNeg p0))), (zwo (wn (Int32.toNatClampNeg p0))), (zws (wn (Int32.toNatClampNeg p0))), (zwr (wn (Int32.toNatClampNeg p0))), (zwc (wn (Int32.toNatClampNeg p0))), (zwp (wn (Int32.toNatClampNeg p0))), (zwe (wn (Int32.toNatClampNeg p0))), (zwm (wn (Int32.toNatClampNeg p0)))) 0 (zwc (wn (Int32.toNatClampNeg p0))) hc_2) (cwV 2 hts gX1_clear_X0_moveTo rfl rfl rfl (by decide +kernel) ⟨(Nat.le_of_ble_eq_true rfl), (Nat.le_of_ble_eq_true rfl)⟩) rfl hl.1 rfl (Nat.le_of_ble_eq_true rfl) dX1_clear_12 ⟨(Nat.le_of_ble_eq_true rfl), (Nat.le_of_ble_eq_true rfl)⟩ (fun _ _ _ _ _ _ _ hp => False.elim hp) (fun r9 L9 f9 H locs hp hw => ?_)
  obtain ⟨rfl, rfl, hu9⟩ := hp
  refine W.eq (g2 := F0 m 15 ls []) rfl ?_
  have hu := hu9
  obtain ⟨f_3, rfl⟩ : ∃ z, z = f9 := ⟨_, rfl⟩
  refine lv_aload_n hx hb dX1_clear_15 rfl (lv_at hl 0 rfl) ?_
  refine zr_get (C := RX0) (T := TX0) (N := 8) (v := .int (zwc (wn (Int32.toNatClampNeg p0)))) hx hb hts hi_X1_clear_X0 hown hw (zu_c (hc_2).1 hu) rfl 6 (by decide) hf_X1_clear_74 rfl dX1_clear_16 ?_
  obtain ⟨s9, p9, e9, hs9, hp9, he9, hpe9, hes9, hs64, hmk9⟩ := zW_nat gw0
  have HR2 := zHR_pem HR gz0 (x1 := ((zwk (wn (Int32.toNatClampNeg p0))), (zwo (wn (Int32.toNatClampNeg p0))), (zws (wn (Int32.toNatClampNeg p0))), (zwr (wn (Int32.toNatClampNeg p0))), (zwc (wn (Int32.toNatClampNeg p0))), 0, (zwc (wn (Int32.toNatClampNeg p0))), (-1))) (pl := 0) (en := (zSZ σ (Int32.toNatClampNeg p0))) (mk := (-1)) (by simp only [hk0, ho0, hr0, hc0, hp0, he0, hm0]) ⟨0, s9, s9, rfl, hs9, hs9, by omega, by omega, hs64, Or.inl rfl⟩
  rw [hu] at HR2
  have hfr : ∀ b, P b → f_3 b = f b := by rw [← hu]; exact zfr_win HR (by have := vp_lt (zis_7 gz0); omega)
  have ho : (o_clear σ p0) = (0, zEN (zStands σ (Int32.toNatClampNeg p0) 0 (zSZ σ (Int32.toNatClampNeg p0))) (Int32.toNatClampNeg p0), (zStands σ (Int32.toNatClampNeg p0) 0 (zSZ σ (Int32.toNatClampNeg p0)))) := by unfold o_clear; exact if_pos (show (zis σ p0 = true) from by assumption)
  exact z_iret hx hb hr hlocks hw (Nat.le_of_ble_eq_true rfl) (Nat.le_of_ble_eq_true rfl) dX1_clear_19 ⟨by rw [ho], by rw [ho]; exact congrArg (fun z => some (Value.int z)) (show (zEN (zStands σ (Int32.toNatClampNeg p0) 0 (zSZ σ (Int32.toNatClampNeg p0))) (Int32.toNatClampNeg p0) : Int32) = (zwc (wn (Int32.toNatClampNeg p0))) from (by show upd (zEN σ) (Int32.toNatClampNeg p0) (zSZ σ (Int32.toNatClampNeg p0)) (Int32.toNatClampNeg p0) = _; rw [pk_us]; simp only [hk0, ho0, hr0, hc0, hp0, he0, hm0])), by rw [ho]; exact ⟨ah, G, Rw, rs, _, ad, _, _, _, rfl, HR2⟩, hfr⟩

theorem hi_X1_flip_X0 : ∀ w ∈ wsX00, w ∈ wsX1_flip := by decide +kernel
theorem hf_X1_flip_63 : Cond.fieldLink RX1 63 (TX0 5).1 (TX0 5).2.1 (TX0 5).2.2.1 ∈ wsX1_flip := by decide +kernel
theorem hf_X1_flip_74 : Cond.fieldLink RX1 74 (TX0 6).1 (TX0 6).2.1 (TX0 6).2.2.1 ∈ wsX1_flip := by decide +kernel
set_option maxRecDepth 100000 in
set_option maxHeartbeats 4000000 in
theorem c_X1_flip (l : Launch) (hl0 : l.stackTraces = false) (g : zG) (L : List Nat) (f : Nat → va_E) (h : Nat) (P : Nat → Prop) (σ : ZS) (p0 : Int32) (hH : zHC g h P σ L f) : zC l yX1_flip wsX1_flip { frames := 9, cells := 2, slots := 12, locals := 146 } 2 12 g [.ref h, .int p0] L f (fun r L1 f1 => (o_flip σ p0).1 = 0 ∧ some (.int (o_flip σ p0).2.1) = r ∧ zHC g h P (o_flip σ p0).2.2 L1 f1 ∧ ∀ b, P b → f1 b = f b) (fun E L1 f1 => zXe ["java/lang/IndexOutOfBoundsException"] (o_flip σ p0).1 E ∧ L = L1 ∧ f = f1 ∧ (o_flip σ p0).2.2 = σ) := by
  obtain ⟨ah, G, Rw, rs, wn, ad, ln, kd, ct, rfl, HR⟩ := hH
  obtain ⟨hE, hG, hRw, -⟩ := id HR
  refine z_ofW (cc := cX1_flip) (maxL := 3) (ret := (some .int)) (by decide) rfl (Nat.le_of_ble_eq_true rfl) ?_
  intro p e s m args below meth c ls A hx hb hr hts hown hlocks hml htab hin hw hX hl
  have hl : lv_has ls 3 [(0, .ref (ah 0)), (1, .int p0)] := hl
  have hown : s.vm.findClass RX1 = some m.cls := hown
  refine lv_aload_n hx hb dX1_flip_0 rfl (lv_at hl 0 rfl) ?_
  refine lv_iload_n hx hb dX1_flip_1 rfl (lv_at hl 1 rfl) ?_
  refine z_callV (As := [.int p0]) (rest := []) ⟨hx, hb, hml, hown, hts⟩ hw hX (hE.1 0 (by decide)) rfl (c_X1_windowOf l hl0 g L f ah G Rw rs wn p0 hE hG hRw) (cwV 1 hts gX1_flip_X1_windowOf rfl rfl rfl (by decide +kernel) ⟨(Nat.le_of_ble_eq_true rfl), (Nat.le_of_ble_eq_true rfl)⟩) rfl hl.1 rfl (Nat.le_of_ble_eq_true rfl) dX1_flip_2 ⟨(Nat.le_of_ble_eq_true rfl), (Nat.le_of_ble_eq_true rfl)⟩ (fun E ce q9 L9 f9 H locs hp hw hce hcv hcl => ?_) (fun r9 L9 f9 H locs hp hw => ?_)
  · obtain ⟨ck_1, rfl, rfl, rfl⟩ := hp
    have gz : ¬ zis σ p0 = true := fun q => ck_1 ((zH_is HR).mpr q)
    have ho : (o_flip σ p0) = (1, 0, σ) := by unfold o_flip; first | exact if_neg (show ¬ (zis σ p0 = true) from by assumption)
    exact z_out htab hlocks hw hce hcv hcl (Nat.le_of_ble_eq_true rfl) (Nat.le_of_ble_eq_true rfl) ⟨⟨0, rfl, by rw [ho]; rfl⟩, rfl, rfl, by rw [ho]⟩
  obtain ⟨ck_1, rfl, rfl, rfl⟩ := hp
  refine W.eq (g2 := F0 m 5 ls [.ref (ah ((Int32.toNatClampNeg p0) + 3))]) rfl ?_
  have hc_2 : zc L f (ah ((Int32.toNatClampNeg p0) + 3)) (.inr (0, zwf (wn (Int32.toNatClampNeg p0)))) := hE.1 ((Int32.toNatClampNeg p0) + 3) (by have := vp_lt ck_1.1; omega)
  have gz0 : zis σ p0 = true := (zH_is HR).mp ck_1
  have gw0 := zI_win HR.I gz0
  obtain ⟨hk0, ho0, hr0, hc0, hp0, he0, hm0⟩ := zH_win HR gz0
  refine lv_astore_n (lv' := [(2, .ref (ah ((Int32.toNatClampNeg p0) + 3))), (0, .ref (ah 0)), (1, .int p0)]) hx hb dX1_flip_5 rfl hl (by decide) rfl (fun ls hl => ?_)
  refine lv_aload_n hx hb dX1_flip_6 rfl (lv_at hl 0 rfl) ?_
  refine lv_iconst (v := 0) hx hb dX1_flip_7 (by decide) ?_
  refine lv_aload_n hx hb dX1_flip_8 rfl (lv_at hl 0 rfl) ?_
  refine zr_get (C := RX0) (T := TX0) (N := 8) (v := .int (zwp (wn (Int32.toNatClampNeg p0)))) hx hb hts hi_X1_flip_X0 hown hw hc_2 rfl 5 (by decide) hf_X1_flip_63 rfl dX1_flip_9 ?_
  refine z_callV (As := [.int 0, .int (zwp (wn (Int32.toNatClampNeg p0)))]) (rest := []) ⟨hx, hb, hml, hown, hts⟩ hw hX hc_2 rfl (c_X0_moveTo l g L f (ah ((Int32.toNatClampNeg p0) + 3)) ((zwk (wn (Int32.toNatClampNeg p0))), (zwo (wn (Int32.toNatClampNeg p0))), (zws (wn (Int32.toNatClampNeg p0))), (zwr (wn (Int32.toNatClampNeg p0))), (zwc (wn (Int32.toNatClampNeg p0))), (zwp (wn (Int32.toNatClampNeg p0))), (zwe (wn (Int32.toNatClampNeg p0))), (zwm (wn (Int32.toNatClampNeg p0)))) 0 (zwp (wn (Int32.toNatClampNeg p0))) hc_2) (cwV 2 hts gX1_flip_X0_moveTo rfl rfl rfl (by decide +kernel) ⟨(Nat.le_of_ble_eq_true rfl), (Nat.le_of_ble_eq_true rfl)⟩) rfl hl.1 rfl (Nat.le_of_ble_eq_true rfl) dX1_flip_12 ⟨(Nat.le_of_ble_eq_true rfl), (Nat.le_of_ble_eq_true rfl)⟩ (fun _ _ _ _ _ _ _ hp => False.elim hp) (fun r9 L9 f9 H locs hp hw => ?_)
  obtain ⟨rfl, rfl, hu9⟩ := hp
  refine W.eq (g2 := F0 m 15 ls []) rfl ?_
  have hu := hu9
  obtain ⟨f_3, rfl⟩ : ∃ z, z = f9 := ⟨_, rfl⟩
  refine lv_aload_n hx hb dX1_flip_15 rfl (lv_at hl 0 rfl) ?_
  refine zr_get (C := RX0) (T := TX0) (N := 8) (v := .int (zwp (wn (Int32.toNatClampNeg p0)))) hx hb hts hi_X1_flip_X0 hown hw (zu_c (hc_2).1 hu) rfl 6 (by decide) hf_X1_flip_74 rfl dX1_flip_16 ?_
  obtain ⟨s9, p9, e9, hs9, hp9, he9, hpe9, hes9, hs64, hmk9⟩ := zW_nat gw0
  have HR2 := zHR_pem HR gz0 (x1 := ((zwk (wn (Int32.toNatClampNeg p0))), (zwo (wn (Int32.toNatClampNeg p0))), (zws (wn (Int32.toNatClampNeg p0))), (zwr (wn (Int32.toNatClampNeg p0))), (zwc (wn (Int32.toNatClampNeg p0))), 0, (zwp (wn (Int32.toNatClampNeg p0))), (-1))) (pl := 0) (en := (zPL σ (Int32.toNatClampNeg p0))) (mk := (-1)) (by simp only [hk0, ho0, hr0, hc0, hp0, he0, hm0]) ⟨0, p9, s9, rfl, hp9, hs9, by omega, by omega, hs64, Or.inl rfl⟩
  rw [hu] at HR2
  have hfr : ∀ b, P b → f_3 b = f b := by rw [← hu]; exact zfr_win HR (by have := vp_lt (zis_7 gz0); omega)
  have ho : (o_flip σ p0) = (0, zEN (zStands σ (Int32.toNatClampNeg p0) 0 (zPL σ (Int32.toNatClampNeg p0))) (Int32.toNatClampNeg p0), (zStands σ (Int32.toNatClampNeg p0) 0 (zPL σ (Int32.toNatClampNeg p0)))) := by unfold o_flip; exact if_pos (show (zis σ p0 = true) from by assumption)
  exact z_iret hx hb hr hlocks hw (Nat.le_of_ble_eq_true rfl) (Nat.le_of_ble_eq_true rfl) dX1_flip_19 ⟨by rw [ho], by rw [ho]; exact congrArg (fun z => some (Value.int z)) (show (zEN (zStands σ (Int32.toNatClampNeg p0) 0 (zPL σ (Int32.toNatClampNeg p0))) (Int32.toNatClampNeg p0) : Int32) = (zwp (wn (Int32.toNatClampNeg p0))) from (by show upd (zEN σ) (Int32.toNatClampNeg p0) (zPL σ (Int32.toNatClampNeg p0)) (Int32.toNatClampNeg p0) = _; rw [pk_us]; simp only [hk0, ho0, hr0, hc0, hp0, he0, hm0])), by rw [ho]; exact ⟨ah, G, Rw, rs, _, ad, _, _, _, rfl, HR2⟩, hfr⟩

theorem hi_X1_rewind_X0 : ∀ w ∈ wsX00, w ∈ wsX1_rewind := by decide +kernel
theorem hf_X1_rewind_74 : Cond.fieldLink RX1 74 (TX0 6).1 (TX0 6).2.1 (TX0 6).2.2.1 ∈ wsX1_rewind := by decide +kernel
set_option maxRecDepth 100000 in
set_option maxHeartbeats 4000000 in
theorem c_X1_rewind (l : Launch) (hl0 : l.stackTraces = false) (g : zG) (L : List Nat) (f : Nat → va_E) (h : Nat) (P : Nat → Prop) (σ : ZS) (p0 : Int32) (hH : zHC g h P σ L f) : zC l yX1_rewind wsX1_rewind { frames := 9, cells := 2, slots := 12, locals := 146 } 2 12 g [.ref h, .int p0] L f (fun r L1 f1 => (o_rewind σ p0).1 = 0 ∧ some (.int (o_rewind σ p0).2.1) = r ∧ zHC g h P (o_rewind σ p0).2.2 L1 f1 ∧ ∀ b, P b → f1 b = f b) (fun E L1 f1 => zXe ["java/lang/IndexOutOfBoundsException"] (o_rewind σ p0).1 E ∧ L = L1 ∧ f = f1 ∧ (o_rewind σ p0).2.2 = σ) := by
  obtain ⟨ah, G, Rw, rs, wn, ad, ln, kd, ct, rfl, HR⟩ := hH
  obtain ⟨hE, hG, hRw, -⟩ := id HR
  refine z_ofW (cc := cX1_rewind) (maxL := 3) (ret := (some .int)) (by decide) rfl (Nat.le_of_ble_eq_true rfl) ?_
  intro p e s m args below meth c ls A hx hb hr hts hown hlocks hml htab hin hw hX hl
  have hl : lv_has ls 3 [(0, .ref (ah 0)), (1, .int p0)] := hl
  have hown : s.vm.findClass RX1 = some m.cls := hown
  refine lv_aload_n hx hb dX1_rewind_0 rfl (lv_at hl 0 rfl) ?_
  refine lv_iload_n hx hb dX1_rewind_1 rfl (lv_at hl 1 rfl) ?_
  refine z_callV (As := [.int p0]) (rest := []) ⟨hx, hb, hml, hown, hts⟩ hw hX (hE.1 0 (by decide)) rfl (c_X1_windowOf l hl0 g L f ah G Rw rs wn p0 hE hG hRw) (cwV 1 hts gX1_rewind_X1_windowOf rfl rfl rfl (by decide +kernel) ⟨(Nat.le_of_ble_eq_true rfl), (Nat.le_of_ble_eq_true rfl)⟩) rfl hl.1 rfl (Nat.le_of_ble_eq_true rfl) dX1_rewind_2 ⟨(Nat.le_of_ble_eq_true rfl), (Nat.le_of_ble_eq_true rfl)⟩ (fun E ce q9 L9 f9 H locs hp hw hce hcv hcl => ?_) (fun r9 L9 f9 H locs hp hw => ?_)
  · obtain ⟨ck_1, rfl, rfl, rfl⟩ := hp
    have gz : ¬ zis σ p0 = true := fun q => ck_1 ((zH_is HR).mpr q)
    have ho : (o_rewind σ p0) = (1, 0, σ) := by unfold o_rewind; first | exact if_neg (show ¬ (zis σ p0 = true) from by assumption)
    exact z_out htab hlocks hw hce hcv hcl (Nat.le_of_ble_eq_true rfl) (Nat.le_of_ble_eq_true rfl) ⟨⟨0, rfl, by rw [ho]; rfl⟩, rfl, rfl, by rw [ho]⟩
  obtain ⟨ck_1, rfl, rfl, rfl⟩ := hp
  refine W.eq (g2 := F0 m 5 ls [.ref (ah ((Int32.toNatClampNeg p0) + 3))]) rfl ?_
  have hc_2 : zc L f (ah ((Int32.toNatClampNeg p0) + 3)) (.inr (0, zwf (wn (Int32.toNatClampNeg p0)))) := hE.1 ((Int32.toNatClampNeg p0) + 3) (by have := vp_lt ck_1.1; omega)
  have gz0 : zis σ p0 = true := (zH_is HR).mp ck_1
  have gw0 := zI_win HR.I gz0
  obtain ⟨hk0, ho0, hr0, hc0, hp0, he0, hm0⟩ := zH_win HR gz0
  refine lv_astore_n (lv' := [(2, .ref (ah ((Int32.toNatClampNeg p0) + 3))), (0, .ref (ah 0)), (1, .int p0)]) hx hb dX1_rewind_5 rfl hl (by decide) rfl (fun ls hl => ?_)
  refine lv_aload_n hx hb dX1_rewind_6 rfl (lv_at hl 0 rfl) ?_
  refine lv_iconst (v := 0) hx hb dX1_rewind_7 (by decide) ?_
  refine lv_aload_n hx hb dX1_rewind_8 rfl (lv_at hl 0 rfl) ?_
  refine zr_get (C := RX0) (T := TX0) (N := 8) (v := .int (zwe (wn (Int32.toNatClampNeg p0)))) hx hb hts hi_X1_rewind_X0 hown hw hc_2 rfl 6 (by decide) hf_X1_rewind_74 rfl dX1_rewind_9 ?_
  refine z_callV (As := [.int 0, .int (zwe (wn (Int32.toNatClampNeg p0)))]) (rest := []) ⟨hx, hb, hml, hown, hts⟩ hw hX hc_2 rfl (c_X0_moveTo l g L f (ah ((Int32.toNatClampNeg p0) + 3)) ((zwk (wn (Int32.toNatClampNeg p0))), (zwo (wn (Int32.toNatClampNeg p0))), (zws (wn (Int32.toNatClampNeg p0))), (zwr (wn (Int32.toNatClampNeg p0))), (zwc (wn (Int32.toNatClampNeg p0))), (zwp (wn (Int32.toNatClampNeg p0))), (zwe (wn (Int32.toNatClampNeg p0))), (zwm (wn (Int32.toNatClampNeg p0)))) 0 (zwe (wn (Int32.toNatClampNeg p0))) hc_2) (cwV 2 hts gX1_rewind_X0_moveTo rfl rfl rfl (by decide +kernel) ⟨(Nat.le_of_ble_eq_true rfl), (Nat.le_of_ble_eq_true rfl)⟩) rfl hl.1 rfl (Nat.le_of_ble_eq_true rfl) dX1_rewind_12 ⟨(Nat.le_of_ble_eq_true rfl), (Nat.le_of_ble_eq_true rfl)⟩ (fun _ _ _ _ _ _ _ hp => False.elim hp) (fun r9 L9 f9 H locs hp hw => ?_)
  obtain ⟨rfl, rfl, hu9⟩ := hp
  refine W.eq (g2 := F0 m 15 ls []) rfl ?_
  have hu := hu9
  obtain ⟨f_3, rfl⟩ : ∃ z, z = f9 := ⟨_, rfl⟩
  refine lv_aload_n hx hb dX1_rewind_15 rfl (lv_at hl 0 rfl) ?_
  refine z_callV (As := []) (rest := []) ⟨hx, hb, hml, hown, hts⟩ hw hX (zu_c (hc_2).1 hu) rfl (c_X0_rest l g L f_3 (ah ((Int32.toNatClampNeg p0) + 3)) ((zwk (wn (Int32.toNatClampNeg p0))), (zwo (wn (Int32.toNatClampNeg p0))), (zws (wn (Int32.toNatClampNeg p0))), (zwr (wn (Int32.toNatClampNeg p0))), (zwc (wn (Int32.toNatClampNeg p0))), 0, (zwe (wn (Int32.toNatClampNeg p0))), (-1)) (zu_c (hc_2).1 hu)) (cwV 0 hts gX1_rewind_X0_rest rfl rfl rfl (by decide +kernel) ⟨(Nat.le_of_ble_eq_true rfl), (Nat.le_of_ble_eq_true rfl)⟩) rfl hl.1 rfl (Nat.le_of_ble_eq_true rfl) dX1_rewind_16 ⟨(Nat.le_of_ble_eq_true rfl), (Nat.le_of_ble_eq_true rfl)⟩ (fun _ _ _ _ _ _ _ hp => False.elim hp) (fun r9 L9 f9 H locs hp hw => ?_)
  obtain ⟨rfl, rfl, rfl⟩ := hp
  refine W.eq (g2 := F0 m 19 ls [.int ((zwe (wn (Int32.toNatClampNeg p0))) - 0)]) rfl ?_
  obtain ⟨s9, p9, e9, hs9, hp9, he9, hpe9, hes9, hs64, hmk9⟩ := zW_nat gw0
  have HR2 := zHR_pem HR gz0 (x1 := ((zwk (wn (Int32.toNatClampNeg p0))), (zwo (wn (Int32.toNatClampNeg p0))), (zws (wn (Int32.toNatClampNeg p0))), (zwr (wn (Int32.toNatClampNeg p0))), (zwc (wn (Int32.toNatClampNeg p0))), 0, (zwe (wn (Int32.toNatClampNeg p0))), (-1))) (pl := 0) (en := (zEN σ (Int32.toNatClampNeg p0))) (mk := (-1)) (by simp only [hk0, ho0, hr0, hc0, hp0, he0, hm0]) ⟨0, e9, s9, rfl, he9, hs9, by omega, by omega, hs64, Or.inl rfl⟩
  rw [hu] at HR2
  have hfr : ∀ b, P b → f_3 b = f b := by rw [← hu]; exact zfr_win HR (by have := vp_lt (zis_7 gz0); omega)
  have ho : (o_rewind σ p0) = (0, zEN (zStands σ (Int32.toNatClampNeg p0) 0 (zEN σ (Int32.toNatClampNeg p0))) (Int32.toNatClampNeg p0), (zStands σ (Int32.toNatClampNeg p0) 0 (zEN σ (Int32.toNatClampNeg p0)))) := by unfold o_rewind; exact if_pos (show (zis σ p0 = true) from by assumption)
  exact z_iret hx hb hr hlocks hw (Nat.le_of_ble_eq_true rfl) (Nat.le_of_ble_eq_true rfl) dX1_rewind_19 ⟨by rw [ho], by rw [ho]; exact congrArg (fun z => some (Value.int z)) (show (zEN (zStands σ (Int32.toNatClampNeg p0) 0 (zEN σ (Int32.toNatClampNeg p0))) (Int32.toNatClampNeg p0) : Int32) = ((zwe (wn (Int32.toNatClampNeg p0))) - 0) from (by show upd (zEN σ) (Int32.toNatClampNeg p0) (zEN σ (Int32.toNatClampNeg p0)) (Int32.toNatClampNeg p0) = _; rw [pk_us, he0, Int32.sub_zero])), by rw [ho]; exact ⟨ah, G, Rw, rs, _, ad, _, _, _, rfl, HR2⟩, hfr⟩

set_option maxRecDepth 100000 in
set_option maxHeartbeats 4000000 in
theorem c_X1_hasLeft (l : Launch) (hl0 : l.stackTraces = false) (g : zG) (L : List Nat) (f : Nat → va_E) (h : Nat) (P : Nat → Prop) (σ : ZS) (p0 : Int32) (hH : zHC g h P σ L f) : zC l yX1_hasLeft wsX1_hasLeft { frames := 9, cells := 2, slots := 12, locals := 146 } 2 12 g [.ref h, .int p0] L f (fun r L1 f1 => (o_hasLeft σ p0).1 = 0 ∧ some (.int (o_hasLeft σ p0).2.1) = r ∧ zHC g h P (o_hasLeft σ p0).2.2 L1 f1 ∧ ∀ b, P b → f1 b = f b) (fun E L1 f1 => zXe ["java/lang/IndexOutOfBoundsException"] (o_hasLeft σ p0).1 E ∧ L = L1 ∧ f = f1 ∧ (o_hasLeft σ p0).2.2 = σ) := by
  obtain ⟨ah, G, Rw, rs, wn, ad, ln, kd, ct, rfl, HR⟩ := hH
  obtain ⟨hE, hG, hRw, -⟩ := id HR
  refine z_ofW (cc := cX1_hasLeft) (maxL := 2) (ret := (some .boolean)) (by decide) rfl (Nat.le_of_ble_eq_true rfl) ?_
  intro p e s m args below meth c ls A hx hb hr hts hown hlocks hml htab hin hw hX hl
  have hl : lv_has ls 2 [(0, .ref (ah 0)), (1, .int p0)] := hl
  have hown : s.vm.findClass RX1 = some m.cls := hown
  refine lv_aload_n hx hb dX1_hasLeft_0 rfl (lv_at hl 0 rfl) ?_
  refine lv_iload_n hx hb dX1_hasLeft_1 rfl (lv_at hl 1 rfl) ?_
  refine z_callV (As := [.int p0]) (rest := []) ⟨hx, hb, hml, hown, hts⟩ hw hX (hE.1 0 (by decide)) rfl (c_X1_windowOf l hl0 g L f ah G Rw rs wn p0 hE hG hRw) (cwV 1 hts gX1_hasLeft_X1_windowOf rfl rfl rfl (by decide +kernel) ⟨(Nat.le_of_ble_eq_true rfl), (Nat.le_of_ble_eq_true rfl)⟩) rfl hl.1 rfl (Nat.le_of_ble_eq_true rfl) dX1_hasLeft_2 ⟨(Nat.le_of_ble_eq_true rfl), (Nat.le_of_ble_eq_true rfl)⟩ (fun E ce q9 L9 f9 H locs hp hw hce hcv hcl => ?_) (fun r9 L9 f9 H locs hp hw => ?_)
  · obtain ⟨ck_1, rfl, rfl, rfl⟩ := hp
    have gz : ¬ zis σ p0 = true := fun q => ck_1 ((zH_is HR).mpr q)
    have ho : (o_hasLeft σ p0) = (1, 0, σ) := by unfold o_hasLeft; first | exact if_neg (show ¬ (zis σ p0 = true) from by assumption)
    exact z_out htab hlocks hw hce hcv hcl (Nat.le_of_ble_eq_true rfl) (Nat.le_of_ble_eq_true rfl) ⟨⟨0, rfl, by rw [ho]; rfl⟩, rfl, rfl, by rw [ho]⟩
  obtain ⟨ck_1, rfl, rfl, rfl⟩ := hp
  refine W.eq (g2 := F0 m 5 ls [.ref (ah ((Int32.toNatClampNeg p0) + 3))]) rfl ?_
  have hc_2 : zc L f (ah ((Int32.toNatClampNeg p0) + 3)) (.inr (0, zwf (wn (Int32.toNatClampNeg p0)))) := hE.1 ((Int32.toNatClampNeg p0) + 3) (by have := vp_lt ck_1.1; omega)
  have gz0 : zis σ p0 = true := (zH_is HR).mp ck_1
  have gw0 := zI_win HR.I gz0
  obtain ⟨hk0, ho0, hr0, hc0, hp0, he0, hm0⟩ := zH_win HR gz0
  refine z_callV (As := []) (rest := []) ⟨hx, hb, hml, hown, hts⟩ hw hX hc_2 rfl (c_X0_rest l g L f (ah ((Int32.toNatClampNeg p0) + 3)) ((zwk (wn (Int32.toNatClampNeg p0))), (zwo (wn (Int32.toNatClampNeg p0))), (zws (wn (Int32.toNatClampNeg p0))), (zwr (wn (Int32.toNatClampNeg p0))), (zwc (wn (Int32.toNatClampNeg p0))), (zwp (wn (Int32.toNatClampNeg p0))), (zwe (wn (Int32.toNatClampNeg p0))), (zwm (wn (Int32.toNatClampNeg p0)))) hc_2) (cwV 0 hts gX1_hasLeft_X0_rest rfl rfl rfl (by decide +kernel) ⟨(Nat.le_of_ble_eq_true rfl), (Nat.le_of_ble_eq_true rfl)⟩) rfl hl.1 rfl (Nat.le_of_ble_eq_true rfl) dX1_hasLeft_5 ⟨(Nat.le_of_ble_eq_true rfl), (Nat.le_of_ble_eq_true rfl)⟩ (fun _ _ _ _ _ _ _ hp => False.elim hp) (fun r9 L9 f9 H locs hp hw => ?_)
  obtain ⟨rfl, rfl, rfl⟩ := hp
  refine W.eq (g2 := F0 m 8 ls [.int ((zwe (wn (Int32.toNatClampNeg p0))) - (zwp (wn (Int32.toNatClampNeg p0))))]) rfl ?_
  refine lv_if_le (tgt := 15) hx hb dX1_hasLeft_8 (by decide) (fun c_3 => ?_) (fun c_3 => ?_)
  · refine lv_iconst (v := 0) hx hb dX1_hasLeft_15 (by decide) ?_
    have hz : zEN σ (Int32.toNatClampNeg p0) ≤ zPL σ (Int32.toNatClampNeg p0) := (zlt0 gw0).mp (by rw [← he0, ← hp0]; exact c_3)
    have ho : (o_hasLeft σ p0) = (0, 0, σ) := by unfold o_hasLeft; exact (if_pos (show (zis σ p0 = true) from by assumption)).trans (if_pos (show (zEN σ (Int32.toNatClampNeg p0) ≤ zPL σ (Int32.toNatClampNeg p0)) from by assumption))
    exact z_zret hx hb hr hlocks rfl hw (Nat.le_of_ble_eq_true rfl) (Nat.le_of_ble_eq_true rfl) dX1_hasLeft_16 ⟨by rw [ho], congrArg (fun z => some (Value.int z)) ((congrArg (fun q => q.2.1) ho).trans (show (0 : Int32) = 0 from rfl)), by rw [ho]; exact ⟨_, _, _, _, _, _, _, _, _, rfl, HR⟩, fun _ _ => rfl⟩
  · refine lv_iconst (v := 1) hx hb dX1_hasLeft_11 (by decide) ?_
    refine lv_goto (tgt := 16) hx hb dX1_hasLeft_12 (by decide) ?_
    have hz : ¬ zEN σ (Int32.toNatClampNeg p0) ≤ zPL σ (Int32.toNatClampNeg p0) := fun q => c_3 (by rw [he0, hp0]; exact (zlt0 gw0).mpr q)
    have ho : (o_hasLeft σ p0) = (0, 1, σ) := by unfold o_hasLeft; exact (if_pos (show (zis σ p0 = true) from by assumption)).trans (if_neg (show ¬ (zEN σ (Int32.toNatClampNeg p0) ≤ zPL σ (Int32.toNatClampNeg p0)) from by assumption))
    exact z_zret hx hb hr hlocks rfl hw (Nat.le_of_ble_eq_true rfl) (Nat.le_of_ble_eq_true rfl) dX1_hasLeft_16 ⟨by rw [ho], congrArg (fun z => some (Value.int z)) ((congrArg (fun q => q.2.1) ho).trans (show (1 : Int32) = 1 from rfl)), by rw [ho]; exact ⟨_, _, _, _, _, _, _, _, _, rfl, HR⟩, fun _ _ => rfl⟩

theorem hi_X1_isReadOnly_X0 : ∀ w ∈ wsX00, w ∈ wsX1_isReadOnly := by decide +kernel
theorem hf_X1_isReadOnly_85 : Cond.fieldLink RX1 85 (TX0 1).1 (TX0 1).2.1 (TX0 1).2.2.1 ∈ wsX1_isReadOnly := by decide +kernel
set_option maxRecDepth 100000 in
set_option maxHeartbeats 4000000 in
theorem c_X1_isReadOnly (l : Launch) (hl0 : l.stackTraces = false) (g : zG) (L : List Nat) (f : Nat → va_E) (h : Nat) (P : Nat → Prop) (σ : ZS) (p0 : Int32) (hH : zHC g h P σ L f) : zC l yX1_isReadOnly wsX1_isReadOnly { frames := 9, cells := 2, slots := 12, locals := 146 } 2 12 g [.ref h, .int p0] L f (fun r L1 f1 => (o_isReadOnly σ p0).1 = 0 ∧ some (.int (o_isReadOnly σ p0).2.1) = r ∧ zHC g h P (o_isReadOnly σ p0).2.2 L1 f1 ∧ ∀ b, P b → f1 b = f b) (fun E L1 f1 => zXe ["java/lang/IndexOutOfBoundsException"] (o_isReadOnly σ p0).1 E ∧ L = L1 ∧ f = f1 ∧ (o_isReadOnly σ p0).2.2 = σ) := by
  obtain ⟨ah, G, Rw, rs, wn, ad, ln, kd, ct, rfl, HR⟩ := hH
  obtain ⟨hE, hG, hRw, -⟩ := id HR
  refine z_ofW (cc := cX1_isReadOnly) (maxL := 2) (ret := (some .boolean)) (by decide) rfl (Nat.le_of_ble_eq_true rfl) ?_
  intro p e s m args below meth c ls A hx hb hr hts hown hlocks hml htab hin hw hX hl
  have hl : lv_has ls 2 [(0, .ref (ah 0)), (1, .int p0)] := hl
  have hown : s.vm.findClass RX1 = some m.cls := hown
  refine lv_aload_n hx hb dX1_isReadOnly_0 rfl (lv_at hl 0 rfl) ?_
  refine lv_iload_n hx hb dX1_isReadOnly_1 rfl (lv_at hl 1 rfl) ?_
  refine z_callV (As := [.int p0]) (rest := []) ⟨hx, hb, hml, hown, hts⟩ hw hX (hE.1 0 (by decide)) rfl (c_X1_windowOf l hl0 g L f ah G Rw rs wn p0 hE hG hRw) (cwV 1 hts gX1_isReadOnly_X1_windowOf rfl rfl rfl (by decide +kernel) ⟨(Nat.le_of_ble_eq_true rfl), (Nat.le_of_ble_eq_true rfl)⟩) rfl hl.1 rfl (Nat.le_of_ble_eq_true rfl) dX1_isReadOnly_2 ⟨(Nat.le_of_ble_eq_true rfl), (Nat.le_of_ble_eq_true rfl)⟩ (fun E ce q9 L9 f9 H locs hp hw hce hcv hcl => ?_) (fun r9 L9 f9 H locs hp hw => ?_)
  · obtain ⟨ck_1, rfl, rfl, rfl⟩ := hp
    have gz : ¬ zis σ p0 = true := fun q => ck_1 ((zH_is HR).mpr q)
    have ho : (o_isReadOnly σ p0) = (1, 0, σ) := by unfold o_isReadOnly; first | exact if_neg (show ¬ (zis σ p0 = true) from by assumption)
    exact z_out htab hlocks hw hce hcv hcl (Nat.le_of_ble_eq_true rfl) (Nat.le_of_ble_eq_true rfl) ⟨⟨0, rfl, by rw [ho]; rfl⟩, rfl, rfl, by rw [ho]⟩
  obtain ⟨ck_1, rfl, rfl, rfl⟩ := hp
  refine W.eq (g2 := F0 m 5 ls [.ref (ah ((Int32.toNatClampNeg p0) + 3))]) rfl ?_
  have hc_2 : zc L f (ah ((Int32.toNatClampNeg p0) + 3)) (.inr (0, zwf (wn (Int32.toNatClampNeg p0)))) := hE.1 ((Int32.toNatClampNeg p0) + 3) (by have := vp_lt ck_1.1; omega)
  have gz0 : zis σ p0 = true := (zH_is HR).mp ck_1
  have gw0 := zI_win HR.I gz0
  obtain ⟨hk0, ho0, hr0, hc0, hp0, he0, hm0⟩ := zH_win HR gz0
  refine zr_get (C := RX0) (T := TX0) (N := 8) (v := .int (zwo (wn (Int32.toNatClampNeg p0)))) hx hb hts hi_X1_isReadOnly_X0 hown hw hc_2 rfl 1 (by decide) hf_X1_isReadOnly_85 rfl dX1_isReadOnly_5 ?_
  have ho : (o_isReadOnly σ p0) = (0, zRD σ (Int32.toNatClampNeg p0), σ) := oz_isReadOnly gz0 (zWin_rd gw0)
  exact z_zret hx hb hr hlocks (zbool_of (by rw [ho0]; exact zWin_rd gw0)).1 hw (Nat.le_of_ble_eq_true rfl) (Nat.le_of_ble_eq_true rfl) dX1_isReadOnly_8 ⟨by rw [ho], congrArg (fun z => some (Value.int z)) ((congrArg (fun q => q.2.1) ho).trans (show (zRD σ (Int32.toNatClampNeg p0) : Int32) = (zwo (wn (Int32.toNatClampNeg p0))) from (by first | rfl | simp only [hk0, ho0, hr0, hc0, hp0, he0, hm0]))), by rw [ho]; exact ⟨_, _, _, _, _, _, _, _, _, rfl, HR⟩, fun _ _ => rfl⟩

theorem hi_X1_placeAt_X0 : ∀ w ∈ wsX00, w ∈ wsX1_placeAt := by decide +kernel
theorem hf_X1_placeAt_63 : Cond.fieldLink RX1 63 (TX0 5).1 (TX0 5).2.1 (TX0 5).2.2.1 ∈ wsX1_placeAt := by decide +kernel
theorem hf_X1_placeAt_74 : Cond.fieldLink RX1 74 (TX0 6).1 (TX0 6).2.1 (TX0 6).2.2.1 ∈ wsX1_placeAt := by decide +kernel
set_option maxRecDepth 100000 in
set_option maxHeartbeats 4000000 in
theorem c_X1_placeAt (l : Launch) (hl0 : l.stackTraces = false) (g : zG) (L : List Nat) (f : Nat → va_E) (h : Nat) (P : Nat → Prop) (σ : ZS) (p0 : Int32) (p1 : Int32) (hH : zHC g h P σ L f) : zC l yX1_placeAt wsX1_placeAt { frames := 9, cells := 3, slots := 18, locals := 146 } 3 18 g [.ref h, .int p0, .int p1] L f (fun r L1 f1 => (o_placeAt σ p0 p1).1 = 0 ∧ some (.int (o_placeAt σ p0 p1).2.1) = r ∧ zHC g h P (o_placeAt σ p0 p1).2.2 L1 f1 ∧ ∀ b, P b → f1 b = f b) (fun E L1 f1 => zXe ["java/lang/IndexOutOfBoundsException", "java/lang/IllegalArgumentException"] (o_placeAt σ p0 p1).1 E ∧ L = L1 ∧ f = f1 ∧ (o_placeAt σ p0 p1).2.2 = σ) := by
  obtain ⟨ah, G, Rw, rs, wn, ad, ln, kd, ct, rfl, HR⟩ := hH
  obtain ⟨hE, hG, hRw, -⟩ := id HR
  refine z_ofW (cc := cX1_placeAt) (maxL := 5) (ret := (some .int)) (by decide) rfl (Nat.le_of_ble_eq_true rfl) ?_
  intro p e s m args below meth c ls A hx hb hr hts hown hlocks hml htab hin hw hX hl
  have hl : lv_has ls 5 [(0, .ref (ah 0)), (1, .int p0), (2, .int p1)] := hl
  have hown : s.vm.findClass RX1 = some m.cls := hown
  refine lv_aload_n hx hb dX1_placeAt_0 rfl (lv_at hl 0 rfl) ?_
  refine lv_iload_n hx hb dX1_placeAt_1 rfl (lv_at hl 1 rfl) ?_
  refine z_callV (As := [.int p0]) (rest := []) ⟨hx, hb, hml, hown, hts⟩ hw hX (hE.1 0 (by decide)) rfl (c_X1_windowOf l hl0 g L f ah G Rw rs wn p0 hE hG hRw) (cwV 1 hts gX1_placeAt_X1_windowOf rfl rfl rfl (by decide +kernel) ⟨(Nat.le_of_ble_eq_true rfl), (Nat.le_of_ble_eq_true rfl)⟩) rfl hl.1 rfl (Nat.le_of_ble_eq_true rfl) dX1_placeAt_2 ⟨(Nat.le_of_ble_eq_true rfl), (Nat.le_of_ble_eq_true rfl)⟩ (fun E ce q9 L9 f9 H locs hp hw hce hcv hcl => ?_) (fun r9 L9 f9 H locs hp hw => ?_)
  · obtain ⟨ck_1, rfl, rfl, rfl⟩ := hp
    have gz : ¬ zis σ p0 = true := fun q => ck_1 ((zH_is HR).mpr q)
    have ho : (o_placeAt σ p0 p1) = (1, 0, σ) := by unfold o_placeAt; first | exact if_neg (show ¬ (zis σ p0 = true) from by assumption)
    exact z_out htab hlocks hw hce hcv hcl (Nat.le_of_ble_eq_true rfl) (Nat.le_of_ble_eq_true rfl) ⟨⟨0, rfl, by rw [ho]; rfl⟩, rfl, rfl, by rw [ho]⟩
  obtain ⟨ck_1, rfl, rfl, rfl⟩ := hp
  refine W.eq (g2 := F0 m 5 ls [.ref (ah ((Int32.toNatClampNeg p0) + 3))]) rfl ?_
  have hc_2 : zc L f (ah ((Int32.toNatClampNeg p0) + 3)) (.inr (0, zwf (wn (Int32.toNatClampNeg p0)))) := hE.1 ((Int32.toNatClampNeg p0) + 3) (by have := vp_lt ck_1.1; omega)
  have gz0 : zis σ p0 = true := (zH_is HR).mp ck_1
  have gw0 := zI_win HR.I gz0
  obtain ⟨hk0, ho0, hr0, hc0, hp0, he0, hm0⟩ := zH_win HR gz0
  refine lv_astore_n (lv' := [(3, .ref (ah ((Int32.toNatClampNeg p0) + 3))), (0, .ref (ah 0)), (1, .int p0), (2, .int p1)]) hx hb dX1_placeAt_5 rfl hl (by decide) rfl (fun ls hl => ?_)
  refine lv_iload_n hx hb dX1_placeAt_6 rfl (lv_at hl 3 rfl) ?_
  refine lv_aload_n hx hb dX1_placeAt_7 rfl (lv_at hl 0 rfl) ?_
  refine zr_get (C := RX0) (T := TX0) (N := 8) (v := .int (zwe (wn (Int32.toNatClampNeg p0)))) hx hb hts hi_X1_placeAt_X0 hown hw hc_2 rfl 6 (by decide) hf_X1_placeAt_74 rfl dX1_placeAt_8 ?_
  refine z_callS (As := [.int p1, .int (zwe (wn (Int32.toNatClampNeg p0)))]) (rest := []) ⟨hx, hb, hml, hown, hts⟩ hw hX (c_X1_checkBound l hl0 g L f p1 (zwe (wn (Int32.toNatClampNeg p0)))) (va_cwS 2 hts gX1_placeAt_X1_checkBound rfl rfl rfl (by decide +kernel) ⟨(Nat.le_of_ble_eq_true rfl), (Nat.le_of_ble_eq_true rfl)⟩) rfl hl.1 rfl (Nat.le_of_ble_eq_true rfl) dX1_placeAt_11 ⟨(Nat.le_of_ble_eq_true rfl), (Nat.le_of_ble_eq_true rfl)⟩ (fun E ce q9 L9 f9 H locs hp hw hce hcv hcl => ?_) (fun r9 L9 f9 H locs hp hw => ?_)
  · obtain ⟨rfl, rfl, rfl, ck_3⟩ := hp
    have gb : ¬ zin p1 0 (zEN σ (Int32.toNatClampNeg p0)) = true := fun q => ck_3 ⟨Int32.not_lt.mpr (zin_t.mp q).1, by rw [he0]; exact (zin_t.mp q).2⟩
    have ho : (o_placeAt σ p0 p1) = (2, 0, σ) := by unfold o_placeAt; first | exact (if_pos (show (zis σ p0 = true) from by assumption)).trans (if_neg (show ¬ (zin p1 0 (zEN σ (Int32.toNatClampNeg p0)) = true) from by assumption))
    exact z_out htab hlocks hw hce hcv hcl (Nat.le_of_ble_eq_true rfl) (Nat.le_of_ble_eq_true rfl) ⟨⟨1, rfl, by rw [ho]; rfl⟩, rfl, rfl, by rw [ho]⟩
  obtain ⟨rfl, rfl, rfl, ck_3⟩ := hp
  refine W.eq (g2 := F0 m 14 ls []) rfl ?_
  have gb : zin p1 0 (zEN σ (Int32.toNatClampNeg p0)) = true := zin_t.mpr ⟨Int32.not_lt.mp ck_3.1, by rw [← he0]; exact ck_3.2⟩
  refine lv_aload_n hx hb dX1_placeAt_14 rfl (lv_at hl 0 rfl) ?_
  refine zr_get (C := RX0) (T := TX0) (N := 8) (v := .int (zwp (wn (Int32.toNatClampNeg p0)))) hx hb hts hi_X1_placeAt_X0 hown hw hc_2 rfl 5 (by decide) hf_X1_placeAt_63 rfl dX1_placeAt_15 ?_
  refine lv_istore (lv' := [(4, .int (zwp (wn (Int32.toNatClampNeg p0)))), (3, .ref (ah ((Int32.toNatClampNeg p0) + 3))), (0, .ref (ah 0)), (1, .int p0), (2, .int p1)]) hx hb dX1_placeAt_18 hl (by decide) rfl (fun ls hl => ?_)
  refine lv_aload_n hx hb dX1_placeAt_20 rfl (lv_at hl 1 rfl) ?_
  refine lv_iload_n hx hb dX1_placeAt_21 rfl (lv_at hl 4 rfl) ?_
  have hu := zu_id (hc_2).2
  refine zw_put (X1 := ((zwk (wn (Int32.toNatClampNeg p0))), (zwo (wn (Int32.toNatClampNeg p0))), (zws (wn (Int32.toNatClampNeg p0))), (zwr (wn (Int32.toNatClampNeg p0))), (zwc (wn (Int32.toNatClampNeg p0))), p1, (zwe (wn (Int32.toNatClampNeg p0))), (zwm (wn (Int32.toNatClampNeg p0))))) (ty := .int) hx hb hts hi_X1_placeAt_X0 hown hw (hc_2).1 hu 5 (by decide) hf_X1_placeAt_63 rfl rfl rfl rfl rfl dX1_placeAt_22 (fun f_4 H locs hu hw => ?_)
  refine lv_aload_n hx hb dX1_placeAt_25 rfl (lv_at hl 1 rfl) ?_
  refine lv_iload_n hx hb dX1_placeAt_26 rfl (lv_at hl 4 rfl) ?_
  refine z_callV (As := [.int p1]) (rest := []) ⟨hx, hb, hml, hown, hts⟩ hw hX (zu_c (hc_2).1 hu) rfl (c_X0_dropMarkBeyond l g L f_4 (ah ((Int32.toNatClampNeg p0) + 3)) ((zwk (wn (Int32.toNatClampNeg p0))), (zwo (wn (Int32.toNatClampNeg p0))), (zws (wn (Int32.toNatClampNeg p0))), (zwr (wn (Int32.toNatClampNeg p0))), (zwc (wn (Int32.toNatClampNeg p0))), p1, (zwe (wn (Int32.toNatClampNeg p0))), (zwm (wn (Int32.toNatClampNeg p0)))) p1 (zu_c (hc_2).1 hu)) (cwV 1 hts gX1_placeAt_X0_dropMarkBeyond rfl rfl rfl (by decide +kernel) ⟨(Nat.le_of_ble_eq_true rfl), (Nat.le_of_ble_eq_true rfl)⟩) rfl hl.1 rfl (Nat.le_of_ble_eq_true rfl) dX1_placeAt_27 ⟨(Nat.le_of_ble_eq_true rfl), (Nat.le_of_ble_eq_true rfl)⟩ (fun _ _ _ _ _ _ _ hp => False.elim hp) (fun r9 L9 f9 H locs hp hw => ?_)
  obtain ⟨rfl, rfl, hu9⟩ := hp
  refine W.eq (g2 := F0 m 30 ls []) rfl ?_
  have hu := (show va_up f (ah ((Int32.toNatClampNeg p0) + 3)) (.inr (0, zwf ((zwk (wn (Int32.toNatClampNeg p0))), (zwo (wn (Int32.toNatClampNeg p0))), (zws (wn (Int32.toNatClampNeg p0))), (zwr (wn (Int32.toNatClampNeg p0))), (zwc (wn (Int32.toNatClampNeg p0))), p1, (zwe (wn (Int32.toNatClampNeg p0))), (if (zwm (wn (Int32.toNatClampNeg p0))) ≤ p1 then (zwm (wn (Int32.toNatClampNeg p0))) else -1)))) = f9 from by rw [← hu9, ← hu, zu_up])
  obtain ⟨f_5, rfl⟩ : ∃ z, z = f9 := ⟨_, rfl⟩
  refine lv_iload hx hb dX1_placeAt_30 (lv_at hl 0 rfl) ?_
  obtain ⟨s9, p9, e9, hs9, hp9, he9, hpe9, hes9, hs64, hmk9⟩ := zW_nat gw0
  obtain ⟨x9, hx9, hpx9⟩ := zin_n (n := e9) (by omega) (by rw [← he9]; exact gb)
  have HR2 := zHR_pem HR gz0 (x1 := ((zwk (wn (Int32.toNatClampNeg p0))), (zwo (wn (Int32.toNatClampNeg p0))), (zws (wn (Int32.toNatClampNeg p0))), (zwr (wn (Int32.toNatClampNeg p0))), (zwc (wn (Int32.toNatClampNeg p0))), p1, (zwe (wn (Int32.toNatClampNeg p0))), (if (zwm (wn (Int32.toNatClampNeg p0))) ≤ p1 then (zwm (wn (Int32.toNatClampNeg p0))) else -1))) (pl := p1) (en := (zEN σ (Int32.toNatClampNeg p0))) (mk := (if zMK σ (Int32.toNatClampNeg p0) ≤ p1 then zMK σ (Int32.toNatClampNeg p0) else -1)) (by simp only [hk0, ho0, hr0, hc0, hp0, he0, hm0]) ⟨x9, e9, s9, hpx9, he9, hs9, hx9, by omega, by omega, by rw [hpx9]; exact zmk_if (by omega) (by omega) hmk9⟩
  rw [hu] at HR2
  have hfr : ∀ b, P b → f_5 b = f b := by rw [← hu]; exact zfr_win HR (by have := vp_lt (zis_7 gz0); omega)
  have ho : (o_placeAt σ p0 p1) = (0, zPL σ (Int32.toNatClampNeg p0), zPem σ (Int32.toNatClampNeg p0) p1 (zEN σ (Int32.toNatClampNeg p0)) (if zMK σ (Int32.toNatClampNeg p0) ≤ p1 then zMK σ (Int32.toNatClampNeg p0) else -1)) := oz_placeAt gz0 gb
  exact z_iret hx hb hr hlocks hw (Nat.le_of_ble_eq_true rfl) (Nat.le_of_ble_eq_true rfl) dX1_placeAt_32 ⟨by rw [ho], congrArg (fun z => some (Value.int z)) ((congrArg (fun q => q.2.1) ho).trans (show (zPL σ (Int32.toNatClampNeg p0) : Int32) = (zwp (wn (Int32.toNatClampNeg p0))) from (by first | rfl | simp only [hk0, ho0, hr0, hc0, hp0, he0, hm0]))), by rw [ho]; exact ⟨_, _, _, _, _, _, _, _, _, rfl, HR2⟩, hfr⟩

theorem hi_X1_endAt_X0 : ∀ w ∈ wsX00, w ∈ wsX1_endAt := by decide +kernel
theorem hf_X1_endAt_56 : Cond.fieldLink RX1 56 (TX0 4).1 (TX0 4).2.1 (TX0 4).2.2.1 ∈ wsX1_endAt := by decide +kernel
theorem hf_X1_endAt_63 : Cond.fieldLink RX1 63 (TX0 5).1 (TX0 5).2.1 (TX0 5).2.2.1 ∈ wsX1_endAt := by decide +kernel
theorem hf_X1_endAt_74 : Cond.fieldLink RX1 74 (TX0 6).1 (TX0 6).2.1 (TX0 6).2.2.1 ∈ wsX1_endAt := by decide +kernel
set_option maxRecDepth 100000 in
set_option maxHeartbeats 4000000 in
theorem c_X1_endAt (l : Launch) (hl0 : l.stackTraces = false) (g : zG) (L : List Nat) (f : Nat → va_E) (h : Nat) (P : Nat → Prop) (σ : ZS) (p0 : Int32) (p1 : Int32) (hH : zHC g h P σ L f) : zC l yX1_endAt wsX1_endAt { frames := 9, cells := 3, slots := 18, locals := 146 } 3 18 g [.ref h, .int p0, .int p1] L f (fun r L1 f1 => (o_endAt σ p0 p1).1 = 0 ∧ some (.int (o_endAt σ p0 p1).2.1) = r ∧ zHC g h P (o_endAt σ p0 p1).2.2 L1 f1 ∧ ∀ b, P b → f1 b = f b) (fun E L1 f1 => zXe ["java/lang/IndexOutOfBoundsException", "java/lang/IllegalArgumentException"] (o_endAt σ p0 p1).1 E ∧ L = L1 ∧ f = f1 ∧ (o_endAt σ p0 p1).2.2 = σ) := by
  obtain ⟨ah, G, Rw, rs, wn, ad, ln, kd, ct, rfl, HR⟩ := hH
  obtain ⟨hE, hG, hRw, -⟩ := id HR
  refine z_ofW (cc := cX1_endAt) (maxL := 5) (ret := (some .int)) (by decide) rfl (Nat.le_of_ble_eq_true rfl) ?_
  intro p e s m args below meth c ls A hx hb hr hts hown hlocks hml htab hin hw hX hl
  have hl : lv_has ls 5 [(0, .ref (ah 0)), (1, .int p0), (2, .int p1)] := hl
  have hown : s.vm.findClass RX1 = some m.cls := hown
  refine lv_aload_n hx hb dX1_endAt_0 rfl (lv_at hl 0 rfl) ?_
  refine lv_iload_n hx hb dX1_endAt_1 rfl (lv_at hl 1 rfl) ?_
  refine z_callV (As := [.int p0]) (rest := []) ⟨hx, hb, hml, hown, hts⟩ hw hX (hE.1 0 (by decide)) rfl (c_X1_windowOf l hl0 g L f ah G Rw rs wn p0 hE hG hRw) (cwV 1 hts gX1_endAt_X1_windowOf rfl rfl rfl (by decide +kernel) ⟨(Nat.le_of_ble_eq_true rfl), (Nat.le_of_ble_eq_true rfl)⟩) rfl hl.1 rfl (Nat.le_of_ble_eq_true rfl) dX1_endAt_2 ⟨(Nat.le_of_ble_eq_true rfl), (Nat.le_of_ble_eq_true rfl)⟩ (fun E ce q9 L9 f9 H locs hp hw hce hcv hcl => ?_) (fun r9 L9 f9 H locs hp hw => ?_)
  · obtain ⟨ck_1, rfl, rfl, rfl⟩ := hp
    have gz : ¬ zis σ p0 = true := fun q => ck_1 ((zH_is HR).mpr q)
    have ho : (o_endAt σ p0 p1) = (1, 0, σ) := by unfold o_endAt; first | exact if_neg (show ¬ (zis σ p0 = true) from by assumption)
    exact z_out htab hlocks hw hce hcv hcl (Nat.le_of_ble_eq_true rfl) (Nat.le_of_ble_eq_true rfl) ⟨⟨0, rfl, by rw [ho]; rfl⟩, rfl, rfl, by rw [ho]⟩
  obtain ⟨ck_1, rfl, rfl, rfl⟩ := hp
  refine W.eq (g2 := F0 m 5 ls [.ref (ah ((Int32.toNatClampNeg p0) + 3))]) rfl ?_
  have hc_2 : zc L f (ah ((Int32.toNatClampNeg p0) + 3)) (.inr (0, zwf (wn (Int32.toNatClampNeg p0)))) := hE.1 ((Int32.toNatClampNeg p0) + 3) (by have := vp_lt ck_1.1; omega)
  have gz0 : zis σ p0 = true := (zH_is HR).mp ck_1
  have gw0 := zI_win HR.I gz0
  obtain ⟨hk0, ho0, hr0, hc0, hp0, he0, hm0⟩ := zH_win HR gz0
  refine lv_astore_n (lv' := [(3, .ref (ah ((Int32.toNatClampNeg p0) + 3))), (0, .ref (ah 0)), (1, .int p0), (2, .int p1)]) hx hb dX1_endAt_5 rfl hl (by decide) rfl (fun ls hl => ?_)
  refine lv_iload_n hx hb dX1_endAt_6 rfl (lv_at hl 3 rfl) ?_
  refine lv_aload_n hx hb dX1_endAt_7 rfl (lv_at hl 0 rfl) ?_
  refine zr_get (C := RX0) (T := TX0) (N := 8) (v := .int (zwc (wn (Int32.toNatClampNeg p0)))) hx hb hts hi_X1_endAt_X0 hown hw hc_2 rfl 4 (by decide) hf_X1_endAt_56 rfl dX1_endAt_8 ?_
  refine z_callS (As := [.int p1, .int (zwc (wn (Int32.toNatClampNeg p0)))]) (rest := []) ⟨hx, hb, hml, hown, hts⟩ hw hX (c_X1_checkBound l hl0 g L f p1 (zwc (wn (Int32.toNatClampNeg p0)))) (va_cwS 2 hts gX1_endAt_X1_checkBound rfl rfl rfl (by decide +kernel) ⟨(Nat.le_of_ble_eq_true rfl), (Nat.le_of_ble_eq_true rfl)⟩) rfl hl.1 rfl (Nat.le_of_ble_eq_true rfl) dX1_endAt_11 ⟨(Nat.le_of_ble_eq_true rfl), (Nat.le_of_ble_eq_true rfl)⟩ (fun E ce q9 L9 f9 H locs hp hw hce hcv hcl => ?_) (fun r9 L9 f9 H locs hp hw => ?_)
  · obtain ⟨rfl, rfl, rfl, ck_3⟩ := hp
    have gb : ¬ zin p1 0 (zSZ σ (Int32.toNatClampNeg p0)) = true := fun q => ck_3 ⟨Int32.not_lt.mpr (zin_t.mp q).1, by rw [hc0]; exact (zin_t.mp q).2⟩
    have ho : (o_endAt σ p0 p1) = (2, 0, σ) := by unfold o_endAt; first | exact (if_pos (show (zis σ p0 = true) from by assumption)).trans (if_neg (show ¬ (zin p1 0 (zSZ σ (Int32.toNatClampNeg p0)) = true) from by assumption))
    exact z_out htab hlocks hw hce hcv hcl (Nat.le_of_ble_eq_true rfl) (Nat.le_of_ble_eq_true rfl) ⟨⟨1, rfl, by rw [ho]; rfl⟩, rfl, rfl, by rw [ho]⟩
  obtain ⟨rfl, rfl, rfl, ck_3⟩ := hp
  refine W.eq (g2 := F0 m 14 ls []) rfl ?_
  have gb : zin p1 0 (zSZ σ (Int32.toNatClampNeg p0)) = true := zin_t.mpr ⟨Int32.not_lt.mp ck_3.1, by rw [← hc0]; exact ck_3.2⟩
  refine lv_aload_n hx hb dX1_endAt_14 rfl (lv_at hl 0 rfl) ?_
  refine zr_get (C := RX0) (T := TX0) (N := 8) (v := .int (zwe (wn (Int32.toNatClampNeg p0)))) hx hb hts hi_X1_endAt_X0 hown hw hc_2 rfl 6 (by decide) hf_X1_endAt_74 rfl dX1_endAt_15 ?_
  refine lv_istore (lv' := [(4, .int (zwe (wn (Int32.toNatClampNeg p0)))), (3, .ref (ah ((Int32.toNatClampNeg p0) + 3))), (0, .ref (ah 0)), (1, .int p0), (2, .int p1)]) hx hb dX1_endAt_18 hl (by decide) rfl (fun ls hl => ?_)
  refine lv_aload_n hx hb dX1_endAt_20 rfl (lv_at hl 1 rfl) ?_
  refine lv_iload_n hx hb dX1_endAt_21 rfl (lv_at hl 4 rfl) ?_
  have hu := zu_id (hc_2).2
  refine zw_put (X1 := ((zwk (wn (Int32.toNatClampNeg p0))), (zwo (wn (Int32.toNatClampNeg p0))), (zws (wn (Int32.toNatClampNeg p0))), (zwr (wn (Int32.toNatClampNeg p0))), (zwc (wn (Int32.toNatClampNeg p0))), (zwp (wn (Int32.toNatClampNeg p0))), p1, (zwm (wn (Int32.toNatClampNeg p0))))) (ty := .int) hx hb hts hi_X1_endAt_X0 hown hw (hc_2).1 hu 6 (by decide) hf_X1_endAt_74 rfl rfl rfl rfl rfl dX1_endAt_22 (fun f_4 H locs hu hw => ?_)
  refine lv_aload_n hx hb dX1_endAt_25 rfl (lv_at hl 1 rfl) ?_
  refine lv_aload_n hx hb dX1_endAt_26 rfl (lv_at hl 1 rfl) ?_
  refine zr_get (C := RX0) (T := TX0) (N := 8) (v := .int (zwp (wn (Int32.toNatClampNeg p0)))) hx hb hts hi_X1_endAt_X0 hown hw (zu_c (hc_2).1 hu) rfl 5 (by decide) hf_X1_endAt_63 rfl dX1_endAt_27 ?_
  refine lv_iload_n hx hb dX1_endAt_30 rfl (lv_at hl 4 rfl) ?_
  refine va_mmin hx hb (hml.trans hl.1.symm) hown (hts (.methodLink RX1 99 Lib.Math.min.name) (by decide +kernel)) (hts (.static Lib.Math.min.name) (by decide +kernel)) (hts (.initialized "java/lang/Math") (by decide +kernel)) (hts (.code Lib.Math.min.name Lib.Math.min.code 2 (some .int)) (by decide +kernel)) (Nat.le_of_ble_eq_true rfl) (Nat.le_of_ble_eq_true rfl) (Nat.le_of_ble_eq_true rfl) (Nat.le_of_ble_eq_true rfl) dX1_endAt_31 ?_
  refine zw_put (X1 := ((zwk (wn (Int32.toNatClampNeg p0))), (zwo (wn (Int32.toNatClampNeg p0))), (zws (wn (Int32.toNatClampNeg p0))), (zwr (wn (Int32.toNatClampNeg p0))), (zwc (wn (Int32.toNatClampNeg p0))), (if p1 < (zwp (wn (Int32.toNatClampNeg p0))) then p1 else (zwp (wn (Int32.toNatClampNeg p0)))), p1, (zwm (wn (Int32.toNatClampNeg p0))))) (ty := .int) hx hb hts hi_X1_endAt_X0 hown hw (hc_2).1 hu 5 (by decide) hf_X1_endAt_63 rfl rfl rfl rfl rfl dX1_endAt_34 (fun f_5 H locs hu hw => ?_)
  refine lv_aload_n hx hb dX1_endAt_37 rfl (lv_at hl 1 rfl) ?_
  refine lv_iload_n hx hb dX1_endAt_38 rfl (lv_at hl 4 rfl) ?_
  refine z_callV (As := [.int p1]) (rest := []) ⟨hx, hb, hml, hown, hts⟩ hw hX (zu_c (hc_2).1 hu) rfl (c_X0_dropMarkBeyond l g L f_5 (ah ((Int32.toNatClampNeg p0) + 3)) ((zwk (wn (Int32.toNatClampNeg p0))), (zwo (wn (Int32.toNatClampNeg p0))), (zws (wn (Int32.toNatClampNeg p0))), (zwr (wn (Int32.toNatClampNeg p0))), (zwc (wn (Int32.toNatClampNeg p0))), (if p1 < (zwp (wn (Int32.toNatClampNeg p0))) then p1 else (zwp (wn (Int32.toNatClampNeg p0)))), p1, (zwm (wn (Int32.toNatClampNeg p0)))) p1 (zu_c (hc_2).1 hu)) (cwV 1 hts gX1_endAt_X0_dropMarkBeyond rfl rfl rfl (by decide +kernel) ⟨(Nat.le_of_ble_eq_true rfl), (Nat.le_of_ble_eq_true rfl)⟩) rfl hl.1 rfl (Nat.le_of_ble_eq_true rfl) dX1_endAt_39 ⟨(Nat.le_of_ble_eq_true rfl), (Nat.le_of_ble_eq_true rfl)⟩ (fun _ _ _ _ _ _ _ hp => False.elim hp) (fun r9 L9 f9 H locs hp hw => ?_)
  obtain ⟨rfl, rfl, hu9⟩ := hp
  refine W.eq (g2 := F0 m 42 ls []) rfl ?_
  have hu := (show va_up f (ah ((Int32.toNatClampNeg p0) + 3)) (.inr (0, zwf ((zwk (wn (Int32.toNatClampNeg p0))), (zwo (wn (Int32.toNatClampNeg p0))), (zws (wn (Int32.toNatClampNeg p0))), (zwr (wn (Int32.toNatClampNeg p0))), (zwc (wn (Int32.toNatClampNeg p0))), (if p1 < (zwp (wn (Int32.toNatClampNeg p0))) then p1 else (zwp (wn (Int32.toNatClampNeg p0)))), p1, (if (zwm (wn (Int32.toNatClampNeg p0))) ≤ p1 then (zwm (wn (Int32.toNatClampNeg p0))) else -1)))) = f9 from by rw [← hu9, ← hu, zu_up])
  obtain ⟨f_6, rfl⟩ : ∃ z, z = f9 := ⟨_, rfl⟩
  refine lv_iload hx hb dX1_endAt_42 (lv_at hl 0 rfl) ?_
  obtain ⟨s9, p9, e9, hs9, hp9, he9, hpe9, hes9, hs64, hmk9⟩ := zW_nat gw0
  obtain ⟨x9, hx9, hpx9⟩ := zin_n (n := s9) (by omega) (by rw [← hs9]; exact gb)
  have zmin9 : (if nI x9 < zPL σ (Int32.toNatClampNeg p0) then nI x9 else zPL σ (Int32.toNatClampNeg p0)) = nI (if x9 < p9 then x9 else p9) := by rw [hp9]; exact zmin_n (by omega) (by omega)
  have hmk8 : (if zMK σ (Int32.toNatClampNeg p0) ≤ nI x9 then zMK σ (Int32.toNatClampNeg p0) else -1) = -1 ∨ ∃ k, k ≤ (if x9 < p9 then x9 else p9) ∧ (if zMK σ (Int32.toNatClampNeg p0) ≤ nI x9 then zMK σ (Int32.toNatClampNeg p0) else -1) = nI k := by
    rcases zmk_if2 (x := x9) (by omega) (by omega) hmk9 with q | ⟨k, ⟨q1, q2⟩, q3⟩
    · exact Or.inl q
    · exact Or.inr ⟨k, by split <;> omega, q3⟩
  have HR2 := zHR_pem HR gz0 (x1 := ((zwk (wn (Int32.toNatClampNeg p0))), (zwo (wn (Int32.toNatClampNeg p0))), (zws (wn (Int32.toNatClampNeg p0))), (zwr (wn (Int32.toNatClampNeg p0))), (zwc (wn (Int32.toNatClampNeg p0))), (if p1 < (zwp (wn (Int32.toNatClampNeg p0))) then p1 else (zwp (wn (Int32.toNatClampNeg p0)))), p1, (if (zwm (wn (Int32.toNatClampNeg p0))) ≤ p1 then (zwm (wn (Int32.toNatClampNeg p0))) else -1))) (pl := (if p1 < zPL σ (Int32.toNatClampNeg p0) then p1 else zPL σ (Int32.toNatClampNeg p0))) (en := p1) (mk := (if zMK σ (Int32.toNatClampNeg p0) ≤ p1 then zMK σ (Int32.toNatClampNeg p0) else -1)) (by simp only [hk0, ho0, hr0, hc0, hp0, he0, hm0]) ⟨if x9 < p9 then x9 else p9, x9, s9, by rw [hpx9]; exact zmin9, hpx9, hs9, by split <;> omega, hx9, by omega, by rw [hpx9]; exact hmk8⟩
  rw [hu] at HR2
  have hfr : ∀ b, P b → f_6 b = f b := by rw [← hu]; exact zfr_win HR (by have := vp_lt (zis_7 gz0); omega)
  have ho : (o_endAt σ p0 p1) = (0, zEN σ (Int32.toNatClampNeg p0), zPem σ (Int32.toNatClampNeg p0) (if p1 < zPL σ (Int32.toNatClampNeg p0) then p1 else zPL σ (Int32.toNatClampNeg p0)) p1 (if zMK σ (Int32.toNatClampNeg p0) ≤ p1 then zMK σ (Int32.toNatClampNeg p0) else -1)) := oz_endAt gz0 gb
  exact z_iret hx hb hr hlocks hw (Nat.le_of_ble_eq_true rfl) (Nat.le_of_ble_eq_true rfl) dX1_endAt_44 ⟨by rw [ho], congrArg (fun z => some (Value.int z)) ((congrArg (fun q => q.2.1) ho).trans (show (zEN σ (Int32.toNatClampNeg p0) : Int32) = (zwe (wn (Int32.toNatClampNeg p0))) from (by first | rfl | simp only [hk0, ho0, hr0, hc0, hp0, he0, hm0]))), by rw [ho]; exact ⟨_, _, _, _, _, _, _, _, _, rfl, HR2⟩, hfr⟩

theorem hi_X1_mark_X0 : ∀ w ∈ wsX00, w ∈ wsX1_mark := by decide +kernel
theorem hf_X1_mark_63 : Cond.fieldLink RX1 63 (TX0 5).1 (TX0 5).2.1 (TX0 5).2.2.1 ∈ wsX1_mark := by decide +kernel
theorem hf_X1_mark_105 : Cond.fieldLink RX1 105 (TX0 7).1 (TX0 7).2.1 (TX0 7).2.2.1 ∈ wsX1_mark := by decide +kernel
set_option maxRecDepth 100000 in
set_option maxHeartbeats 4000000 in
theorem c_X1_mark (l : Launch) (hl0 : l.stackTraces = false) (g : zG) (L : List Nat) (f : Nat → va_E) (h : Nat) (P : Nat → Prop) (σ : ZS) (p0 : Int32) (hH : zHC g h P σ L f) : zC l yX1_mark wsX1_mark { frames := 9, cells := 2, slots := 12, locals := 146 } 2 12 g [.ref h, .int p0] L f (fun r L1 f1 => (o_mark σ p0).1 = 0 ∧ some (.int (o_mark σ p0).2.1) = r ∧ zHC g h P (o_mark σ p0).2.2 L1 f1 ∧ ∀ b, P b → f1 b = f b) (fun E L1 f1 => zXe ["java/lang/IndexOutOfBoundsException"] (o_mark σ p0).1 E ∧ L = L1 ∧ f = f1 ∧ (o_mark σ p0).2.2 = σ) := by
  obtain ⟨ah, G, Rw, rs, wn, ad, ln, kd, ct, rfl, HR⟩ := hH
  obtain ⟨hE, hG, hRw, -⟩ := id HR
  refine z_ofW (cc := cX1_mark) (maxL := 3) (ret := (some .int)) (by decide) rfl (Nat.le_of_ble_eq_true rfl) ?_
  intro p e s m args below meth c ls A hx hb hr hts hown hlocks hml htab hin hw hX hl
  have hl : lv_has ls 3 [(0, .ref (ah 0)), (1, .int p0)] := hl
  have hown : s.vm.findClass RX1 = some m.cls := hown
  refine lv_aload_n hx hb dX1_mark_0 rfl (lv_at hl 0 rfl) ?_
  refine lv_iload_n hx hb dX1_mark_1 rfl (lv_at hl 1 rfl) ?_
  refine z_callV (As := [.int p0]) (rest := []) ⟨hx, hb, hml, hown, hts⟩ hw hX (hE.1 0 (by decide)) rfl (c_X1_windowOf l hl0 g L f ah G Rw rs wn p0 hE hG hRw) (cwV 1 hts gX1_mark_X1_windowOf rfl rfl rfl (by decide +kernel) ⟨(Nat.le_of_ble_eq_true rfl), (Nat.le_of_ble_eq_true rfl)⟩) rfl hl.1 rfl (Nat.le_of_ble_eq_true rfl) dX1_mark_2 ⟨(Nat.le_of_ble_eq_true rfl), (Nat.le_of_ble_eq_true rfl)⟩ (fun E ce q9 L9 f9 H locs hp hw hce hcv hcl => ?_) (fun r9 L9 f9 H locs hp hw => ?_)
  · obtain ⟨ck_1, rfl, rfl, rfl⟩ := hp
    have gz : ¬ zis σ p0 = true := fun q => ck_1 ((zH_is HR).mpr q)
    have ho : (o_mark σ p0) = (1, 0, σ) := by unfold o_mark; first | exact if_neg (show ¬ (zis σ p0 = true) from by assumption)
    exact z_out htab hlocks hw hce hcv hcl (Nat.le_of_ble_eq_true rfl) (Nat.le_of_ble_eq_true rfl) ⟨⟨0, rfl, by rw [ho]; rfl⟩, rfl, rfl, by rw [ho]⟩
  obtain ⟨ck_1, rfl, rfl, rfl⟩ := hp
  refine W.eq (g2 := F0 m 5 ls [.ref (ah ((Int32.toNatClampNeg p0) + 3))]) rfl ?_
  have hc_2 : zc L f (ah ((Int32.toNatClampNeg p0) + 3)) (.inr (0, zwf (wn (Int32.toNatClampNeg p0)))) := hE.1 ((Int32.toNatClampNeg p0) + 3) (by have := vp_lt ck_1.1; omega)
  have gz0 : zis σ p0 = true := (zH_is HR).mp ck_1
  have gw0 := zI_win HR.I gz0
  obtain ⟨hk0, ho0, hr0, hc0, hp0, he0, hm0⟩ := zH_win HR gz0
  refine lv_astore_n (lv' := [(2, .ref (ah ((Int32.toNatClampNeg p0) + 3))), (0, .ref (ah 0)), (1, .int p0)]) hx hb dX1_mark_5 rfl hl (by decide) rfl (fun ls hl => ?_)
  refine lv_aload_n hx hb dX1_mark_6 rfl (lv_at hl 0 rfl) ?_
  refine lv_aload_n hx hb dX1_mark_7 rfl (lv_at hl 0 rfl) ?_
  refine zr_get (C := RX0) (T := TX0) (N := 8) (v := .int (zwp (wn (Int32.toNatClampNeg p0)))) hx hb hts hi_X1_mark_X0 hown hw hc_2 rfl 5 (by decide) hf_X1_mark_63 rfl dX1_mark_8 ?_
  have hu := zu_id (hc_2).2
  refine zw_put (X1 := ((zwk (wn (Int32.toNatClampNeg p0))), (zwo (wn (Int32.toNatClampNeg p0))), (zws (wn (Int32.toNatClampNeg p0))), (zwr (wn (Int32.toNatClampNeg p0))), (zwc (wn (Int32.toNatClampNeg p0))), (zwp (wn (Int32.toNatClampNeg p0))), (zwe (wn (Int32.toNatClampNeg p0))), (zwp (wn (Int32.toNatClampNeg p0))))) (ty := .int) hx hb hts hi_X1_mark_X0 hown hw (hc_2).1 hu 7 (by decide) hf_X1_mark_105 rfl rfl rfl rfl rfl dX1_mark_11 (fun f_3 H locs hu hw => ?_)
  refine lv_aload_n hx hb dX1_mark_14 rfl (lv_at hl 0 rfl) ?_
  refine zr_get (C := RX0) (T := TX0) (N := 8) (v := .int (zwp (wn (Int32.toNatClampNeg p0)))) hx hb hts hi_X1_mark_X0 hown hw (zu_c (hc_2).1 hu) rfl 5 (by decide) hf_X1_mark_63 rfl dX1_mark_15 ?_
  obtain ⟨s9, p9, e9, hs9, hp9, he9, hpe9, hes9, hs64, hmk9⟩ := zW_nat gw0
  have HR2 := zHR_pem HR gz0 (x1 := ((zwk (wn (Int32.toNatClampNeg p0))), (zwo (wn (Int32.toNatClampNeg p0))), (zws (wn (Int32.toNatClampNeg p0))), (zwr (wn (Int32.toNatClampNeg p0))), (zwc (wn (Int32.toNatClampNeg p0))), (zwp (wn (Int32.toNatClampNeg p0))), (zwe (wn (Int32.toNatClampNeg p0))), (zwp (wn (Int32.toNatClampNeg p0))))) (pl := (zPL σ (Int32.toNatClampNeg p0))) (en := (zEN σ (Int32.toNatClampNeg p0))) (mk := (zPL σ (Int32.toNatClampNeg p0))) (by simp only [hk0, ho0, hr0, hc0, hp0, he0, hm0]) ⟨p9, e9, s9, hp9, he9, hs9, by omega, by omega, hs64, Or.inr ⟨p9, Nat.le_refl _, hp9⟩⟩
  rw [hu] at HR2
  have hfr : ∀ b, P b → f_3 b = f b := by rw [← hu]; exact zfr_win HR (by have := vp_lt (zis_7 gz0); omega)
  have ho : (o_mark σ p0) = (0, zPL σ (Int32.toNatClampNeg p0), zPem σ (Int32.toNatClampNeg p0) (zPL σ (Int32.toNatClampNeg p0)) (zEN σ (Int32.toNatClampNeg p0)) (zPL σ (Int32.toNatClampNeg p0))) := by unfold o_mark; rw [if_pos gz0, zsMK_pem]
  exact z_iret hx hb hr hlocks hw (Nat.le_of_ble_eq_true rfl) (Nat.le_of_ble_eq_true rfl) dX1_mark_18 ⟨by rw [ho], congrArg (fun z => some (Value.int z)) ((congrArg (fun q => q.2.1) ho).trans (show (zPL σ (Int32.toNatClampNeg p0) : Int32) = (zwp (wn (Int32.toNatClampNeg p0))) from (by first | rfl | simp only [hk0, ho0, hr0, hc0, hp0, he0, hm0]))), by rw [ho]; exact ⟨_, _, _, _, _, _, _, _, _, rfl, HR2⟩, hfr⟩

theorem hi_X1_back_X0 : ∀ w ∈ wsX00, w ∈ wsX1_back := by decide +kernel
theorem hf_X1_back_63 : Cond.fieldLink RX1 63 (TX0 5).1 (TX0 5).2.1 (TX0 5).2.2.1 ∈ wsX1_back := by decide +kernel
theorem hf_X1_back_105 : Cond.fieldLink RX1 105 (TX0 7).1 (TX0 7).2.1 (TX0 7).2.2.1 ∈ wsX1_back := by decide +kernel
theorem hk_X1_back_108 : Cond.classLink RX1 108 "java/lang/IllegalStateException" ∈ wsX1_back := by decide +kernel
theorem hj_X1_back_108 : Cond.initialized "java/lang/IllegalStateException" ∈ wsX1_back := by decide +kernel
theorem hg_X1_back_112 : ∀ w ∈ (vx_atS RX1 112 "java/lang/IllegalStateException" zNm).filter goodWord, w ∈ wsX1_back := by decide +kernel
set_option maxRecDepth 100000 in
set_option maxHeartbeats 4000000 in
theorem c_X1_back (l : Launch) (hl0 : l.stackTraces = false) (g : zG) (L : List Nat) (f : Nat → va_E) (h : Nat) (P : Nat → Prop) (σ : ZS) (p0 : Int32) (hH : zHC g h P σ L f) : zC l yX1_back wsX1_back { frames := 9, cells := 3, slots := 18, locals := 146 } 3 18 g [.ref h, .int p0] L f (fun r L1 f1 => (o_back σ p0).1 = 0 ∧ some (.int (o_back σ p0).2.1) = r ∧ zHC g h P (o_back σ p0).2.2 L1 f1 ∧ ∀ b, P b → f1 b = f b) (fun E L1 f1 => zXe ["java/lang/IndexOutOfBoundsException", "java/lang/IllegalStateException"] (o_back σ p0).1 E ∧ L = L1 ∧ f = f1 ∧ (o_back σ p0).2.2 = σ) := by
  obtain ⟨ah, G, Rw, rs, wn, ad, ln, kd, ct, rfl, HR⟩ := hH
  obtain ⟨hE, hG, hRw, -⟩ := id HR
  refine z_ofW (cc := cX1_back) (maxL := 4) (ret := (some .int)) (by decide) rfl (Nat.le_of_ble_eq_true rfl) ?_
  intro p e s m args below meth c ls A hx hb hr hts hown hlocks hml htab hin hw hX hl
  have hl : lv_has ls 4 [(0, .ref (ah 0)), (1, .int p0)] := hl
  have hown : s.vm.findClass RX1 = some m.cls := hown
  refine lv_aload_n hx hb dX1_back_0 rfl (lv_at hl 0 rfl) ?_
  refine lv_iload_n hx hb dX1_back_1 rfl (lv_at hl 1 rfl) ?_
  refine z_callV (As := [.int p0]) (rest := []) ⟨hx, hb, hml, hown, hts⟩ hw hX (hE.1 0 (by decide)) rfl (c_X1_windowOf l hl0 g L f ah G Rw rs wn p0 hE hG hRw) (cwV 1 hts gX1_back_X1_windowOf rfl rfl rfl (by decide +kernel) ⟨(Nat.le_of_ble_eq_true rfl), (Nat.le_of_ble_eq_true rfl)⟩) rfl hl.1 rfl (Nat.le_of_ble_eq_true rfl) dX1_back_2 ⟨(Nat.le_of_ble_eq_true rfl), (Nat.le_of_ble_eq_true rfl)⟩ (fun E ce q9 L9 f9 H locs hp hw hce hcv hcl => ?_) (fun r9 L9 f9 H locs hp hw => ?_)
  · obtain ⟨ck_1, rfl, rfl, rfl⟩ := hp
    have gz : ¬ zis σ p0 = true := fun q => ck_1 ((zH_is HR).mpr q)
    have ho : (o_back σ p0) = (1, 0, σ) := by unfold o_back; first | exact if_neg (show ¬ (zis σ p0 = true) from by assumption)
    exact z_out htab hlocks hw hce hcv hcl (Nat.le_of_ble_eq_true rfl) (Nat.le_of_ble_eq_true rfl) ⟨⟨0, rfl, by rw [ho]; rfl⟩, rfl, rfl, by rw [ho]⟩
  obtain ⟨ck_1, rfl, rfl, rfl⟩ := hp
  refine W.eq (g2 := F0 m 5 ls [.ref (ah ((Int32.toNatClampNeg p0) + 3))]) rfl ?_
  have hc_2 : zc L f (ah ((Int32.toNatClampNeg p0) + 3)) (.inr (0, zwf (wn (Int32.toNatClampNeg p0)))) := hE.1 ((Int32.toNatClampNeg p0) + 3) (by have := vp_lt ck_1.1; omega)
  have gz0 : zis σ p0 = true := (zH_is HR).mp ck_1
  have gw0 := zI_win HR.I gz0
  obtain ⟨hk0, ho0, hr0, hc0, hp0, he0, hm0⟩ := zH_win HR gz0
  refine lv_astore_n (lv' := [(2, .ref (ah ((Int32.toNatClampNeg p0) + 3))), (0, .ref (ah 0)), (1, .int p0)]) hx hb dX1_back_5 rfl hl (by decide) rfl (fun ls hl => ?_)
  refine lv_aload_n hx hb dX1_back_6 rfl (lv_at hl 0 rfl) ?_
  refine zr_get (C := RX0) (T := TX0) (N := 8) (v := .int (zwm (wn (Int32.toNatClampNeg p0)))) hx hb hts hi_X1_back_X0 hown hw hc_2 rfl 7 (by decide) hf_X1_back_105 rfl dX1_back_7 ?_
  refine lv_iconst (v := (-1)) hx hb dX1_back_10 (by decide) ?_
  refine lv_icmp_ne (tgt := 24) hx hb dX1_back_11 (by decide) (fun c_3 => ?_) (fun c_3 => ?_)
  · refine lv_aload_n hx hb dX1_back_24 rfl (lv_at hl 0 rfl) ?_
    refine zr_get (C := RX0) (T := TX0) (N := 8) (v := .int (zwp (wn (Int32.toNatClampNeg p0)))) hx hb hts hi_X1_back_X0 hown hw hc_2 rfl 5 (by decide) hf_X1_back_63 rfl dX1_back_25 ?_
    refine lv_istore_n (lv' := [(3, .int (zwp (wn (Int32.toNatClampNeg p0)))), (2, .ref (ah ((Int32.toNatClampNeg p0) + 3))), (0, .ref (ah 0)), (1, .int p0)]) hx hb dX1_back_28 rfl hl (by decide) rfl (fun ls hl => ?_)
    refine lv_aload_n hx hb dX1_back_29 rfl (lv_at hl 1 rfl) ?_
    refine lv_aload_n hx hb dX1_back_30 rfl (lv_at hl 1 rfl) ?_
    refine zr_get (C := RX0) (T := TX0) (N := 8) (v := .int (zwm (wn (Int32.toNatClampNeg p0)))) hx hb hts hi_X1_back_X0 hown hw hc_2 rfl 7 (by decide) hf_X1_back_105 rfl dX1_back_31 ?_
    have hu := zu_id (hc_2).2
    refine zw_put (X1 := ((zwk (wn (Int32.toNatClampNeg p0))), (zwo (wn (Int32.toNatClampNeg p0))), (zws (wn (Int32.toNatClampNeg p0))), (zwr (wn (Int32.toNatClampNeg p0))), (zwc (wn (Int32.toNatClampNeg p0))), (zwm (wn (Int32.toNatClampNeg p0))), (zwe (wn (Int32.toNatClampNeg p0))), (zwm (wn (Int32.toNatClampNeg p0))))) (ty := .int) hx hb hts hi_X1_back_X0 hown hw (hc_2).1 hu 5 (by decide) hf_X1_back_63 rfl rfl rfl rfl rfl dX1_back_34 (fun f_4 H locs hu hw => ?_)
    refine lv_iload_n hx hb dX1_back_37 rfl (lv_at hl 0 rfl) ?_
    refine lv_aload_n hx hb dX1_back_38 rfl (lv_at hl 1 rfl) ?_
    refine zr_get (C := RX0) (T := TX0) (N := 8) (v := .int (zwm (wn (Int32.toNatClampNeg p0)))) hx hb hts hi_X1_back_X0 hown hw (zu_c (hc_2).1 hu) rfl 5 (by decide) hf_X1_back_63 rfl dX1_back_39 ?_
    refine lv_isub hx hb dX1_back_42 ?_
    obtain ⟨s9, p9, e9, hs9, hp9, he9, hpe9, hes9, hs64, hmk9⟩ := zW_nat gw0
    have hz : ¬ zMK σ (Int32.toNatClampNeg p0) = -1 := fun q => c_3 (by rw [hm0]; exact q)
    obtain ⟨k9, hkp9, hk9⟩ := hmk9.resolve_left hz
    have HR2 := zHR_pem HR gz0 (x1 := ((zwk (wn (Int32.toNatClampNeg p0))), (zwo (wn (Int32.toNatClampNeg p0))), (zws (wn (Int32.toNatClampNeg p0))), (zwr (wn (Int32.toNatClampNeg p0))), (zwc (wn (Int32.toNatClampNeg p0))), (zwm (wn (Int32.toNatClampNeg p0))), (zwe (wn (Int32.toNatClampNeg p0))), (zwm (wn (Int32.toNatClampNeg p0))))) (pl := (zMK σ (Int32.toNatClampNeg p0))) (en := (zEN σ (Int32.toNatClampNeg p0))) (mk := (zMK σ (Int32.toNatClampNeg p0))) (by simp only [hk0, ho0, hr0, hc0, hp0, he0, hm0]) ⟨k9, e9, s9, hk9, he9, hs9, by omega, by omega, hs64, Or.inr ⟨k9, Nat.le_refl _, hk9⟩⟩
    rw [hu] at HR2
    have hfr : ∀ b, P b → f_4 b = f b := by rw [← hu]; exact zfr_win HR (by have := vp_lt (zis_7 gz0); omega)
    have ho : (o_back σ p0) = (0, (zPL σ (Int32.toNatClampNeg p0) - zMK σ (Int32.toNatClampNeg p0)), zPem σ (Int32.toNatClampNeg p0) (zMK σ (Int32.toNatClampNeg p0)) (zEN σ (Int32.toNatClampNeg p0)) (zMK σ (Int32.toNatClampNeg p0))) := by unfold o_back; rw [if_pos gz0, if_neg hz, zsPL_pem]
    exact z_iret hx hb hr hlocks hw (Nat.le_of_ble_eq_true rfl) (Nat.le_of_ble_eq_true rfl) dX1_back_43 ⟨by rw [ho], congrArg (fun z => some (Value.int z)) ((congrArg (fun q => q.2.1) ho).trans (show ((zPL σ (Int32.toNatClampNeg p0) - zMK σ (Int32.toNatClampNeg p0)) : Int32) = ((zwp (wn (Int32.toNatClampNeg p0))) - (zwm (wn (Int32.toNatClampNeg p0)))) from (by first | rfl | simp only [hk0, ho0, hr0, hc0, hp0, he0, hm0]))), by rw [ho]; exact ⟨_, _, _, _, _, _, _, _, _, rfl, HR2⟩, hfr⟩
  · have hz : zMK σ (Int32.toNatClampNeg p0) = -1 := by rw [← hm0]; exact c_3
    have ho : (o_back σ p0) = (2, 0, σ) := by unfold o_back; first | exact (if_pos (show (zis σ p0 = true) from by assumption)).trans (if_pos (show (zMK σ (Int32.toNatClampNeg p0) = -1) from by assumption))
    exact z_throw (ik := 108) (is := 110) (ic := 112) (E := "java/lang/IllegalStateException") (text := "there is no mark") hx hb hl0 hown hts hlocks (hml.trans hl.1.symm) htab (by decide) (by decide +kernel) hk_X1_back_108 hj_X1_back_108 hg_X1_back_112 zt_ng_112 zt_ot_112 (by decide) hw hX dX1_back_14 dX1_back_17 dX1_back_18 dX1_back_20 dX1_back_23 (Nat.le_of_ble_eq_true rfl) (Nat.le_of_ble_eq_true rfl) (Nat.le_of_ble_eq_true rfl) (Nat.le_of_ble_eq_true rfl) (Nat.le_of_ble_eq_true rfl) (Nat.le_of_ble_eq_true rfl) ⟨⟨1, rfl, by rw [ho]; rfl⟩, rfl, rfl, by rw [ho]⟩

set_option maxRecDepth 100000 in
set_option maxHeartbeats 4000000 in
theorem c_X1_get (l : Launch) (hl0 : l.stackTraces = false) (g : zG) (L : List Nat) (f : Nat → va_E) (h : Nat) (P : Nat → Prop) (σ : ZS) (p0 : Int32) (hH : zHC g h P σ L f) : zC l yX1_get wsX1_get { frames := 9, cells := 3, slots := 18, locals := 146 } 3 18 g [.ref h, .int p0] L f (fun r L1 f1 => (o_get σ p0).1 = 0 ∧ some (.long (o_get σ p0).2.1) = r ∧ zHC g h P (o_get σ p0).2.2 L1 f1 ∧ ∀ b, P b → f1 b = f b) (fun E L1 f1 => zXe ["java/lang/IndexOutOfBoundsException", "java/util/NoSuchElementException"] (o_get σ p0).1 E ∧ L = L1 ∧ f = f1 ∧ (o_get σ p0).2.2 = σ) := by
  obtain ⟨ah, G, Rw, rs, wn, ad, ln, kd, ct, rfl, HR⟩ := hH
  obtain ⟨hE, hG, hRw, -⟩ := id HR
  refine z_ofW (cc := cX1_get) (maxL := 3) (ret := (some .long)) (by decide) rfl (Nat.le_of_ble_eq_true rfl) ?_
  intro p e s m args below meth c ls A hx hb hr hts hown hlocks hml htab hin hw hX hl
  have hl : lv_has ls 3 [(0, .ref (ah 0)), (1, .int p0)] := hl
  have hown : s.vm.findClass RX1 = some m.cls := hown
  refine lv_aload_n hx hb dX1_get_0 rfl (lv_at hl 0 rfl) ?_
  refine lv_iload_n hx hb dX1_get_1 rfl (lv_at hl 1 rfl) ?_
  refine z_callV (As := [.int p0]) (rest := []) ⟨hx, hb, hml, hown, hts⟩ hw hX (hE.1 0 (by decide)) rfl (c_X1_windowOf l hl0 g L f ah G Rw rs wn p0 hE hG hRw) (cwV 1 hts gX1_get_X1_windowOf rfl rfl rfl (by decide +kernel) ⟨(Nat.le_of_ble_eq_true rfl), (Nat.le_of_ble_eq_true rfl)⟩) rfl hl.1 rfl (Nat.le_of_ble_eq_true rfl) dX1_get_2 ⟨(Nat.le_of_ble_eq_true rfl), (Nat.le_of_ble_eq_true rfl)⟩ (fun E ce q9 L9 f9 H locs hp hw hce hcv hcl => ?_) (fun r9 L9 f9 H locs hp hw => ?_)
  · obtain ⟨ck_1, rfl, rfl, rfl⟩ := hp
    have gz : ¬ zis σ p0 = true := fun q => ck_1 ((zH_is HR).mpr q)
    have ho : (o_get σ p0) = (1, 0, σ) := by unfold o_get; first | exact if_neg (show ¬ (zis σ p0 = true) from by assumption)
    exact z_out htab hlocks hw hce hcv hcl (Nat.le_of_ble_eq_true rfl) (Nat.le_of_ble_eq_true rfl) ⟨⟨0, rfl, by rw [ho]; rfl⟩, rfl, rfl, by rw [ho]⟩
  obtain ⟨ck_1, rfl, rfl, rfl⟩ := hp
  refine W.eq (g2 := F0 m 5 ls [.ref (ah ((Int32.toNatClampNeg p0) + 3))]) rfl ?_
  have hc_2 : zc L f (ah ((Int32.toNatClampNeg p0) + 3)) (.inr (0, zwf (wn (Int32.toNatClampNeg p0)))) := hE.1 ((Int32.toNatClampNeg p0) + 3) (by have := vp_lt ck_1.1; omega)
  have gz0 : zis σ p0 = true := (zH_is HR).mp ck_1
  have gw0 := zI_win HR.I gz0
  obtain ⟨hk0, ho0, hr0, hc0, hp0, he0, hm0⟩ := zH_win HR gz0
  obtain ⟨d0, hd0, hs0, hw0, hlv0, hst0, hct0, hkd0⟩ := zH_st HR gz0
  rw [← hw0] at hst0
  refine lv_astore_n (lv' := [(2, .ref (ah ((Int32.toNatClampNeg p0) + 3))), (0, .ref (ah 0)), (1, .int p0)]) hx hb dX1_get_5 rfl hl (by decide) rfl (fun ls hl => ?_)
  refine lv_aload_n hx hb dX1_get_6 rfl (lv_at hl 0 rfl) ?_
  refine lv_iconst (v := 1) hx hb dX1_get_7 (by decide) ?_
  refine z_callS (As := [.ref (ah ((Int32.toNatClampNeg p0) + 3)), .int 1]) (rest := []) ⟨hx, hb, hml, hown, hts⟩ hw hX (c_X1_checkEnoughToGet l hl0 g L f (ah ((Int32.toNatClampNeg p0) + 3)) ((zwk (wn (Int32.toNatClampNeg p0))), (zwo (wn (Int32.toNatClampNeg p0))), (zws (wn (Int32.toNatClampNeg p0))), (zwr (wn (Int32.toNatClampNeg p0))), (zwc (wn (Int32.toNatClampNeg p0))), (zwp (wn (Int32.toNatClampNeg p0))), (zwe (wn (Int32.toNatClampNeg p0))), (zwm (wn (Int32.toNatClampNeg p0)))) 1 hc_2) (va_cwS 2 hts gX1_get_X1_checkEnoughToGet rfl rfl rfl (by decide +kernel) ⟨(Nat.le_of_ble_eq_true rfl), (Nat.le_of_ble_eq_true rfl)⟩) rfl hl.1 rfl (Nat.le_of_ble_eq_true rfl) dX1_get_8 ⟨(Nat.le_of_ble_eq_true rfl), (Nat.le_of_ble_eq_true rfl)⟩ (fun E ce q9 L9 f9 H locs hp hw hce hcv hcl => ?_) (fun r9 L9 f9 H locs hp hw => ?_)
  · obtain ⟨rfl, rfl, rfl, ck_3⟩ := hp
    have ge : ¬ 1 ≤ zEN σ (Int32.toNatClampNeg p0) - zPL σ (Int32.toNatClampNeg p0) := by rw [← he0, ← hp0]; exact ck_3
    have gn : zPL σ (Int32.toNatClampNeg p0) = zEN σ (Int32.toNatClampNeg p0) := Decidable.not_not.mp (fun q => ge ((zge1 gw0).mpr q))
    have ho : (o_get σ p0) = (2, 0, σ) := by unfold o_get; first | exact (if_pos (show (zis σ p0 = true) from by assumption)).trans (if_pos (show (zPL σ (Int32.toNatClampNeg p0) = zEN σ (Int32.toNatClampNeg p0)) from by assumption))
    exact z_out htab hlocks hw hce hcv hcl (Nat.le_of_ble_eq_true rfl) (Nat.le_of_ble_eq_true rfl) ⟨⟨1, rfl, by rw [ho]; rfl⟩, rfl, rfl, by rw [ho]⟩
  obtain ⟨rfl, rfl, rfl, ck_3⟩ := hp
  refine W.eq (g2 := F0 m 11 ls []) rfl ?_
  have ge0 : 1 ≤ zEN σ (Int32.toNatClampNeg p0) - zPL σ (Int32.toNatClampNeg p0) := by rw [← he0, ← hp0]; exact ck_3
  have gn0 : ¬ zPL σ (Int32.toNatClampNeg p0) = zEN σ (Int32.toNatClampNeg p0) := (zge1 gw0).mp ge0
  have gx0 : ¬ zwp (wn (Int32.toNatClampNeg p0)) < 0 ∧ zwp (wn (Int32.toNatClampNeg p0)) < zEN σ (Int32.toNatClampNeg p0) := by rw [hp0]; exact ⟨(zWin_pl gw0).1, (zWin_pl gw0).2 gn0⟩
  refine lv_aload_n hx hb dX1_get_11 rfl (lv_at hl 0 rfl) ?_
  refine z_callV (As := []) (rest := []) ⟨hx, hb, hml, hown, hts⟩ hw hX hc_2 rfl (c_X0_takeNext l g L f (ah ((Int32.toNatClampNeg p0) + 3)) (wn (Int32.toNatClampNeg p0)) hc_2 hst0 (zH_val HR gz0 hs0 hd0 gx0.1 gx0.2).1) (cwV 0 hts gX1_get_X0_takeNext rfl rfl rfl (by decide +kernel) ⟨(Nat.le_of_ble_eq_true rfl), (Nat.le_of_ble_eq_true rfl)⟩) rfl hl.1 rfl (Nat.le_of_ble_eq_true rfl) dX1_get_12 ⟨(Nat.le_of_ble_eq_true rfl), (Nat.le_of_ble_eq_true rfl)⟩ (fun _ _ _ _ _ _ _ hp => False.elim hp) (fun r9 L9 f9 H locs hp hw => ?_)
  obtain ⟨rfl, rfl, hu9⟩ := hp
  refine W.eq (g2 := F0 m 15 ls [.long ((ct d0) (Int32.toNatClampNeg ((zwr (wn (Int32.toNatClampNeg p0))) + (zwp (wn (Int32.toNatClampNeg p0))))))]) rfl ?_
  have hu := hu9
  obtain ⟨f_4, rfl⟩ : ∃ z, z = f9 := ⟨_, rfl⟩
  have HR2 := zHR_inc HR gz0 gn0
  rw [hu] at HR2
  have hfr : ∀ b, P b → f_4 b = f b := by rw [← hu]; exact zfr_win HR (by have := vp_lt (zis_7 gz0); omega)
  have ho : (o_get σ p0) = (0, zVal σ (Int32.toNatClampNeg p0) (zPL σ (Int32.toNatClampNeg p0)), zInc σ (Int32.toNatClampNeg p0)) := oz_get gz0 gn0
  exact z_lret hx hb hr hlocks hw (Nat.le_of_ble_eq_true rfl) (Nat.le_of_ble_eq_true rfl) dX1_get_15 ⟨by rw [ho], congrArg (fun z => some (Value.long z)) ((congrArg (fun q => q.2.1) ho).trans (show (zVal σ (Int32.toNatClampNeg p0) (zPL σ (Int32.toNatClampNeg p0)) : Int64) = ((ct d0) (Int32.toNatClampNeg ((zwr (wn (Int32.toNatClampNeg p0))) + (zwp (wn (Int32.toNatClampNeg p0)))))) from by rw [← hp0]; exact (zH_val HR gz0 hs0 hd0 gx0.1 gx0.2).2.symm)), by rw [ho]; exact ⟨_, _, _, _, _, _, _, _, _, rfl, HR2⟩, hfr⟩

theorem hi_X1_put_X0 : ∀ w ∈ wsX00, w ∈ wsX1_put := by decide +kernel
theorem hf_X1_put_63 : Cond.fieldLink RX1 63 (TX0 5).1 (TX0 5).2.1 (TX0 5).2.2.1 ∈ wsX1_put := by decide +kernel
set_option maxRecDepth 100000 in
set_option maxHeartbeats 4000000 in
theorem c_X1_put (l : Launch) (hl0 : l.stackTraces = false) (g : zG) (L : List Nat) (f : Nat → va_E) (h : Nat) (P : Nat → Prop) (σ : ZS) (p0 : Int32) (p1 : Int64) (hH : zHC g h P σ L f) : zC l yX1_put wsX1_put { frames := 9, cells := 4, slots := 24, locals := 146 } 4 24 g [.ref h, .int p0, .long p1] L f (fun r L1 f1 => (o_put σ p0 p1).1 = 0 ∧ some (.int (o_put σ p0 p1).2.1) = r ∧ zHC g h P (o_put σ p0 p1).2.2 L1 f1 ∧ ∀ b, P b → f1 b = f b) (fun E L1 f1 => zXe ["java/lang/IndexOutOfBoundsException", "java/lang/UnsupportedOperationException", "java/lang/IllegalStateException"] (o_put σ p0 p1).1 E ∧ L = L1 ∧ f = f1 ∧ (o_put σ p0 p1).2.2 = σ) := by
  obtain ⟨ah, G, Rw, rs, wn, ad, ln, kd, ct, rfl, HR⟩ := hH
  obtain ⟨hE, hG, hRw, -⟩ := id HR
  refine z_ofW (cc := cX1_put) (maxL := 5) (ret := (some .int)) (by decide) rfl (Nat.le_of_ble_eq_true rfl) ?_
  intro p e s m args below meth c ls A hx hb hr hts hown hlocks hml htab hin hw hX hl
  have hl : lv_has ls 5 [(0, .ref (ah 0)), (1, .int p0), (2, .long p1)] := hl
  have hown : s.vm.findClass RX1 = some m.cls := hown
  refine lv_aload_n hx hb dX1_put_0 rfl (lv_at hl 0 rfl) ?_
  refine lv_iload_n hx hb dX1_put_1 rfl (lv_at hl 1 rfl) ?_
  refine z_callV (As := [.int p0]) (rest := []) ⟨hx, hb, hml, hown, hts⟩ hw hX (hE.1 0 (by decide)) rfl (c_X1_windowOf l hl0 g L f ah G Rw rs wn p0 hE hG hRw) (cwV 1 hts gX1_put_X1_windowOf rfl rfl rfl (by decide +kernel) ⟨(Nat.le_of_ble_eq_true rfl), (Nat.le_of_ble_eq_true rfl)⟩) rfl hl.1 rfl (Nat.le_of_ble_eq_true rfl) dX1_put_2 ⟨(Nat.le_of_ble_eq_true rfl), (Nat.le_of_ble_eq_true rfl)⟩ (fun E ce q9 L9 f9 H locs hp hw hce hcv hcl => ?_) (fun r9 L9 f9 H locs hp hw => ?_)
  · obtain ⟨ck_1, rfl, rfl, rfl⟩ := hp
    have gz : ¬ zis σ p0 = true := fun q => ck_1 ((zH_is HR).mpr q)
    have ho : (o_put σ p0 p1) = (1, 0, σ) := by unfold o_put; first | exact if_neg (show ¬ (zis σ p0 = true) from by assumption)
    exact z_out htab hlocks hw hce hcv hcl (Nat.le_of_ble_eq_true rfl) (Nat.le_of_ble_eq_true rfl) ⟨⟨0, rfl, by rw [ho]; rfl⟩, rfl, rfl, by rw [ho]⟩
  obtain ⟨ck_1, rfl, rfl, rfl⟩ := hp
  refine W.eq (g2 := F0 m 5 ls [.ref (ah ((Int32.toNatClampNeg p0) + 3))]) rfl ?_
  have hc_2 : zc L f (ah ((Int32.toNatClampNeg p0) + 3)) (.inr (0, zwf (wn (Int32.toNatClampNeg p0)))) := hE.1 ((Int32.toNatClampNeg p0) + 3) (by have := vp_lt ck_1.1; omega)
  have gz0 : zis σ p0 = true := (zH_is HR).mp ck_1
  have gw0 := zI_win HR.I gz0
  obtain ⟨hk0, ho0, hr0, hc0, hp0, he0, hm0⟩ := zH_win HR gz0
  obtain ⟨d0, hd0, hs0, hw0, hlv0, hst0, hct0, hkd0⟩ := zH_st HR gz0
  rw [← hw0] at hst0
  refine lv_astore (lv' := [(4, .ref (ah ((Int32.toNatClampNeg p0) + 3))), (0, .ref (ah 0)), (1, .int p0), (2, .long p1)]) hx hb dX1_put_5 hl (by decide) rfl (fun ls hl => ?_)
  refine lv_aload hx hb dX1_put_7 (lv_at hl 0 rfl) ?_
  refine z_callS (As := [.ref (ah ((Int32.toNatClampNeg p0) + 3))]) (rest := []) ⟨hx, hb, hml, hown, hts⟩ hw hX (c_X1_checkWritable l hl0 g L f (ah ((Int32.toNatClampNeg p0) + 3)) ((zwk (wn (Int32.toNatClampNeg p0))), (zwo (wn (Int32.toNatClampNeg p0))), (zws (wn (Int32.toNatClampNeg p0))), (zwr (wn (Int32.toNatClampNeg p0))), (zwc (wn (Int32.toNatClampNeg p0))), (zwp (wn (Int32.toNatClampNeg p0))), (zwe (wn (Int32.toNatClampNeg p0))), (zwm (wn (Int32.toNatClampNeg p0))))  hc_2) (va_cwS 1 hts gX1_put_X1_checkWritable rfl rfl rfl (by decide +kernel) ⟨(Nat.le_of_ble_eq_true rfl), (Nat.le_of_ble_eq_true rfl)⟩) rfl hl.1 rfl (Nat.le_of_ble_eq_true rfl) dX1_put_9 ⟨(Nat.le_of_ble_eq_true rfl), (Nat.le_of_ble_eq_true rfl)⟩ (fun E ce q9 L9 f9 H locs hp hw hce hcv hcl => ?_) (fun r9 L9 f9 H locs hp hw => ?_)
  · obtain ⟨rfl, rfl, rfl, ck_3⟩ := hp
    have gr : ¬ zRD σ (Int32.toNatClampNeg p0) = 0 := by rw [← ho0]; exact ck_3
    have ho : (o_put σ p0 p1) = (2, 0, σ) := by unfold o_put; first | exact (if_pos (show (zis σ p0 = true) from by assumption)).trans (if_neg (show ¬ (zRD σ (Int32.toNatClampNeg p0) = 0) from by assumption))
    exact z_out htab hlocks hw hce hcv hcl (Nat.le_of_ble_eq_true rfl) (Nat.le_of_ble_eq_true rfl) ⟨⟨1, rfl, by rw [ho]; rfl⟩, rfl, rfl, by rw [ho]⟩
  obtain ⟨rfl, rfl, rfl, ck_3⟩ := hp
  refine W.eq (g2 := F0 m 12 ls []) rfl ?_
  have gr : zRD σ (Int32.toNatClampNeg p0) = 0 := by rw [← ho0]; exact ck_3
  refine lv_aload hx hb dX1_put_12 (lv_at hl 0 rfl) ?_
  refine lv_iconst (v := 1) hx hb dX1_put_14 (by decide) ?_
  refine z_callS (As := [.ref (ah ((Int32.toNatClampNeg p0) + 3)), .int 1]) (rest := []) ⟨hx, hb, hml, hown, hts⟩ hw hX (c_X1_checkEnoughToPut l hl0 g L f (ah ((Int32.toNatClampNeg p0) + 3)) ((zwk (wn (Int32.toNatClampNeg p0))), (zwo (wn (Int32.toNatClampNeg p0))), (zws (wn (Int32.toNatClampNeg p0))), (zwr (wn (Int32.toNatClampNeg p0))), (zwc (wn (Int32.toNatClampNeg p0))), (zwp (wn (Int32.toNatClampNeg p0))), (zwe (wn (Int32.toNatClampNeg p0))), (zwm (wn (Int32.toNatClampNeg p0)))) 1 hc_2) (va_cwS 2 hts gX1_put_X1_checkEnoughToPut rfl rfl rfl (by decide +kernel) ⟨(Nat.le_of_ble_eq_true rfl), (Nat.le_of_ble_eq_true rfl)⟩) rfl hl.1 rfl (Nat.le_of_ble_eq_true rfl) dX1_put_15 ⟨(Nat.le_of_ble_eq_true rfl), (Nat.le_of_ble_eq_true rfl)⟩ (fun E ce q9 L9 f9 H locs hp hw hce hcv hcl => ?_) (fun r9 L9 f9 H locs hp hw => ?_)
  · obtain ⟨rfl, rfl, rfl, ck_4⟩ := hp
    have ge : ¬ 1 ≤ zEN σ (Int32.toNatClampNeg p0) - zPL σ (Int32.toNatClampNeg p0) := by rw [← he0, ← hp0]; exact ck_4
    have gn : zPL σ (Int32.toNatClampNeg p0) = zEN σ (Int32.toNatClampNeg p0) := Decidable.not_not.mp (fun q => ge ((zge1 gw0).mpr q))
    have ho : (o_put σ p0 p1) = (3, 0, σ) := by unfold o_put; first | exact (if_pos (show (zis σ p0 = true) from by assumption)).trans ((if_pos (show (zRD σ (Int32.toNatClampNeg p0) = 0) from by assumption)).trans (if_pos (show (zPL σ (Int32.toNatClampNeg p0) = zEN σ (Int32.toNatClampNeg p0)) from by assumption)))
    exact z_out htab hlocks hw hce hcv hcl (Nat.le_of_ble_eq_true rfl) (Nat.le_of_ble_eq_true rfl) ⟨⟨2, rfl, by rw [ho]; rfl⟩, rfl, rfl, by rw [ho]⟩
  obtain ⟨rfl, rfl, rfl, ck_4⟩ := hp
  refine W.eq (g2 := F0 m 18 ls []) rfl ?_
  have ge0 : 1 ≤ zEN σ (Int32.toNatClampNeg p0) - zPL σ (Int32.toNatClampNeg p0) := by rw [← he0, ← hp0]; exact ck_4
  have gn0 : ¬ zPL σ (Int32.toNatClampNeg p0) = zEN σ (Int32.toNatClampNeg p0) := (zge1 gw0).mp ge0
  have gx0 : ¬ zwp (wn (Int32.toNatClampNeg p0)) < 0 ∧ zwp (wn (Int32.toNatClampNeg p0)) < zEN σ (Int32.toNatClampNeg p0) := by rw [hp0]; exact ⟨(zWin_pl gw0).1, (zWin_pl gw0).2 gn0⟩
  refine lv_aload hx hb dX1_put_18 (lv_at hl 0 rfl) ?_
  refine lv_lload_n hx hb dX1_put_20 rfl (lv_at hl 3 rfl) ?_
  refine z_callV (As := [.long p1]) (rest := []) ⟨hx, hb, hml, hown, hts⟩ hw hX hc_2 rfl (c_X0_putNext l g L f (ah ((Int32.toNatClampNeg p0) + 3)) (wn (Int32.toNatClampNeg p0)) p1 hc_2 hst0 (zH_val HR gz0 hs0 hd0 gx0.1 gx0.2).1) (cwV 1 hts gX1_put_X0_putNext rfl rfl rfl (by decide +kernel) ⟨(Nat.le_of_ble_eq_true rfl), (Nat.le_of_ble_eq_true rfl)⟩) rfl hl.1 rfl (Nat.le_of_ble_eq_true rfl) dX1_put_21 ⟨(Nat.le_of_ble_eq_true rfl), (Nat.le_of_ble_eq_true rfl)⟩ (fun _ _ _ _ _ _ _ hp => False.elim hp) (fun r9 L9 f9 H locs hp hw => ?_)
  obtain ⟨rfl, rfl, hu9⟩ := hp
  refine W.eq (g2 := F0 m 24 ls []) rfl ?_
  obtain ⟨f_6, he_7⟩ : ∃ z, va_up f (zws (wn (Int32.toNatClampNeg p0))) (.inl (g.2 1, (ln d0), .inr (.inl (vp_updL (ct d0) (Int32.toNatClampNeg ((zwr (wn (Int32.toNatClampNeg p0))) + (zwp (wn (Int32.toNatClampNeg p0))))) (zcut (zwk (wn (Int32.toNatClampNeg p0))) p1))))) = z := ⟨_, rfl⟩
  have hc_8 := zu_o he_7 hc_2 (zc.dj hc_2 hst0 (by intro h; cases h))
  have hc_9 := zu_c (hst0).1 he_7
  have hu : va_up f_6 (ah ((Int32.toNatClampNeg p0) + 3)) (.inr (0, zwf ((zwk (wn (Int32.toNatClampNeg p0))), (zwo (wn (Int32.toNatClampNeg p0))), (zws (wn (Int32.toNatClampNeg p0))), (zwr (wn (Int32.toNatClampNeg p0))), (zwc (wn (Int32.toNatClampNeg p0))), ((zwp (wn (Int32.toNatClampNeg p0))) + 1), (zwe (wn (Int32.toNatClampNeg p0))), (zwm (wn (Int32.toNatClampNeg p0)))))) = f9 := by rw [← he_7]; exact hu9
  obtain ⟨f_5, rfl⟩ : ∃ z, z = f9 := ⟨_, rfl⟩
  refine lv_aload hx hb dX1_put_24 (lv_at hl 0 rfl) ?_
  refine zr_get (C := RX0) (T := TX0) (N := 8) (v := .int ((zwp (wn (Int32.toNatClampNeg p0))) + 1)) hx hb hts hi_X1_put_X0 hown hw (zu_c (hc_8).1 hu) rfl 5 (by decide) hf_X1_put_63 rfl dX1_put_26 ?_
  have HR2 := zHR_f hu9 (zHR_put HR gz0 hs0 hd0 gn0 (v := p1))
  have hfr : ∀ b, P b → f_5 b = f b := by rw [← hu, ← he_7]; exact zfr_put HR gz0
  have ho : (o_put σ p0 p1) = (0, zPL σ (Int32.toNatClampNeg p0) + 1, zNx σ (Int32.toNatClampNeg p0) p1) := oz_put gz0 gr gn0
  exact z_iret hx hb hr hlocks hw (Nat.le_of_ble_eq_true rfl) (Nat.le_of_ble_eq_true rfl) dX1_put_29 ⟨by rw [ho], congrArg (fun z => some (Value.int z)) ((congrArg (fun q => q.2.1) ho).trans (show (zPL σ (Int32.toNatClampNeg p0) + 1 : Int32) = ((zwp (wn (Int32.toNatClampNeg p0))) + 1) from (by first | rfl | simp only [hk0, ho0, hr0, hc0, hp0, he0, hm0]))), by rw [ho]; exact ⟨_, _, _, _, _, _, _, _, _, rfl, HR2⟩, hfr⟩

theorem hi_X1_getAt_X0 : ∀ w ∈ wsX00, w ∈ wsX1_getAt := by decide +kernel
theorem hf_X1_getAt_74 : Cond.fieldLink RX1 74 (TX0 6).1 (TX0 6).2.1 (TX0 6).2.2.1 ∈ wsX1_getAt := by decide +kernel
set_option maxRecDepth 100000 in
set_option maxHeartbeats 4000000 in
theorem c_X1_getAt (l : Launch) (hl0 : l.stackTraces = false) (g : zG) (L : List Nat) (f : Nat → va_E) (h : Nat) (P : Nat → Prop) (σ : ZS) (p0 : Int32) (p1 : Int32) (hH : zHC g h P σ L f) : zC l yX1_getAt wsX1_getAt { frames := 9, cells := 3, slots := 18, locals := 146 } 3 18 g [.ref h, .int p0, .int p1] L f (fun r L1 f1 => (o_getAt σ p0 p1).1 = 0 ∧ some (.long (o_getAt σ p0 p1).2.1) = r ∧ zHC g h P (o_getAt σ p0 p1).2.2 L1 f1 ∧ ∀ b, P b → f1 b = f b) (fun E L1 f1 => zXe ["java/lang/IndexOutOfBoundsException"] (o_getAt σ p0 p1).1 E ∧ L = L1 ∧ f = f1 ∧ (o_getAt σ p0 p1).2.2 = σ) := by
  obtain ⟨ah, G, Rw, rs, wn, ad, ln, kd, ct, rfl, HR⟩ := hH
  obtain ⟨hE, hG, hRw, -⟩ := id HR
  refine z_ofW (cc := cX1_getAt) (maxL := 4) (ret := (some .long)) (by decide) rfl (Nat.le_of_ble_eq_true rfl) ?_
  intro p e s m args below meth c ls A hx hb hr hts hown hlocks hml htab hin hw hX hl
  have hl : lv_has ls 4 [(0, .ref (ah 0)), (1, .int p0), (2, .int p1)] := hl
  have hown : s.vm.findClass RX1 = some m.cls := hown
  refine lv_aload_n hx hb dX1_getAt_0 rfl (lv_at hl 0 rfl) ?_
  refine lv_iload_n hx hb dX1_getAt_1 rfl (lv_at hl 1 rfl) ?_
  refine z_callV (As := [.int p0]) (rest := []) ⟨hx, hb, hml, hown, hts⟩ hw hX (hE.1 0 (by decide)) rfl (c_X1_windowOf l hl0 g L f ah G Rw rs wn p0 hE hG hRw) (cwV 1 hts gX1_getAt_X1_windowOf rfl rfl rfl (by decide +kernel) ⟨(Nat.le_of_ble_eq_true rfl), (Nat.le_of_ble_eq_true rfl)⟩) rfl hl.1 rfl (Nat.le_of_ble_eq_true rfl) dX1_getAt_2 ⟨(Nat.le_of_ble_eq_true rfl), (Nat.le_of_ble_eq_true rfl)⟩ (fun E ce q9 L9 f9 H locs hp hw hce hcv hcl => ?_) (fun r9 L9 f9 H locs hp hw => ?_)
  · obtain ⟨ck_1, rfl, rfl, rfl⟩ := hp
    have gz : ¬ zis σ p0 = true := fun q => ck_1 ((zH_is HR).mpr q)
    have ho : (o_getAt σ p0 p1) = (1, 0, σ) := by unfold o_getAt; first | exact (if_pos (show (zis σ p0 = true) from by assumption)).trans (if_neg (show ¬ (zin p1 0 (zEN σ (Int32.toNatClampNeg p0) - 1) = true) from by assumption)) | exact if_neg (show ¬ (zis σ p0 = true) from by assumption)
    exact z_out htab hlocks hw hce hcv hcl (Nat.le_of_ble_eq_true rfl) (Nat.le_of_ble_eq_true rfl) ⟨⟨0, rfl, by rw [ho]; rfl⟩, rfl, rfl, by rw [ho]⟩
  obtain ⟨ck_1, rfl, rfl, rfl⟩ := hp
  refine W.eq (g2 := F0 m 5 ls [.ref (ah ((Int32.toNatClampNeg p0) + 3))]) rfl ?_
  have hc_2 : zc L f (ah ((Int32.toNatClampNeg p0) + 3)) (.inr (0, zwf (wn (Int32.toNatClampNeg p0)))) := hE.1 ((Int32.toNatClampNeg p0) + 3) (by have := vp_lt ck_1.1; omega)
  have gz0 : zis σ p0 = true := (zH_is HR).mp ck_1
  have gw0 := zI_win HR.I gz0
  obtain ⟨hk0, ho0, hr0, hc0, hp0, he0, hm0⟩ := zH_win HR gz0
  obtain ⟨d0, hd0, hs0, hw0, hlv0, hst0, hct0, hkd0⟩ := zH_st HR gz0
  rw [← hw0] at hst0
  refine lv_astore_n (lv' := [(3, .ref (ah ((Int32.toNatClampNeg p0) + 3))), (0, .ref (ah 0)), (1, .int p0), (2, .int p1)]) hx hb dX1_getAt_5 rfl hl (by decide) rfl (fun ls hl => ?_)
  refine lv_iload_n hx hb dX1_getAt_6 rfl (lv_at hl 3 rfl) ?_
  refine lv_aload_n hx hb dX1_getAt_7 rfl (lv_at hl 0 rfl) ?_
  refine zr_get (C := RX0) (T := TX0) (N := 8) (v := .int (zwe (wn (Int32.toNatClampNeg p0)))) hx hb hts hi_X1_getAt_X0 hown hw hc_2 rfl 6 (by decide) hf_X1_getAt_74 rfl dX1_getAt_8 ?_
  refine z_callS (As := [.int p1, .int (zwe (wn (Int32.toNatClampNeg p0)))]) (rest := []) ⟨hx, hb, hml, hown, hts⟩ hw hX (c_X1_checkIndex l hl0 g L f p1 (zwe (wn (Int32.toNatClampNeg p0)))) (va_cwS 2 hts gX1_getAt_X1_checkIndex rfl rfl rfl (by decide +kernel) ⟨(Nat.le_of_ble_eq_true rfl), (Nat.le_of_ble_eq_true rfl)⟩) rfl hl.1 rfl (Nat.le_of_ble_eq_true rfl) dX1_getAt_11 ⟨(Nat.le_of_ble_eq_true rfl), (Nat.le_of_ble_eq_true rfl)⟩ (fun E ce q9 L9 f9 H locs hp hw hce hcv hcl => ?_) (fun r9 L9 f9 H locs hp hw => ?_)
  · obtain ⟨rfl, rfl, rfl, ck_3⟩ := hp
    have gix : ¬ zin p1 0 (zEN σ (Int32.toNatClampNeg p0) - 1) = true := fun q => ck_3 (by rw [he0]; exact (zin_ix gw0).mp q)
    have ho : (o_getAt σ p0 p1) = (1, 0, σ) := by unfold o_getAt; first | exact (if_pos (show (zis σ p0 = true) from by assumption)).trans (if_neg (show ¬ (zin p1 0 (zEN σ (Int32.toNatClampNeg p0) - 1) = true) from by assumption)) | exact if_neg (show ¬ (zis σ p0 = true) from by assumption)
    exact z_out htab hlocks hw hce hcv hcl (Nat.le_of_ble_eq_true rfl) (Nat.le_of_ble_eq_true rfl) ⟨⟨0, rfl, by rw [ho]; rfl⟩, rfl, rfl, by rw [ho]⟩
  obtain ⟨rfl, rfl, rfl, ck_3⟩ := hp
  refine W.eq (g2 := F0 m 14 ls []) rfl ?_
  have gi : ¬ p1 < 0 ∧ p1 < zEN σ (Int32.toNatClampNeg p0) := by rw [← he0]; exact ck_3
  have gix := (zin_ix gw0).mpr gi
  refine lv_aload_n hx hb dX1_getAt_14 rfl (lv_at hl 0 rfl) ?_
  refine lv_iload_n hx hb dX1_getAt_15 rfl (lv_at hl 3 rfl) ?_
  refine z_callV (As := [.int p1]) (rest := []) ⟨hx, hb, hml, hown, hts⟩ hw hX hc_2 rfl (c_X0_valueAt l g L f (ah ((Int32.toNatClampNeg p0) + 3)) ((zwk (wn (Int32.toNatClampNeg p0))), (zwo (wn (Int32.toNatClampNeg p0))), (zws (wn (Int32.toNatClampNeg p0))), (zwr (wn (Int32.toNatClampNeg p0))), (zwc (wn (Int32.toNatClampNeg p0))), (zwp (wn (Int32.toNatClampNeg p0))), (zwe (wn (Int32.toNatClampNeg p0))), (zwm (wn (Int32.toNatClampNeg p0)))) p1 hc_2 hst0 (zH_val HR gz0 hs0 hd0 gi.1 gi.2).1) (cwV 1 hts gX1_getAt_X0_valueAt rfl rfl rfl (by decide +kernel) ⟨(Nat.le_of_ble_eq_true rfl), (Nat.le_of_ble_eq_true rfl)⟩) rfl hl.1 rfl (Nat.le_of_ble_eq_true rfl) dX1_getAt_16 ⟨(Nat.le_of_ble_eq_true rfl), (Nat.le_of_ble_eq_true rfl)⟩ (fun _ _ _ _ _ _ _ hp => False.elim hp) (fun r9 L9 f9 H locs hp hw => ?_)
  obtain ⟨rfl, rfl, rfl⟩ := hp
  refine W.eq (g2 := F0 m 19 ls [.long ((ct d0) (Int32.toNatClampNeg ((zwr (wn (Int32.toNatClampNeg p0))) + p1)))]) rfl ?_
  have ho : (o_getAt σ p0 p1) = (0, zVal σ (Int32.toNatClampNeg p0) p1, σ) := by unfold o_getAt; exact (if_pos (show (zis σ p0 = true) from by assumption)).trans (if_pos (show (zin p1 0 (zEN σ (Int32.toNatClampNeg p0) - 1) = true) from by assumption))
  exact z_lret hx hb hr hlocks hw (Nat.le_of_ble_eq_true rfl) (Nat.le_of_ble_eq_true rfl) dX1_getAt_19 ⟨by rw [ho], congrArg (fun z => some (Value.long z)) ((congrArg (fun q => q.2.1) ho).trans (show (zVal σ (Int32.toNatClampNeg p0) p1 : Int64) = ((ct d0) (Int32.toNatClampNeg ((zwr (wn (Int32.toNatClampNeg p0))) + p1))) from (zH_val HR gz0 hs0 hd0 gi.1 gi.2).2.symm)), by rw [ho]; exact ⟨_, _, _, _, _, _, _, _, _, rfl, HR⟩, fun _ _ => rfl⟩

theorem hi_X1_putAt_X0 : ∀ w ∈ wsX00, w ∈ wsX1_putAt := by decide +kernel
theorem hf_X1_putAt_74 : Cond.fieldLink RX1 74 (TX0 6).1 (TX0 6).2.1 (TX0 6).2.2.1 ∈ wsX1_putAt := by decide +kernel
set_option maxRecDepth 100000 in
set_option maxHeartbeats 4000000 in
theorem c_X1_putAt (l : Launch) (hl0 : l.stackTraces = false) (g : zG) (L : List Nat) (f : Nat → va_E) (h : Nat) (P : Nat → Prop) (σ : ZS) (p0 : Int32) (p1 : Int32) (p2 : Int64) (hH : zHC g h P σ L f) : zC l yX1_putAt wsX1_putAt { frames := 9, cells := 4, slots := 24, locals := 146 } 4 24 g [.ref h, .int p0, .int p1, .long p2] L f (fun r L1 f1 => (o_putAt σ p0 p1 p2).1 = 0 ∧ some (.long (o_putAt σ p0 p1 p2).2.1) = r ∧ zHC g h P (o_putAt σ p0 p1 p2).2.2 L1 f1 ∧ ∀ b, P b → f1 b = f b) (fun E L1 f1 => zXe ["java/lang/IndexOutOfBoundsException", "java/lang/UnsupportedOperationException"] (o_putAt σ p0 p1 p2).1 E ∧ L = L1 ∧ f = f1 ∧ (o_putAt σ p0 p1 p2).2.2 = σ) := by
  obtain ⟨ah, G, Rw, rs, wn, ad, ln, kd, ct, rfl, HR⟩ := hH
  obtain ⟨hE, hG, hRw, -⟩ := id HR
  refine z_ofW (cc := cX1_putAt) (maxL := 8) (ret := (some .long)) (by decide) rfl (Nat.le_of_ble_eq_true rfl) ?_
  intro p e s m args below meth c ls A hx hb hr hts hown hlocks hml htab hin hw hX hl
  have hl : lv_has ls 8 [(0, .ref (ah 0)), (1, .int p0), (2, .int p1), (3, .long p2)] := hl
  have hown : s.vm.findClass RX1 = some m.cls := hown
  refine lv_aload_n hx hb dX1_putAt_0 rfl (lv_at hl 0 rfl) ?_
  refine lv_iload_n hx hb dX1_putAt_1 rfl (lv_at hl 1 rfl) ?_
  refine z_callV (As := [.int p0]) (rest := []) ⟨hx, hb, hml, hown, hts⟩ hw hX (hE.1 0 (by decide)) rfl (c_X1_windowOf l hl0 g L f ah G Rw rs wn p0 hE hG hRw) (cwV 1 hts gX1_putAt_X1_windowOf rfl rfl rfl (by decide +kernel) ⟨(Nat.le_of_ble_eq_true rfl), (Nat.le_of_ble_eq_true rfl)⟩) rfl hl.1 rfl (Nat.le_of_ble_eq_true rfl) dX1_putAt_2 ⟨(Nat.le_of_ble_eq_true rfl), (Nat.le_of_ble_eq_true rfl)⟩ (fun E ce q9 L9 f9 H locs hp hw hce hcv hcl => ?_) (fun r9 L9 f9 H locs hp hw => ?_)
  · obtain ⟨ck_1, rfl, rfl, rfl⟩ := hp
    have gz : ¬ zis σ p0 = true := fun q => ck_1 ((zH_is HR).mpr q)
    have ho : (o_putAt σ p0 p1 p2) = (1, 0, σ) := by unfold o_putAt; first | exact (if_pos (show (zis σ p0 = true) from by assumption)).trans (if_neg (show ¬ (zin p1 0 (zEN σ (Int32.toNatClampNeg p0) - 1) = true) from by assumption)) | exact if_neg (show ¬ (zis σ p0 = true) from by assumption)
    exact z_out htab hlocks hw hce hcv hcl (Nat.le_of_ble_eq_true rfl) (Nat.le_of_ble_eq_true rfl) ⟨⟨0, rfl, by rw [ho]; rfl⟩, rfl, rfl, by rw [ho]⟩
  obtain ⟨ck_1, rfl, rfl, rfl⟩ := hp
  refine W.eq (g2 := F0 m 5 ls [.ref (ah ((Int32.toNatClampNeg p0) + 3))]) rfl ?_
  have hc_2 : zc L f (ah ((Int32.toNatClampNeg p0) + 3)) (.inr (0, zwf (wn (Int32.toNatClampNeg p0)))) := hE.1 ((Int32.toNatClampNeg p0) + 3) (by have := vp_lt ck_1.1; omega)
  have gz0 : zis σ p0 = true := (zH_is HR).mp ck_1
  have gw0 := zI_win HR.I gz0
  obtain ⟨hk0, ho0, hr0, hc0, hp0, he0, hm0⟩ := zH_win HR gz0
  obtain ⟨d0, hd0, hs0, hw0, hlv0, hst0, hct0, hkd0⟩ := zH_st HR gz0
  rw [← hw0] at hst0
  refine lv_astore (lv' := [(5, .ref (ah ((Int32.toNatClampNeg p0) + 3))), (0, .ref (ah 0)), (1, .int p0), (2, .int p1), (3, .long p2)]) hx hb dX1_putAt_5 hl (by decide) rfl (fun ls hl => ?_)
  refine lv_iload_n hx hb dX1_putAt_7 rfl (lv_at hl 3 rfl) ?_
  refine lv_aload hx hb dX1_putAt_8 (lv_at hl 0 rfl) ?_
  refine zr_get (C := RX0) (T := TX0) (N := 8) (v := .int (zwe (wn (Int32.toNatClampNeg p0)))) hx hb hts hi_X1_putAt_X0 hown hw hc_2 rfl 6 (by decide) hf_X1_putAt_74 rfl dX1_putAt_10 ?_
  refine z_callS (As := [.int p1, .int (zwe (wn (Int32.toNatClampNeg p0)))]) (rest := []) ⟨hx, hb, hml, hown, hts⟩ hw hX (c_X1_checkIndex l hl0 g L f p1 (zwe (wn (Int32.toNatClampNeg p0)))) (va_cwS 2 hts gX1_putAt_X1_checkIndex rfl rfl rfl (by decide +kernel) ⟨(Nat.le_of_ble_eq_true rfl), (Nat.le_of_ble_eq_true rfl)⟩) rfl hl.1 rfl (Nat.le_of_ble_eq_true rfl) dX1_putAt_13 ⟨(Nat.le_of_ble_eq_true rfl), (Nat.le_of_ble_eq_true rfl)⟩ (fun E ce q9 L9 f9 H locs hp hw hce hcv hcl => ?_) (fun r9 L9 f9 H locs hp hw => ?_)
  · obtain ⟨rfl, rfl, rfl, ck_3⟩ := hp
    have gix : ¬ zin p1 0 (zEN σ (Int32.toNatClampNeg p0) - 1) = true := fun q => ck_3 (by rw [he0]; exact (zin_ix gw0).mp q)
    have ho : (o_putAt σ p0 p1 p2) = (1, 0, σ) := by unfold o_putAt; first | exact (if_pos (show (zis σ p0 = true) from by assumption)).trans (if_neg (show ¬ (zin p1 0 (zEN σ (Int32.toNatClampNeg p0) - 1) = true) from by assumption)) | exact if_neg (show ¬ (zis σ p0 = true) from by assumption)
    exact z_out htab hlocks hw hce hcv hcl (Nat.le_of_ble_eq_true rfl) (Nat.le_of_ble_eq_true rfl) ⟨⟨0, rfl, by rw [ho]; rfl⟩, rfl, rfl, by rw [ho]⟩
  obtain ⟨rfl, rfl, rfl, ck_3⟩ := hp
  refine W.eq (g2 := F0 m 16 ls []) rfl ?_
  have gi : ¬ p1 < 0 ∧ p1 < zEN σ (Int32.toNatClampNeg p0) := by rw [← he0]; exact ck_3
  have gix := (zin_ix gw0).mpr gi
  refine lv_aload hx hb dX1_putAt_16 (lv_at hl 0 rfl) ?_
  refine z_callS (As := [.ref (ah ((Int32.toNatClampNeg p0) + 3))]) (rest := []) ⟨hx, hb, hml, hown, hts⟩ hw hX (c_X1_checkWritable l hl0 g L f (ah ((Int32.toNatClampNeg p0) + 3)) ((zwk (wn (Int32.toNatClampNeg p0))), (zwo (wn (Int32.toNatClampNeg p0))), (zws (wn (Int32.toNatClampNeg p0))), (zwr (wn (Int32.toNatClampNeg p0))), (zwc (wn (Int32.toNatClampNeg p0))), (zwp (wn (Int32.toNatClampNeg p0))), (zwe (wn (Int32.toNatClampNeg p0))), (zwm (wn (Int32.toNatClampNeg p0))))  hc_2) (va_cwS 1 hts gX1_putAt_X1_checkWritable rfl rfl rfl (by decide +kernel) ⟨(Nat.le_of_ble_eq_true rfl), (Nat.le_of_ble_eq_true rfl)⟩) rfl hl.1 rfl (Nat.le_of_ble_eq_true rfl) dX1_putAt_18 ⟨(Nat.le_of_ble_eq_true rfl), (Nat.le_of_ble_eq_true rfl)⟩ (fun E ce q9 L9 f9 H locs hp hw hce hcv hcl => ?_) (fun r9 L9 f9 H locs hp hw => ?_)
  · obtain ⟨rfl, rfl, rfl, ck_4⟩ := hp
    have gr : ¬ zRD σ (Int32.toNatClampNeg p0) = 0 := by rw [← ho0]; exact ck_4
    have ho : (o_putAt σ p0 p1 p2) = (2, 0, σ) := by unfold o_putAt; first | exact (if_pos (show (zis σ p0 = true) from by assumption)).trans ((if_pos (show (zin p1 0 (zEN σ (Int32.toNatClampNeg p0) - 1) = true) from by assumption)).trans (if_neg (show ¬ (zRD σ (Int32.toNatClampNeg p0) = 0) from by assumption)))
    exact z_out htab hlocks hw hce hcv hcl (Nat.le_of_ble_eq_true rfl) (Nat.le_of_ble_eq_true rfl) ⟨⟨1, rfl, by rw [ho]; rfl⟩, rfl, rfl, by rw [ho]⟩
  obtain ⟨rfl, rfl, rfl, ck_4⟩ := hp
  refine W.eq (g2 := F0 m 21 ls []) rfl ?_
  have gr : zRD σ (Int32.toNatClampNeg p0) = 0 := by rw [← ho0]; exact ck_4
  refine lv_aload hx hb dX1_putAt_21 (lv_at hl 0 rfl) ?_
  refine lv_iload_n hx hb dX1_putAt_23 rfl (lv_at hl 3 rfl) ?_
  refine z_callV (As := [.int p1]) (rest := []) ⟨hx, hb, hml, hown, hts⟩ hw hX hc_2 rfl (c_X0_valueAt l g L f (ah ((Int32.toNatClampNeg p0) + 3)) ((zwk (wn (Int32.toNatClampNeg p0))), (zwo (wn (Int32.toNatClampNeg p0))), (zws (wn (Int32.toNatClampNeg p0))), (zwr (wn (Int32.toNatClampNeg p0))), (zwc (wn (Int32.toNatClampNeg p0))), (zwp (wn (Int32.toNatClampNeg p0))), (zwe (wn (Int32.toNatClampNeg p0))), (zwm (wn (Int32.toNatClampNeg p0)))) p1 hc_2 hst0 (zH_val HR gz0 hs0 hd0 gi.1 gi.2).1) (cwV 1 hts gX1_putAt_X0_valueAt rfl rfl rfl (by decide +kernel) ⟨(Nat.le_of_ble_eq_true rfl), (Nat.le_of_ble_eq_true rfl)⟩) rfl hl.1 rfl (Nat.le_of_ble_eq_true rfl) dX1_putAt_24 ⟨(Nat.le_of_ble_eq_true rfl), (Nat.le_of_ble_eq_true rfl)⟩ (fun _ _ _ _ _ _ _ hp => False.elim hp) (fun r9 L9 f9 H locs hp hw => ?_)
  obtain ⟨rfl, rfl, rfl⟩ := hp
  refine W.eq (g2 := F0 m 27 ls [.long ((ct d0) (Int32.toNatClampNeg ((zwr (wn (Int32.toNatClampNeg p0))) + p1)))]) rfl ?_
  refine lv_lstore (lv' := [(6, .long ((ct d0) (Int32.toNatClampNeg ((zwr (wn (Int32.toNatClampNeg p0))) + p1)))), (5, .ref (ah ((Int32.toNatClampNeg p0) + 3))), (0, .ref (ah 0)), (1, .int p0), (2, .int p1), (3, .long p2)]) hx hb dX1_putAt_27 hl (by decide) rfl (fun ls hl => ?_)
  refine lv_aload hx hb dX1_putAt_29 (lv_at hl 1 rfl) ?_
  refine lv_iload_n hx hb dX1_putAt_31 rfl (lv_at hl 4 rfl) ?_
  refine lv_lload_n hx hb dX1_putAt_32 rfl (lv_at hl 5 rfl) ?_
  refine z_callV (As := [.int p1, .long p2]) (rest := []) ⟨hx, hb, hml, hown, hts⟩ hw hX hc_2 rfl (c_X0_changeAt l g L f (ah ((Int32.toNatClampNeg p0) + 3)) ((zwk (wn (Int32.toNatClampNeg p0))), (zwo (wn (Int32.toNatClampNeg p0))), (zws (wn (Int32.toNatClampNeg p0))), (zwr (wn (Int32.toNatClampNeg p0))), (zwc (wn (Int32.toNatClampNeg p0))), (zwp (wn (Int32.toNatClampNeg p0))), (zwe (wn (Int32.toNatClampNeg p0))), (zwm (wn (Int32.toNatClampNeg p0)))) p1 p2 hc_2 hst0 (zH_val HR gz0 hs0 hd0 gi.1 gi.2).1) (cwV 2 hts gX1_putAt_X0_changeAt rfl rfl rfl (by decide +kernel) ⟨(Nat.le_of_ble_eq_true rfl), (Nat.le_of_ble_eq_true rfl)⟩) rfl hl.1 rfl (Nat.le_of_ble_eq_true rfl) dX1_putAt_33 ⟨(Nat.le_of_ble_eq_true rfl), (Nat.le_of_ble_eq_true rfl)⟩ (fun _ _ _ _ _ _ _ hp => False.elim hp) (fun r9 L9 f9 H locs hp hw => ?_)
  obtain ⟨rfl, rfl, he_6⟩ := hp
  refine W.eq (g2 := F0 m 36 ls []) rfl ?_
  obtain ⟨f_5, rfl⟩ : ∃ z, z = f9 := ⟨_, rfl⟩
  have hc_7 := zu_o he_6 hc_2 (zc.dj hc_2 hst0 (by intro h; cases h))
  have hc_8 := zu_c (hst0).1 he_6
  refine lv_lload hx hb dX1_putAt_36 (lv_at hl 0 rfl) ?_
  have HR2 := zHR_f he_6 (zHR_lay HR gz0 hs0 hd0 gi.1 gi.2 (v := p2))
  have hfr : ∀ b, P b → f_5 b = f b := by rw [← he_6]; exact zfr_ws HR gz0
  have ho : (o_putAt σ p0 p1 p2) = (0, zVal σ (Int32.toNatClampNeg p0) p1, zLay σ (Int32.toNatClampNeg p0) p1 p2) := by unfold o_putAt; exact (if_pos (show (zis σ p0 = true) from by assumption)).trans ((if_pos (show (zin p1 0 (zEN σ (Int32.toNatClampNeg p0) - 1) = true) from by assumption)).trans (if_pos (show (zRD σ (Int32.toNatClampNeg p0) = 0) from by assumption)))
  exact z_lret hx hb hr hlocks hw (Nat.le_of_ble_eq_true rfl) (Nat.le_of_ble_eq_true rfl) dX1_putAt_38 ⟨by rw [ho], congrArg (fun z => some (Value.long z)) ((congrArg (fun q => q.2.1) ho).trans (show (zVal σ (Int32.toNatClampNeg p0) p1 : Int64) = ((ct d0) (Int32.toNatClampNeg ((zwr (wn (Int32.toNatClampNeg p0))) + p1))) from (zH_val HR gz0 hs0 hd0 gi.1 gi.2).2.symm)), by rw [ho]; exact ⟨_, _, _, _, _, _, _, _, _, rfl, HR2⟩, hfr⟩

theorem hi_X1_slice_X0 : ∀ w ∈ wsX00, w ∈ wsX1_slice := by decide +kernel
theorem hf_X1_slice_56 : Cond.fieldLink RX1 56 (TX0 4).1 (TX0 4).2.1 (TX0 4).2.2.1 ∈ wsX1_slice := by decide +kernel
theorem hf_X1_slice_63 : Cond.fieldLink RX1 63 (TX0 5).1 (TX0 5).2.1 (TX0 5).2.2.1 ∈ wsX1_slice := by decide +kernel
set_option maxRecDepth 100000 in
set_option maxHeartbeats 4000000 in
theorem c_X1_slice (l : Launch) (hl0 : l.stackTraces = false) (g : zG) (L : List Nat) (f : Nat → va_E) (h : Nat) (P : Nat → Prop) (σ : ZS) (p0 : Int32) (p1 : Int32) (hH : zHC g h P σ L f) : zC l yX1_slice wsX1_slice { frames := 9, cells := 3, slots := 18, locals := 146 } 3 18 g [.ref h, .int p0, .int p1] L f (fun r L1 f1 => (o_slice σ p0 p1).1 = 0 ∧ some (.int (o_slice σ p0 p1).2.1) = r ∧ zHC g h P (o_slice σ p0 p1).2.2 L1 f1 ∧ ∀ b, P b → f1 b = f b) (fun E L1 f1 => zXe ["java/lang/IndexOutOfBoundsException"] (o_slice σ p0 p1).1 E ∧ L = L1 ∧ f = f1 ∧ (o_slice σ p0 p1).2.2 = σ) := by
  obtain ⟨ah, G, Rw, rs, wn, ad, ln, kd, ct, rfl, HR⟩ := hH
  obtain ⟨hE, hG, hRw, -⟩ := id HR
  refine z_ofW (cc := cX1_slice) (maxL := 5) (ret := (some .int)) (by decide) rfl (Nat.le_of_ble_eq_true rfl) ?_
  intro p e s m args below meth c ls A hx hb hr hts hown hlocks hml htab hin hw hX hl
  have hl : lv_has ls 5 [(0, .ref (ah 0)), (1, .int p0), (2, .int p1)] := hl
  have hown : s.vm.findClass RX1 = some m.cls := hown
  refine lv_aload_n hx hb dX1_slice_0 rfl (lv_at hl 0 rfl) ?_
  refine lv_iload_n hx hb dX1_slice_1 rfl (lv_at hl 1 rfl) ?_
  refine z_callV (As := [.int p0]) (rest := []) ⟨hx, hb, hml, hown, hts⟩ hw hX (hE.1 0 (by decide)) rfl (c_X1_windowOf l hl0 g L f ah G Rw rs wn p0 hE hG hRw) (cwV 1 hts gX1_slice_X1_windowOf rfl rfl rfl (by decide +kernel) ⟨(Nat.le_of_ble_eq_true rfl), (Nat.le_of_ble_eq_true rfl)⟩) rfl hl.1 rfl (Nat.le_of_ble_eq_true rfl) dX1_slice_2 ⟨(Nat.le_of_ble_eq_true rfl), (Nat.le_of_ble_eq_true rfl)⟩ (fun E ce q9 L9 f9 H locs hp hw hce hcv hcl => ?_) (fun r9 L9 f9 H locs hp hw => ?_)
  · obtain ⟨ck_1, rfl, rfl, rfl⟩ := hp
    have gz : ¬ zis σ p0 = true := fun q => ck_1 ((zH_is HR).mpr q)
    have ho : (o_slice σ p0 p1) = (1, 0, σ) := by unfold o_slice; first | exact (if_pos (show (zis σ p0 = true) from by assumption)).trans (if_neg (show ¬ (zin p1 0 7 = true) from by assumption)) | exact if_neg (show ¬ (zis σ p0 = true) from by assumption)
    exact z_out htab hlocks hw hce hcv hcl (Nat.le_of_ble_eq_true rfl) (Nat.le_of_ble_eq_true rfl) ⟨⟨0, rfl, by rw [ho]; rfl⟩, rfl, rfl, by rw [ho]⟩
  obtain ⟨ck_1, rfl, rfl, rfl⟩ := hp
  refine W.eq (g2 := F0 m 5 ls [.ref (ah ((Int32.toNatClampNeg p0) + 3))]) rfl ?_
  have hc_2 : zc L f (ah ((Int32.toNatClampNeg p0) + 3)) (.inr (0, zwf (wn (Int32.toNatClampNeg p0)))) := hE.1 ((Int32.toNatClampNeg p0) + 3) (by have := vp_lt ck_1.1; omega)
  have gz0 : zis σ p0 = true := (zH_is HR).mp ck_1
  have gw0 := zI_win HR.I gz0
  obtain ⟨hk0, ho0, hr0, hc0, hp0, he0, hm0⟩ := zH_win HR gz0
  refine lv_astore_n (lv' := [(3, .ref (ah ((Int32.toNatClampNeg p0) + 3))), (0, .ref (ah 0)), (1, .int p0), (2, .int p1)]) hx hb dX1_slice_5 rfl hl (by decide) rfl (fun ls hl => ?_)
  refine lv_aload_n hx hb dX1_slice_6 rfl (lv_at hl 1 rfl) ?_
  refine lv_iload_n hx hb dX1_slice_7 rfl (lv_at hl 3 rfl) ?_
  refine z_callV (As := [.int p1]) (rest := []) ⟨hx, hb, hml, hown, hts⟩ hw hX (hE.1 0 (by decide)) rfl (c_X1_slotOf l hl0 g L f ah G Rw rs wn p1 hE hG hRw) (cwV 1 hts gX1_slice_X1_slotOf rfl rfl rfl (by decide +kernel) ⟨(Nat.le_of_ble_eq_true rfl), (Nat.le_of_ble_eq_true rfl)⟩) rfl hl.1 rfl (Nat.le_of_ble_eq_true rfl) dX1_slice_8 ⟨(Nat.le_of_ble_eq_true rfl), (Nat.le_of_ble_eq_true rfl)⟩ (fun E ce q9 L9 f9 H locs hp hw hce hcv hcl => ?_) (fun r9 L9 f9 H locs hp hw => ?_)
  · obtain ⟨ck_3, rfl, rfl, rfl⟩ := hp
    have gs : ¬ zin p1 0 7 = true := fun q => ck_3 (zin7.mp q)
    have ho : (o_slice σ p0 p1) = (1, 0, σ) := by unfold o_slice; first | exact (if_pos (show (zis σ p0 = true) from by assumption)).trans (if_neg (show ¬ (zin p1 0 7 = true) from by assumption)) | exact if_neg (show ¬ (zis σ p0 = true) from by assumption)
    exact z_out htab hlocks hw hce hcv hcl (Nat.le_of_ble_eq_true rfl) (Nat.le_of_ble_eq_true rfl) ⟨⟨0, rfl, by rw [ho]; rfl⟩, rfl, rfl, by rw [ho]⟩
  obtain ⟨ck_3, rfl, rfl, rfl⟩ := hp
  refine W.eq (g2 := F0 m 11 ls [.ref (ah ((Int32.toNatClampNeg p1) + 3))]) rfl ?_
  have hc_4 : zc L f (ah ((Int32.toNatClampNeg p1) + 3)) (.inr (0, zwf (wn (Int32.toNatClampNeg p1)))) := hE.1 ((Int32.toNatClampNeg p1) + 3) (by have := vp_lt ck_3; omega)
  have gs1 : zin p1 0 7 = true := zin7.mpr ck_3
  refine lv_astore (lv' := [(4, .ref (ah ((Int32.toNatClampNeg p1) + 3))), (3, .ref (ah ((Int32.toNatClampNeg p0) + 3))), (0, .ref (ah 0)), (1, .int p0), (2, .int p1)]) hx hb dX1_slice_11 hl (by decide) rfl (fun ls hl => ?_)
  refine lv_aload hx hb dX1_slice_13 (lv_at hl 0 rfl) ?_
  refine lv_aload_n hx hb dX1_slice_15 rfl (lv_at hl 1 rfl) ?_
  refine lv_aload_n hx hb dX1_slice_16 rfl (lv_at hl 1 rfl) ?_
  refine zr_get (C := RX0) (T := TX0) (N := 8) (v := .int (zwp (wn (Int32.toNatClampNeg p0)))) hx hb hts hi_X1_slice_X0 hown hw hc_2 rfl 5 (by decide) hf_X1_slice_63 rfl dX1_slice_17 ?_
  refine lv_aload_n hx hb dX1_slice_20 rfl (lv_at hl 1 rfl) ?_
  refine z_callV (As := []) (rest := [.int (zwp (wn (Int32.toNatClampNeg p0))), .ref (ah ((Int32.toNatClampNeg p0) + 3)), .ref (ah ((Int32.toNatClampNeg p1) + 3))]) ⟨hx, hb, hml, hown, hts⟩ hw hX hc_2 rfl (c_X0_rest l g L f (ah ((Int32.toNatClampNeg p0) + 3)) ((zwk (wn (Int32.toNatClampNeg p0))), (zwo (wn (Int32.toNatClampNeg p0))), (zws (wn (Int32.toNatClampNeg p0))), (zwr (wn (Int32.toNatClampNeg p0))), (zwc (wn (Int32.toNatClampNeg p0))), (zwp (wn (Int32.toNatClampNeg p0))), (zwe (wn (Int32.toNatClampNeg p0))), (zwm (wn (Int32.toNatClampNeg p0)))) hc_2) (cwV 0 hts gX1_slice_X0_rest rfl rfl rfl (by decide +kernel) ⟨(Nat.le_of_ble_eq_true rfl), (Nat.le_of_ble_eq_true rfl)⟩) rfl hl.1 rfl (Nat.le_of_ble_eq_true rfl) dX1_slice_21 ⟨(Nat.le_of_ble_eq_true rfl), (Nat.le_of_ble_eq_true rfl)⟩ (fun _ _ _ _ _ _ _ hp => False.elim hp) (fun r9 L9 f9 H locs hp hw => ?_)
  obtain ⟨rfl, rfl, rfl⟩ := hp
  refine W.eq (g2 := F0 m 24 ls [.int ((zwe (wn (Int32.toNatClampNeg p0))) - (zwp (wn (Int32.toNatClampNeg p0)))), .int (zwp (wn (Int32.toNatClampNeg p0))), .ref (ah ((Int32.toNatClampNeg p0) + 3)), .ref (ah ((Int32.toNatClampNeg p1) + 3))]) rfl ?_
  refine z_callV (As := [.ref (ah ((Int32.toNatClampNeg p0) + 3)), .int (zwp (wn (Int32.toNatClampNeg p0))), .int ((zwe (wn (Int32.toNatClampNeg p0))) - (zwp (wn (Int32.toNatClampNeg p0))))]) (rest := []) ⟨hx, hb, hml, hown, hts⟩ hw hX hc_4 rfl (c_X0_becomeSlice l g L f (ah ((Int32.toNatClampNeg p1) + 3)) (wn (Int32.toNatClampNeg p1)) (ah ((Int32.toNatClampNeg p0) + 3)) (wn (Int32.toNatClampNeg p0)) (zwp (wn (Int32.toNatClampNeg p0))) ((zwe (wn (Int32.toNatClampNeg p0))) - (zwp (wn (Int32.toNatClampNeg p0)))) hc_4 hc_2 (zH_kb HR gz0).2.1 (zH_kb HR gz0).2.2.1) (cwV 3 hts gX1_slice_X0_becomeSlice rfl rfl rfl (by decide +kernel) ⟨(Nat.le_of_ble_eq_true rfl), (Nat.le_of_ble_eq_true rfl)⟩) rfl hl.1 rfl (Nat.le_of_ble_eq_true rfl) dX1_slice_24 ⟨(Nat.le_of_ble_eq_true rfl), (Nat.le_of_ble_eq_true rfl)⟩ (fun _ _ _ _ _ _ _ hp => False.elim hp) (fun r9 L9 f9 H locs hp hw => ?_)
  obtain ⟨rfl, rfl, hu9⟩ := hp
  refine W.eq (g2 := F0 m 27 ls []) rfl ?_
  have hu := hu9
  obtain ⟨f_5, rfl⟩ : ∃ z, z = f9 := ⟨_, rfl⟩
  refine lv_aload hx hb dX1_slice_27 (lv_at hl 0 rfl) ?_
  refine zr_get (C := RX0) (T := TX0) (N := 8) (v := .int ((zwe (wn (Int32.toNatClampNeg p0))) - (zwp (wn (Int32.toNatClampNeg p0))))) hx hb hts hi_X1_slice_X0 hown hw (zu_c (hc_4).1 hu) rfl 4 (by decide) hf_X1_slice_56 rfl dX1_slice_29 ?_
  obtain ⟨s9, p9, e9, hs9, hp9, he9, hpe9, hes9, hs64, hmk9⟩ := zW_nat gw0
  have HR2 := zHR_f hu (zHR_slice HR gz0 (vp_lt (zin7.mp gs1)) (x := zPL σ (Int32.toNatClampNeg p0)) (n := zEN σ (Int32.toNatClampNeg p0) - zPL σ (Int32.toNatClampNeg p0)) hp9 (nn := e9 - p9) (by rw [he9, hp9, pk_sub hpe9]) (by rw [he9, nI_leI (by omega) (by omega)]; omega) (by omega) (x1 := ((zwk (wn (Int32.toNatClampNeg p0))), (zwo (wn (Int32.toNatClampNeg p0))), (zws (wn (Int32.toNatClampNeg p0))), ((zwr (wn (Int32.toNatClampNeg p0))) + (zwp (wn (Int32.toNatClampNeg p0)))), ((zwe (wn (Int32.toNatClampNeg p0))) - (zwp (wn (Int32.toNatClampNeg p0)))), 0, ((zwe (wn (Int32.toNatClampNeg p0))) - (zwp (wn (Int32.toNatClampNeg p0)))), (-1))) (by simp only [hp0, he0]))
  have hfr : ∀ b, P b → f_5 b = f b := by rw [← hu]; exact zfr_win HR (by have := vp_lt (zin7.mp gs1); omega)
  have ho : (o_slice σ p0 p1) = (0, zEN σ (Int32.toNatClampNeg p0) - zPL σ (Int32.toNatClampNeg p0), _) := oz_slice gz0 gs1
  exact z_iret hx hb hr hlocks hw (Nat.le_of_ble_eq_true rfl) (Nat.le_of_ble_eq_true rfl) dX1_slice_32 ⟨by rw [ho], congrArg (fun z => some (Value.int z)) ((congrArg (fun q => q.2.1) ho).trans (show (zEN σ (Int32.toNatClampNeg p0) - zPL σ (Int32.toNatClampNeg p0) : Int32) = ((zwe (wn (Int32.toNatClampNeg p0))) - (zwp (wn (Int32.toNatClampNeg p0)))) from (by first | rfl | simp only [hk0, ho0, hr0, hc0, hp0, he0, hm0]))), by rw [ho]; exact ⟨_, _, _, _, _, _, _, _, _, rfl, HR2⟩, hfr⟩

theorem hi_X1_sliceAt_X0 : ∀ w ∈ wsX00, w ∈ wsX1_sliceAt := by decide +kernel
theorem hf_X1_sliceAt_56 : Cond.fieldLink RX1 56 (TX0 4).1 (TX0 4).2.1 (TX0 4).2.2.1 ∈ wsX1_sliceAt := by decide +kernel
theorem hf_X1_sliceAt_74 : Cond.fieldLink RX1 74 (TX0 6).1 (TX0 6).2.1 (TX0 6).2.2.1 ∈ wsX1_sliceAt := by decide +kernel
set_option maxRecDepth 100000 in
set_option maxHeartbeats 4000000 in
theorem c_X1_sliceAt (l : Launch) (hl0 : l.stackTraces = false) (g : zG) (L : List Nat) (f : Nat → va_E) (h : Nat) (P : Nat → Prop) (σ : ZS) (p0 : Int32) (p1 : Int32) (p2 : Int32) (p3 : Int32) (hH : zHC g h P σ L f) : zC l yX1_sliceAt wsX1_sliceAt { frames := 9, cells := 4, slots := 24, locals := 146 } 4 24 g [.ref h, .int p0, .int p1, .int p2, .int p3] L f (fun r L1 f1 => (o_sliceAt σ p0 p1 p2 p3).1 = 0 ∧ some (.int (o_sliceAt σ p0 p1 p2 p3).2.1) = r ∧ zHC g h P (o_sliceAt σ p0 p1 p2 p3).2.2 L1 f1 ∧ ∀ b, P b → f1 b = f b) (fun E L1 f1 => zXe ["java/lang/IndexOutOfBoundsException"] (o_sliceAt σ p0 p1 p2 p3).1 E ∧ L = L1 ∧ f = f1 ∧ (o_sliceAt σ p0 p1 p2 p3).2.2 = σ) := by
  obtain ⟨ah, G, Rw, rs, wn, ad, ln, kd, ct, rfl, HR⟩ := hH
  obtain ⟨hE, hG, hRw, -⟩ := id HR
  refine z_ofW (cc := cX1_sliceAt) (maxL := 7) (ret := (some .int)) (by decide) rfl (Nat.le_of_ble_eq_true rfl) ?_
  intro p e s m args below meth c ls A hx hb hr hts hown hlocks hml htab hin hw hX hl
  have hl : lv_has ls 7 [(0, .ref (ah 0)), (1, .int p0), (2, .int p1), (3, .int p2), (4, .int p3)] := hl
  have hown : s.vm.findClass RX1 = some m.cls := hown
  refine lv_aload_n hx hb dX1_sliceAt_0 rfl (lv_at hl 0 rfl) ?_
  refine lv_iload_n hx hb dX1_sliceAt_1 rfl (lv_at hl 1 rfl) ?_
  refine z_callV (As := [.int p0]) (rest := []) ⟨hx, hb, hml, hown, hts⟩ hw hX (hE.1 0 (by decide)) rfl (c_X1_windowOf l hl0 g L f ah G Rw rs wn p0 hE hG hRw) (cwV 1 hts gX1_sliceAt_X1_windowOf rfl rfl rfl (by decide +kernel) ⟨(Nat.le_of_ble_eq_true rfl), (Nat.le_of_ble_eq_true rfl)⟩) rfl hl.1 rfl (Nat.le_of_ble_eq_true rfl) dX1_sliceAt_2 ⟨(Nat.le_of_ble_eq_true rfl), (Nat.le_of_ble_eq_true rfl)⟩ (fun E ce q9 L9 f9 H locs hp hw hce hcv hcl => ?_) (fun r9 L9 f9 H locs hp hw => ?_)
  · obtain ⟨ck_1, rfl, rfl, rfl⟩ := hp
    have gz : ¬ zis σ p0 = true := fun q => ck_1 ((zH_is HR).mpr q)
    have ho : (o_sliceAt σ p0 p1 p2 p3) = (1, 0, σ) := oz_sliceAt_bad (fun q => by first | exact gz q.1 | exact gp ⟨q.2.1, q.2.2.1⟩ | exact gs q.2.2.2)
    exact z_out htab hlocks hw hce hcv hcl (Nat.le_of_ble_eq_true rfl) (Nat.le_of_ble_eq_true rfl) ⟨⟨0, rfl, by rw [ho]; rfl⟩, rfl, rfl, by rw [ho]⟩
  obtain ⟨ck_1, rfl, rfl, rfl⟩ := hp
  refine W.eq (g2 := F0 m 5 ls [.ref (ah ((Int32.toNatClampNeg p0) + 3))]) rfl ?_
  have hc_2 : zc L f (ah ((Int32.toNatClampNeg p0) + 3)) (.inr (0, zwf (wn (Int32.toNatClampNeg p0)))) := hE.1 ((Int32.toNatClampNeg p0) + 3) (by have := vp_lt ck_1.1; omega)
  have gz0 : zis σ p0 = true := (zH_is HR).mp ck_1
  have gw0 := zI_win HR.I gz0
  obtain ⟨hk0, ho0, hr0, hc0, hp0, he0, hm0⟩ := zH_win HR gz0
  refine lv_astore (lv' := [(5, .ref (ah ((Int32.toNatClampNeg p0) + 3))), (0, .ref (ah 0)), (1, .int p0), (2, .int p1), (3, .int p2), (4, .int p3)]) hx hb dX1_sliceAt_5 hl (by decide) rfl (fun ls hl => ?_)
  refine lv_iload_n hx hb dX1_sliceAt_7 rfl (lv_at hl 3 rfl) ?_
  refine lv_iload_n hx hb dX1_sliceAt_8 rfl (lv_at hl 4 rfl) ?_
  refine lv_aload hx hb dX1_sliceAt_9 (lv_at hl 0 rfl) ?_
  refine zr_get (C := RX0) (T := TX0) (N := 8) (v := .int (zwe (wn (Int32.toNatClampNeg p0)))) hx hb hts hi_X1_sliceAt_X0 hown hw hc_2 rfl 6 (by decide) hf_X1_sliceAt_74 rfl dX1_sliceAt_11 ?_
  refine z_callS (As := [.int p1, .int p2, .int (zwe (wn (Int32.toNatClampNeg p0)))]) (rest := []) ⟨hx, hb, hml, hown, hts⟩ hw hX (c_X1_checkPart l hl0 g L f p1 p2 (zwe (wn (Int32.toNatClampNeg p0)))) (va_cwS 3 hts gX1_sliceAt_X1_checkPart rfl rfl rfl (by decide +kernel) ⟨(Nat.le_of_ble_eq_true rfl), (Nat.le_of_ble_eq_true rfl)⟩) rfl hl.1 rfl (Nat.le_of_ble_eq_true rfl) dX1_sliceAt_14 ⟨(Nat.le_of_ble_eq_true rfl), (Nat.le_of_ble_eq_true rfl)⟩ (fun E ce q9 L9 f9 H locs hp hw hce hcv hcl => ?_) (fun r9 L9 f9 H locs hp hw => ?_)
  · obtain ⟨rfl, rfl, rfl, ck_3⟩ := hp
    have gp : ¬ (zin p1 0 (zEN σ (Int32.toNatClampNeg p0)) = true ∧ zin p2 0 (zEN σ (Int32.toNatClampNeg p0) - p1) = true) := fun q => ck_3 (by rw [he0]; exact ⟨Int32.not_lt.mpr (zin_t.mp q.1).1, Int32.not_lt.mpr (zin_t.mp q.1).2, Int32.not_lt.mpr (zin_t.mp q.2).1, (zin_t.mp q.2).2⟩)
    have ho : (o_sliceAt σ p0 p1 p2 p3) = (1, 0, σ) := oz_sliceAt_bad (fun q => by first | exact gz q.1 | exact gp ⟨q.2.1, q.2.2.1⟩ | exact gs q.2.2.2)
    exact z_out htab hlocks hw hce hcv hcl (Nat.le_of_ble_eq_true rfl) (Nat.le_of_ble_eq_true rfl) ⟨⟨0, rfl, by rw [ho]; rfl⟩, rfl, rfl, by rw [ho]⟩
  obtain ⟨rfl, rfl, rfl, ck_3⟩ := hp
  refine W.eq (g2 := F0 m 17 ls []) rfl ?_
  have gp1 : zin p1 0 (zEN σ (Int32.toNatClampNeg p0)) = true := zin_t.mpr ⟨Int32.not_lt.mp ck_3.1, Int32.not_lt.mp (by rw [← he0]; exact ck_3.2.1)⟩
  have gp2 : zin p2 0 (zEN σ (Int32.toNatClampNeg p0) - p1) = true := zin_t.mpr ⟨Int32.not_lt.mp ck_3.2.2.1, by rw [← he0]; exact ck_3.2.2.2⟩
  refine lv_aload_n hx hb dX1_sliceAt_17 rfl (lv_at hl 1 rfl) ?_
  refine lv_iload hx hb dX1_sliceAt_18 (lv_at hl 5 rfl) ?_
  refine z_callV (As := [.int p3]) (rest := []) ⟨hx, hb, hml, hown, hts⟩ hw hX (hE.1 0 (by decide)) rfl (c_X1_slotOf l hl0 g L f ah G Rw rs wn p3 hE hG hRw) (cwV 1 hts gX1_sliceAt_X1_slotOf rfl rfl rfl (by decide +kernel) ⟨(Nat.le_of_ble_eq_true rfl), (Nat.le_of_ble_eq_true rfl)⟩) rfl hl.1 rfl (Nat.le_of_ble_eq_true rfl) dX1_sliceAt_20 ⟨(Nat.le_of_ble_eq_true rfl), (Nat.le_of_ble_eq_true rfl)⟩ (fun E ce q9 L9 f9 H locs hp hw hce hcv hcl => ?_) (fun r9 L9 f9 H locs hp hw => ?_)
  · obtain ⟨ck_4, rfl, rfl, rfl⟩ := hp
    have gs : ¬ zin p3 0 7 = true := fun q => ck_4 (zin7.mp q)
    have ho : (o_sliceAt σ p0 p1 p2 p3) = (1, 0, σ) := oz_sliceAt_bad (fun q => by first | exact gz q.1 | exact gp ⟨q.2.1, q.2.2.1⟩ | exact gs q.2.2.2)
    exact z_out htab hlocks hw hce hcv hcl (Nat.le_of_ble_eq_true rfl) (Nat.le_of_ble_eq_true rfl) ⟨⟨0, rfl, by rw [ho]; rfl⟩, rfl, rfl, by rw [ho]⟩
  obtain ⟨ck_4, rfl, rfl, rfl⟩ := hp
  refine W.eq (g2 := F0 m 23 ls [.ref (ah ((Int32.toNatClampNeg p3) + 3))]) rfl ?_
  have hc_5 : zc L f (ah ((Int32.toNatClampNeg p3) + 3)) (.inr (0, zwf (wn (Int32.toNatClampNeg p3)))) := hE.1 ((Int32.toNatClampNeg p3) + 3) (by have := vp_lt ck_4; omega)
  have gs3 : zin p3 0 7 = true := zin7.mpr ck_4
  refine lv_astore (lv' := [(6, .ref (ah ((Int32.toNatClampNeg p3) + 3))), (5, .ref (ah ((Int32.toNatClampNeg p0) + 3))), (0, .ref (ah 0)), (1, .int p0), (2, .int p1), (3, .int p2), (4, .int p3)]) hx hb dX1_sliceAt_23 hl (by decide) rfl (fun ls hl => ?_)
  refine lv_aload hx hb dX1_sliceAt_25 (lv_at hl 0 rfl) ?_
  refine lv_aload hx hb dX1_sliceAt_27 (lv_at hl 1 rfl) ?_
  refine lv_iload_n hx hb dX1_sliceAt_29 rfl (lv_at hl 4 rfl) ?_
  refine lv_iload_n hx hb dX1_sliceAt_30 rfl (lv_at hl 5 rfl) ?_
  refine z_callV (As := [.ref (ah ((Int32.toNatClampNeg p0) + 3)), .int p1, .int p2]) (rest := []) ⟨hx, hb, hml, hown, hts⟩ hw hX hc_5 rfl (c_X0_becomeSlice l g L f (ah ((Int32.toNatClampNeg p3) + 3)) (wn (Int32.toNatClampNeg p3)) (ah ((Int32.toNatClampNeg p0) + 3)) (wn (Int32.toNatClampNeg p0)) p1 p2 hc_5 hc_2 (zH_kb HR gz0).2.1 (zH_kb HR gz0).2.2.1) (cwV 3 hts gX1_sliceAt_X0_becomeSlice rfl rfl rfl (by decide +kernel) ⟨(Nat.le_of_ble_eq_true rfl), (Nat.le_of_ble_eq_true rfl)⟩) rfl hl.1 rfl (Nat.le_of_ble_eq_true rfl) dX1_sliceAt_31 ⟨(Nat.le_of_ble_eq_true rfl), (Nat.le_of_ble_eq_true rfl)⟩ (fun _ _ _ _ _ _ _ hp => False.elim hp) (fun r9 L9 f9 H locs hp hw => ?_)
  obtain ⟨rfl, rfl, hu9⟩ := hp
  refine W.eq (g2 := F0 m 34 ls []) rfl ?_
  have hu := hu9
  obtain ⟨f_6, rfl⟩ : ∃ z, z = f9 := ⟨_, rfl⟩
  refine lv_aload hx hb dX1_sliceAt_34 (lv_at hl 0 rfl) ?_
  refine zr_get (C := RX0) (T := TX0) (N := 8) (v := .int p2) hx hb hts hi_X1_sliceAt_X0 hown hw (zu_c (hc_5).1 hu) rfl 4 (by decide) hf_X1_sliceAt_56 rfl dX1_sliceAt_36 ?_
  obtain ⟨s9, p9, e9, hs9, hp9, he9, hpe9, hes9, hs64, hmk9⟩ := zW_nat gw0
  obtain ⟨a9, ha9, hpa9⟩ := zin_n (n := e9) (by omega) (by rw [← he9]; exact gp1)
  obtain ⟨b9, hb9, hpb9⟩ := zin_n (n := e9 - a9) (by omega) (by rw [← pk_sub ha9, ← he9, ← hpa9]; exact gp2)
  have HR2 := zHR_f hu (zHR_slice HR gz0 (vp_lt (zin7.mp gs3)) (x := p1) (n := p2) hpa9 hpb9 (by rw [he9, nI_leI (by omega) (by omega)]; omega) (by omega) (x1 := ((zwk (wn (Int32.toNatClampNeg p0))), (zwo (wn (Int32.toNatClampNeg p0))), (zws (wn (Int32.toNatClampNeg p0))), ((zwr (wn (Int32.toNatClampNeg p0))) + p1), p2, 0, p2, (-1))) rfl)
  have hfr : ∀ b, P b → f_6 b = f b := by rw [← hu]; exact zfr_win HR (by have := vp_lt (zin7.mp gs3); omega)
  have ho : (o_sliceAt σ p0 p1 p2 p3) = (0, p2, (zBecomes σ (Int32.toNatClampNeg p3) (zK σ (Int32.toNatClampNeg p0)) (zSI σ (Int32.toNatClampNeg p0)) (zFR σ (Int32.toNatClampNeg p0) + p1) p2 (zRD σ (Int32.toNatClampNeg p0)))) := by unfold o_sliceAt; exact (if_pos (show (zis σ p0 = true) from by assumption)).trans ((if_pos (show (zin p1 0 (zEN σ (Int32.toNatClampNeg p0)) = true) from by assumption)).trans ((if_pos (show (zin p2 0 (zEN σ (Int32.toNatClampNeg p0) - p1) = true) from by assumption)).trans (if_pos (show (zin p3 0 7 = true) from by assumption))))
  exact z_iret hx hb hr hlocks hw (Nat.le_of_ble_eq_true rfl) (Nat.le_of_ble_eq_true rfl) dX1_sliceAt_39 ⟨by rw [ho], congrArg (fun z => some (Value.int z)) ((congrArg (fun q => q.2.1) ho).trans (show (p2 : Int32) = p2 from rfl)), by rw [ho]; exact ⟨_, _, _, _, _, _, _, _, _, rfl, HR2⟩, hfr⟩

set_option maxRecDepth 100000 in
set_option maxHeartbeats 4000000 in
theorem c_X1_duplicate (l : Launch) (hl0 : l.stackTraces = false) (g : zG) (L : List Nat) (f : Nat → va_E) (h : Nat) (P : Nat → Prop) (σ : ZS) (p0 : Int32) (p1 : Int32) (hH : zHC g h P σ L f) : zC l yX1_duplicate wsX1_duplicate { frames := 9, cells := 3, slots := 18, locals := 146 } 3 18 g [.ref h, .int p0, .int p1] L f (fun r L1 f1 => (o_duplicate σ p0 p1).1 = 0 ∧ some (.int (o_duplicate σ p0 p1).2.1) = r ∧ zHC g h P (o_duplicate σ p0 p1).2.2 L1 f1 ∧ ∀ b, P b → f1 b = f b) (fun E L1 f1 => zXe ["java/lang/IndexOutOfBoundsException"] (o_duplicate σ p0 p1).1 E ∧ L = L1 ∧ f = f1 ∧ (o_duplicate σ p0 p1).2.2 = σ) := by
  obtain ⟨ah, G, Rw, rs, wn, ad, ln, kd, ct, rfl, HR⟩ := hH
  obtain ⟨hE, hG, hRw, -⟩ := id HR
  refine z_ofW (cc := cX1_duplicate) (maxL := 5) (ret := (some .int)) (by decide) rfl (Nat.le_of_ble_eq_true rfl) ?_
  intro p e s m args below meth c ls A hx hb hr hts hown hlocks hml htab hin hw hX hl
  have hl : lv_has ls 5 [(0, .ref (ah 0)), (1, .int p0), (2, .int p1)] := hl
  have hown : s.vm.findClass RX1 = some m.cls := hown
  refine lv_aload_n hx hb dX1_duplicate_0 rfl (lv_at hl 0 rfl) ?_
  refine lv_iload_n hx hb dX1_duplicate_1 rfl (lv_at hl 1 rfl) ?_
  refine z_callV (As := [.int p0]) (rest := []) ⟨hx, hb, hml, hown, hts⟩ hw hX (hE.1 0 (by decide)) rfl (c_X1_windowOf l hl0 g L f ah G Rw rs wn p0 hE hG hRw) (cwV 1 hts gX1_duplicate_X1_windowOf rfl rfl rfl (by decide +kernel) ⟨(Nat.le_of_ble_eq_true rfl), (Nat.le_of_ble_eq_true rfl)⟩) rfl hl.1 rfl (Nat.le_of_ble_eq_true rfl) dX1_duplicate_2 ⟨(Nat.le_of_ble_eq_true rfl), (Nat.le_of_ble_eq_true rfl)⟩ (fun E ce q9 L9 f9 H locs hp hw hce hcv hcl => ?_) (fun r9 L9 f9 H locs hp hw => ?_)
  · obtain ⟨ck_1, rfl, rfl, rfl⟩ := hp
    have gz : ¬ zis σ p0 = true := fun q => ck_1 ((zH_is HR).mpr q)
    have ho : (o_duplicate σ p0 p1) = (1, 0, σ) := by unfold o_duplicate o_twin; first | exact if_neg (show ¬ (zis σ p0 = true) from by assumption) | exact (if_pos (show zis σ p0 = true from by assumption)).trans (if_neg (show ¬ (zin p1 0 7 = true) from by assumption))
    exact z_out htab hlocks hw hce hcv hcl (Nat.le_of_ble_eq_true rfl) (Nat.le_of_ble_eq_true rfl) ⟨⟨0, rfl, by rw [ho]; rfl⟩, rfl, rfl, by rw [ho]⟩
  obtain ⟨ck_1, rfl, rfl, rfl⟩ := hp
  refine W.eq (g2 := F0 m 5 ls [.ref (ah ((Int32.toNatClampNeg p0) + 3))]) rfl ?_
  have hc_2 : zc L f (ah ((Int32.toNatClampNeg p0) + 3)) (.inr (0, zwf (wn (Int32.toNatClampNeg p0)))) := hE.1 ((Int32.toNatClampNeg p0) + 3) (by have := vp_lt ck_1.1; omega)
  have gz0 : zis σ p0 = true := (zH_is HR).mp ck_1
  have gw0 := zI_win HR.I gz0
  obtain ⟨hk0, ho0, hr0, hc0, hp0, he0, hm0⟩ := zH_win HR gz0
  refine lv_astore_n (lv' := [(3, .ref (ah ((Int32.toNatClampNeg p0) + 3))), (0, .ref (ah 0)), (1, .int p0), (2, .int p1)]) hx hb dX1_duplicate_5 rfl hl (by decide) rfl (fun ls hl => ?_)
  refine lv_aload_n hx hb dX1_duplicate_6 rfl (lv_at hl 1 rfl) ?_
  refine lv_iload_n hx hb dX1_duplicate_7 rfl (lv_at hl 3 rfl) ?_
  refine z_callV (As := [.int p1]) (rest := []) ⟨hx, hb, hml, hown, hts⟩ hw hX (hE.1 0 (by decide)) rfl (c_X1_slotOf l hl0 g L f ah G Rw rs wn p1 hE hG hRw) (cwV 1 hts gX1_duplicate_X1_slotOf rfl rfl rfl (by decide +kernel) ⟨(Nat.le_of_ble_eq_true rfl), (Nat.le_of_ble_eq_true rfl)⟩) rfl hl.1 rfl (Nat.le_of_ble_eq_true rfl) dX1_duplicate_8 ⟨(Nat.le_of_ble_eq_true rfl), (Nat.le_of_ble_eq_true rfl)⟩ (fun E ce q9 L9 f9 H locs hp hw hce hcv hcl => ?_) (fun r9 L9 f9 H locs hp hw => ?_)
  · obtain ⟨ck_3, rfl, rfl, rfl⟩ := hp
    have gs : ¬ zin p1 0 7 = true := fun q => ck_3 (zin7.mp q)
    have ho : (o_duplicate σ p0 p1) = (1, 0, σ) := by unfold o_duplicate o_twin; first | exact if_neg (show ¬ (zis σ p0 = true) from by assumption) | exact (if_pos (show zis σ p0 = true from by assumption)).trans (if_neg (show ¬ (zin p1 0 7 = true) from by assumption))
    exact z_out htab hlocks hw hce hcv hcl (Nat.le_of_ble_eq_true rfl) (Nat.le_of_ble_eq_true rfl) ⟨⟨0, rfl, by rw [ho]; rfl⟩, rfl, rfl, by rw [ho]⟩
  obtain ⟨ck_3, rfl, rfl, rfl⟩ := hp
  refine W.eq (g2 := F0 m 11 ls [.ref (ah ((Int32.toNatClampNeg p1) + 3))]) rfl ?_
  have hc_4 : zc L f (ah ((Int32.toNatClampNeg p1) + 3)) (.inr (0, zwf (wn (Int32.toNatClampNeg p1)))) := hE.1 ((Int32.toNatClampNeg p1) + 3) (by have := vp_lt ck_3; omega)
  have gs1 : zin p1 0 7 = true := zin7.mpr ck_3
  refine lv_astore (lv' := [(4, .ref (ah ((Int32.toNatClampNeg p1) + 3))), (3, .ref (ah ((Int32.toNatClampNeg p0) + 3))), (0, .ref (ah 0)), (1, .int p0), (2, .int p1)]) hx hb dX1_duplicate_11 hl (by decide) rfl (fun ls hl => ?_)
  refine lv_aload hx hb dX1_duplicate_13 (lv_at hl 0 rfl) ?_
  refine lv_aload_n hx hb dX1_duplicate_15 rfl (lv_at hl 1 rfl) ?_
  refine z_callV (As := [.ref (ah ((Int32.toNatClampNeg p0) + 3))]) (rest := []) ⟨hx, hb, hml, hown, hts⟩ hw hX hc_4 rfl (c_X0_becomeDuplicate l g L f (ah ((Int32.toNatClampNeg p1) + 3)) (wn (Int32.toNatClampNeg p1)) (ah ((Int32.toNatClampNeg p0) + 3)) (wn (Int32.toNatClampNeg p0)) hc_4 hc_2 (zH_kb HR gz0).2.1 (zH_kb HR gz0).2.2.1) (cwV 1 hts gX1_duplicate_X0_becomeDuplicate rfl rfl rfl (by decide +kernel) ⟨(Nat.le_of_ble_eq_true rfl), (Nat.le_of_ble_eq_true rfl)⟩) rfl hl.1 rfl (Nat.le_of_ble_eq_true rfl) dX1_duplicate_16 ⟨(Nat.le_of_ble_eq_true rfl), (Nat.le_of_ble_eq_true rfl)⟩ (fun _ _ _ _ _ _ _ hp => False.elim hp) (fun r9 L9 f9 H locs hp hw => ?_)
  obtain ⟨rfl, rfl, hu9⟩ := hp
  refine W.eq (g2 := F0 m 19 ls []) rfl ?_
  have hu := hu9
  obtain ⟨f_5, rfl⟩ : ∃ z, z = f9 := ⟨_, rfl⟩
  refine lv_aload hx hb dX1_duplicate_19 (lv_at hl 0 rfl) ?_
  refine z_callV (As := []) (rest := []) ⟨hx, hb, hml, hown, hts⟩ hw hX (zu_c (hc_4).1 hu) rfl (c_X0_rest l g L f_5 (ah ((Int32.toNatClampNeg p1) + 3)) ((zwk (wn (Int32.toNatClampNeg p0))), (zwo (wn (Int32.toNatClampNeg p0))), (zws (wn (Int32.toNatClampNeg p0))), (zwr (wn (Int32.toNatClampNeg p0))), (zwc (wn (Int32.toNatClampNeg p0))), (zwp (wn (Int32.toNatClampNeg p0))), (zwe (wn (Int32.toNatClampNeg p0))), (zwm (wn (Int32.toNatClampNeg p0)))) (zu_c (hc_4).1 hu)) (cwV 0 hts gX1_duplicate_X0_rest rfl rfl rfl (by decide +kernel) ⟨(Nat.le_of_ble_eq_true rfl), (Nat.le_of_ble_eq_true rfl)⟩) rfl hl.1 rfl (Nat.le_of_ble_eq_true rfl) dX1_duplicate_21 ⟨(Nat.le_of_ble_eq_true rfl), (Nat.le_of_ble_eq_true rfl)⟩ (fun _ _ _ _ _ _ _ hp => False.elim hp) (fun r9 L9 f9 H locs hp hw => ?_)
  obtain ⟨rfl, rfl, rfl⟩ := hp
  refine W.eq (g2 := F0 m 24 ls [.int ((zwe (wn (Int32.toNatClampNeg p0))) - (zwp (wn (Int32.toNatClampNeg p0))))]) rfl ?_
  have HR2 := zHR_f hu (zHR_twin HR gz0 gs1 (rd := zRD σ (Int32.toNatClampNeg p0)) (zWin_rd gw0) (x1 := ((zwk (wn (Int32.toNatClampNeg p0))), (zwo (wn (Int32.toNatClampNeg p0))), (zws (wn (Int32.toNatClampNeg p0))), (zwr (wn (Int32.toNatClampNeg p0))), (zwc (wn (Int32.toNatClampNeg p0))), (zwp (wn (Int32.toNatClampNeg p0))), (zwe (wn (Int32.toNatClampNeg p0))), (zwm (wn (Int32.toNatClampNeg p0))))) (by simp only [ho0]))
  have hfr : ∀ b, P b → f_5 b = f b := by rw [← hu]; exact zfr_win HR (by have := vp_lt (zin7.mp gs1); omega)
  have ho : (o_duplicate σ p0 p1) = (0, zEN σ (Int32.toNatClampNeg p0) - zPL σ (Int32.toNatClampNeg p0), _) := oz_duplicate gz0 gs1 (zWin_rd gw0)
  exact z_iret hx hb hr hlocks hw (Nat.le_of_ble_eq_true rfl) (Nat.le_of_ble_eq_true rfl) dX1_duplicate_24 ⟨by rw [ho], congrArg (fun z => some (Value.int z)) ((congrArg (fun q => q.2.1) ho).trans (show (zEN σ (Int32.toNatClampNeg p0) - zPL σ (Int32.toNatClampNeg p0) : Int32) = ((zwe (wn (Int32.toNatClampNeg p0))) - (zwp (wn (Int32.toNatClampNeg p0)))) from (by first | rfl | simp only [hk0, ho0, hr0, hc0, hp0, he0, hm0]))), by rw [ho]; exact ⟨_, _, _, _, _, _, _, _, _, rfl, HR2⟩, hfr⟩

theorem hi_X1_readOnly_X0 : ∀ w ∈ wsX00, w ∈ wsX1_readOnly := by decide +kernel
theorem hf_X1_readOnly_85 : Cond.fieldLink RX1 85 (TX0 1).1 (TX0 1).2.1 (TX0 1).2.2.1 ∈ wsX1_readOnly := by decide +kernel
set_option maxRecDepth 100000 in
set_option maxHeartbeats 4000000 in
theorem c_X1_readOnly (l : Launch) (hl0 : l.stackTraces = false) (g : zG) (L : List Nat) (f : Nat → va_E) (h : Nat) (P : Nat → Prop) (σ : ZS) (p0 : Int32) (p1 : Int32) (hH : zHC g h P σ L f) : zC l yX1_readOnly wsX1_readOnly { frames := 9, cells := 3, slots := 18, locals := 146 } 3 18 g [.ref h, .int p0, .int p1] L f (fun r L1 f1 => (o_readOnly σ p0 p1).1 = 0 ∧ some (.int (o_readOnly σ p0 p1).2.1) = r ∧ zHC g h P (o_readOnly σ p0 p1).2.2 L1 f1 ∧ ∀ b, P b → f1 b = f b) (fun E L1 f1 => zXe ["java/lang/IndexOutOfBoundsException"] (o_readOnly σ p0 p1).1 E ∧ L = L1 ∧ f = f1 ∧ (o_readOnly σ p0 p1).2.2 = σ) := by
  obtain ⟨ah, G, Rw, rs, wn, ad, ln, kd, ct, rfl, HR⟩ := hH
  obtain ⟨hE, hG, hRw, -⟩ := id HR
  refine z_ofW (cc := cX1_readOnly) (maxL := 5) (ret := (some .int)) (by decide) rfl (Nat.le_of_ble_eq_true rfl) ?_
  intro p e s m args below meth c ls A hx hb hr hts hown hlocks hml htab hin hw hX hl
  have hl : lv_has ls 5 [(0, .ref (ah 0)), (1, .int p0), (2, .int p1)] := hl
  have hown : s.vm.findClass RX1 = some m.cls := hown
  refine lv_aload_n hx hb dX1_readOnly_0 rfl (lv_at hl 0 rfl) ?_
  refine lv_iload_n hx hb dX1_readOnly_1 rfl (lv_at hl 1 rfl) ?_
  refine z_callV (As := [.int p0]) (rest := []) ⟨hx, hb, hml, hown, hts⟩ hw hX (hE.1 0 (by decide)) rfl (c_X1_windowOf l hl0 g L f ah G Rw rs wn p0 hE hG hRw) (cwV 1 hts gX1_readOnly_X1_windowOf rfl rfl rfl (by decide +kernel) ⟨(Nat.le_of_ble_eq_true rfl), (Nat.le_of_ble_eq_true rfl)⟩) rfl hl.1 rfl (Nat.le_of_ble_eq_true rfl) dX1_readOnly_2 ⟨(Nat.le_of_ble_eq_true rfl), (Nat.le_of_ble_eq_true rfl)⟩ (fun E ce q9 L9 f9 H locs hp hw hce hcv hcl => ?_) (fun r9 L9 f9 H locs hp hw => ?_)
  · obtain ⟨ck_1, rfl, rfl, rfl⟩ := hp
    have gz : ¬ zis σ p0 = true := fun q => ck_1 ((zH_is HR).mpr q)
    have ho : (o_readOnly σ p0 p1) = (1, 0, σ) := by unfold o_readOnly o_twin; first | exact if_neg (show ¬ (zis σ p0 = true) from by assumption) | exact (if_pos (show zis σ p0 = true from by assumption)).trans (if_neg (show ¬ (zin p1 0 7 = true) from by assumption))
    exact z_out htab hlocks hw hce hcv hcl (Nat.le_of_ble_eq_true rfl) (Nat.le_of_ble_eq_true rfl) ⟨⟨0, rfl, by rw [ho]; rfl⟩, rfl, rfl, by rw [ho]⟩
  obtain ⟨ck_1, rfl, rfl, rfl⟩ := hp
  refine W.eq (g2 := F0 m 5 ls [.ref (ah ((Int32.toNatClampNeg p0) + 3))]) rfl ?_
  have hc_2 : zc L f (ah ((Int32.toNatClampNeg p0) + 3)) (.inr (0, zwf (wn (Int32.toNatClampNeg p0)))) := hE.1 ((Int32.toNatClampNeg p0) + 3) (by have := vp_lt ck_1.1; omega)
  have gz0 : zis σ p0 = true := (zH_is HR).mp ck_1
  have gw0 := zI_win HR.I gz0
  obtain ⟨hk0, ho0, hr0, hc0, hp0, he0, hm0⟩ := zH_win HR gz0
  refine lv_astore_n (lv' := [(3, .ref (ah ((Int32.toNatClampNeg p0) + 3))), (0, .ref (ah 0)), (1, .int p0), (2, .int p1)]) hx hb dX1_readOnly_5 rfl hl (by decide) rfl (fun ls hl => ?_)
  refine lv_aload_n hx hb dX1_readOnly_6 rfl (lv_at hl 1 rfl) ?_
  refine lv_iload_n hx hb dX1_readOnly_7 rfl (lv_at hl 3 rfl) ?_
  refine z_callV (As := [.int p1]) (rest := []) ⟨hx, hb, hml, hown, hts⟩ hw hX (hE.1 0 (by decide)) rfl (c_X1_slotOf l hl0 g L f ah G Rw rs wn p1 hE hG hRw) (cwV 1 hts gX1_readOnly_X1_slotOf rfl rfl rfl (by decide +kernel) ⟨(Nat.le_of_ble_eq_true rfl), (Nat.le_of_ble_eq_true rfl)⟩) rfl hl.1 rfl (Nat.le_of_ble_eq_true rfl) dX1_readOnly_8 ⟨(Nat.le_of_ble_eq_true rfl), (Nat.le_of_ble_eq_true rfl)⟩ (fun E ce q9 L9 f9 H locs hp hw hce hcv hcl => ?_) (fun r9 L9 f9 H locs hp hw => ?_)
  · obtain ⟨ck_3, rfl, rfl, rfl⟩ := hp
    have gs : ¬ zin p1 0 7 = true := fun q => ck_3 (zin7.mp q)
    have ho : (o_readOnly σ p0 p1) = (1, 0, σ) := by unfold o_readOnly o_twin; first | exact if_neg (show ¬ (zis σ p0 = true) from by assumption) | exact (if_pos (show zis σ p0 = true from by assumption)).trans (if_neg (show ¬ (zin p1 0 7 = true) from by assumption))
    exact z_out htab hlocks hw hce hcv hcl (Nat.le_of_ble_eq_true rfl) (Nat.le_of_ble_eq_true rfl) ⟨⟨0, rfl, by rw [ho]; rfl⟩, rfl, rfl, by rw [ho]⟩
  obtain ⟨ck_3, rfl, rfl, rfl⟩ := hp
  refine W.eq (g2 := F0 m 11 ls [.ref (ah ((Int32.toNatClampNeg p1) + 3))]) rfl ?_
  have hc_4 : zc L f (ah ((Int32.toNatClampNeg p1) + 3)) (.inr (0, zwf (wn (Int32.toNatClampNeg p1)))) := hE.1 ((Int32.toNatClampNeg p1) + 3) (by have := vp_lt ck_3; omega)
  have gs1 : zin p1 0 7 = true := zin7.mpr ck_3
  refine lv_astore (lv' := [(4, .ref (ah ((Int32.toNatClampNeg p1) + 3))), (3, .ref (ah ((Int32.toNatClampNeg p0) + 3))), (0, .ref (ah 0)), (1, .int p0), (2, .int p1)]) hx hb dX1_readOnly_11 hl (by decide) rfl (fun ls hl => ?_)
  refine lv_aload hx hb dX1_readOnly_13 (lv_at hl 0 rfl) ?_
  refine lv_aload_n hx hb dX1_readOnly_15 rfl (lv_at hl 1 rfl) ?_
  refine z_callV (As := [.ref (ah ((Int32.toNatClampNeg p0) + 3))]) (rest := []) ⟨hx, hb, hml, hown, hts⟩ hw hX hc_4 rfl (c_X0_becomeDuplicate l g L f (ah ((Int32.toNatClampNeg p1) + 3)) (wn (Int32.toNatClampNeg p1)) (ah ((Int32.toNatClampNeg p0) + 3)) (wn (Int32.toNatClampNeg p0)) hc_4 hc_2 (zH_kb HR gz0).2.1 (zH_kb HR gz0).2.2.1) (cwV 1 hts gX1_readOnly_X0_becomeDuplicate rfl rfl rfl (by decide +kernel) ⟨(Nat.le_of_ble_eq_true rfl), (Nat.le_of_ble_eq_true rfl)⟩) rfl hl.1 rfl (Nat.le_of_ble_eq_true rfl) dX1_readOnly_16 ⟨(Nat.le_of_ble_eq_true rfl), (Nat.le_of_ble_eq_true rfl)⟩ (fun _ _ _ _ _ _ _ hp => False.elim hp) (fun r9 L9 f9 H locs hp hw => ?_)
  obtain ⟨rfl, rfl, hu9⟩ := hp
  refine W.eq (g2 := F0 m 19 ls []) rfl ?_
  have hu := hu9
  obtain ⟨f_5, rfl⟩ : ∃ z, z = f9 := ⟨_, rfl⟩
  refine lv_aload hx hb dX1_readOnly_19 (lv_at hl 0 rfl) ?_
  refine lv_iconst (v := 1) hx hb dX1_readOnly_21 (by decide) ?_
  refine zw_put (X1 := ((zwk (wn (Int32.toNatClampNeg p0))), 1, (zws (wn (Int32.toNatClampNeg p0))), (zwr (wn (Int32.toNatClampNeg p0))), (zwc (wn (Int32.toNatClampNeg p0))), (zwp (wn (Int32.toNatClampNeg p0))), (zwe (wn (Int32.toNatClampNeg p0))), (zwm (wn (Int32.toNatClampNeg p0))))) (ty := .boolean) hx hb hts hi_X1_readOnly_X0 hown hw (hc_4).1 hu 1 (by decide) hf_X1_readOnly_85 rfl rfl rfl rfl rfl dX1_readOnly_22 (fun f_6 H locs hu hw => ?_)
  refine lv_aload hx hb dX1_readOnly_25 (lv_at hl 0 rfl) ?_
  refine z_callV (As := []) (rest := []) ⟨hx, hb, hml, hown, hts⟩ hw hX (zu_c (hc_4).1 hu) rfl (c_X0_rest l g L f_6 (ah ((Int32.toNatClampNeg p1) + 3)) ((zwk (wn (Int32.toNatClampNeg p0))), 1, (zws (wn (Int32.toNatClampNeg p0))), (zwr (wn (Int32.toNatClampNeg p0))), (zwc (wn (Int32.toNatClampNeg p0))), (zwp (wn (Int32.toNatClampNeg p0))), (zwe (wn (Int32.toNatClampNeg p0))), (zwm (wn (Int32.toNatClampNeg p0)))) (zu_c (hc_4).1 hu)) (cwV 0 hts gX1_readOnly_X0_rest rfl rfl rfl (by decide +kernel) ⟨(Nat.le_of_ble_eq_true rfl), (Nat.le_of_ble_eq_true rfl)⟩) rfl hl.1 rfl (Nat.le_of_ble_eq_true rfl) dX1_readOnly_27 ⟨(Nat.le_of_ble_eq_true rfl), (Nat.le_of_ble_eq_true rfl)⟩ (fun _ _ _ _ _ _ _ hp => False.elim hp) (fun r9 L9 f9 H locs hp hw => ?_)
  obtain ⟨rfl, rfl, rfl⟩ := hp
  refine W.eq (g2 := F0 m 30 ls [.int ((zwe (wn (Int32.toNatClampNeg p0))) - (zwp (wn (Int32.toNatClampNeg p0))))]) rfl ?_
  have HR2 := zHR_f hu (zHR_twin HR gz0 gs1 (rd := 1) (Or.inr rfl) (x1 := ((zwk (wn (Int32.toNatClampNeg p0))), 1, (zws (wn (Int32.toNatClampNeg p0))), (zwr (wn (Int32.toNatClampNeg p0))), (zwc (wn (Int32.toNatClampNeg p0))), (zwp (wn (Int32.toNatClampNeg p0))), (zwe (wn (Int32.toNatClampNeg p0))), (zwm (wn (Int32.toNatClampNeg p0))))) rfl)
  have hfr : ∀ b, P b → f_6 b = f b := by rw [← hu]; exact zfr_win HR (by have := vp_lt (zin7.mp gs1); omega)
  have ho : (o_readOnly σ p0 p1) = (0, zEN σ (Int32.toNatClampNeg p0) - zPL σ (Int32.toNatClampNeg p0), _) := oz_readOnly gz0 gs1
  exact z_iret hx hb hr hlocks hw (Nat.le_of_ble_eq_true rfl) (Nat.le_of_ble_eq_true rfl) dX1_readOnly_30 ⟨by rw [ho], congrArg (fun z => some (Value.int z)) ((congrArg (fun q => q.2.1) ho).trans (show (zEN σ (Int32.toNatClampNeg p0) - zPL σ (Int32.toNatClampNeg p0) : Int32) = ((zwe (wn (Int32.toNatClampNeg p0))) - (zwp (wn (Int32.toNatClampNeg p0)))) from (by first | rfl | simp only [hk0, ho0, hr0, hc0, hp0, he0, hm0]))), by rw [ho]; exact ⟨_, _, _, _, _, _, _, _, _, rfl, HR2⟩, hfr⟩

theorem hi_X1_wrap_X0 : ∀ w ∈ wsX00, w ∈ wsX1_wrap := by decide +kernel
theorem hf_X1_wrap_56 : Cond.fieldLink RX1 56 (TX0 4).1 (TX0 4).2.1 (TX0 4).2.2.1 ∈ wsX1_wrap := by decide +kernel
set_option maxRecDepth 100000 in
set_option maxHeartbeats 4000000 in
theorem c_X1_wrap (l : Launch) (hl0 : l.stackTraces = false) (g : zG) (L : List Nat) (f : Nat → va_E) (h : Nat) (P : Nat → Prop) (σ : ZS) (p0 : Int32) (p1 : Int32) (hH : zHC g h P σ L f) : zC l yX1_wrap wsX1_wrap { frames := 8, cells := 2, slots := 12, locals := 124 } 2 12 g [.ref h, .int p0, .int p1] L f (fun r L1 f1 => (o_wrap σ p0 p1).1 = 0 ∧ some (.int (o_wrap σ p0 p1).2.1) = r ∧ zHC g h P (o_wrap σ p0 p1).2.2 L1 f1 ∧ ∀ b, P b → f1 b = f b) (fun E L1 f1 => zXe ["java/lang/IndexOutOfBoundsException"] (o_wrap σ p0 p1).1 E ∧ L = L1 ∧ f = f1 ∧ (o_wrap σ p0 p1).2.2 = σ) := by
  obtain ⟨ah, G, Rw, rs, wn, ad, ln, kd, ct, rfl, HR⟩ := hH
  obtain ⟨hE, hG, hRw, -⟩ := id HR
  refine z_ofW (cc := cX1_wrap) (maxL := 5) (ret := (some .int)) (by decide) rfl (Nat.le_of_ble_eq_true rfl) ?_
  intro p e s m args below meth c ls A hx hb hr hts hown hlocks hml htab hin hw hX hl
  have hl : lv_has ls 5 [(0, .ref (ah 0)), (1, .int p0), (2, .int p1)] := hl
  have hown : s.vm.findClass RX1 = some m.cls := hown
  refine lv_aload_n hx hb dX1_wrap_0 rfl (lv_at hl 0 rfl) ?_
  refine lv_iload_n hx hb dX1_wrap_1 rfl (lv_at hl 1 rfl) ?_
  refine z_callV (As := [.int p0]) (rest := []) ⟨hx, hb, hml, hown, hts⟩ hw hX (hE.1 0 (by decide)) rfl (c_X1_slotOf l hl0 g L f ah G Rw rs wn p0 hE hG hRw) (cwV 1 hts gX1_wrap_X1_slotOf rfl rfl rfl (by decide +kernel) ⟨(Nat.le_of_ble_eq_true rfl), (Nat.le_of_ble_eq_true rfl)⟩) rfl hl.1 rfl (Nat.le_of_ble_eq_true rfl) dX1_wrap_2 ⟨(Nat.le_of_ble_eq_true rfl), (Nat.le_of_ble_eq_true rfl)⟩ (fun E ce q9 L9 f9 H locs hp hw hce hcv hcl => ?_) (fun r9 L9 f9 H locs hp hw => ?_)
  · obtain ⟨ck_1, rfl, rfl, rfl⟩ := hp
    have gs : ¬ zin p0 0 7 = true := fun q => ck_1 (zin7.mp q)
    have ho : (o_wrap σ p0 p1) = (1, 0, σ) := by unfold o_wrap; first | exact (if_pos (show (zin p0 0 7 = true) from by assumption)).trans (if_neg (show ¬ (zin p1 0 1 = true) from by assumption)) | exact if_neg (show ¬ (zin p0 0 7 = true) from by assumption)
    exact z_out htab hlocks hw hce hcv hcl (Nat.le_of_ble_eq_true rfl) (Nat.le_of_ble_eq_true rfl) ⟨⟨0, rfl, by rw [ho]; rfl⟩, rfl, rfl, by rw [ho]⟩
  obtain ⟨ck_1, rfl, rfl, rfl⟩ := hp
  refine W.eq (g2 := F0 m 5 ls [.ref (ah ((Int32.toNatClampNeg p0) + 3))]) rfl ?_
  have hc_2 : zc L f (ah ((Int32.toNatClampNeg p0) + 3)) (.inr (0, zwf (wn (Int32.toNatClampNeg p0)))) := hE.1 ((Int32.toNatClampNeg p0) + 3) (by have := vp_lt ck_1; omega)
  have gs0 : zin p0 0 7 = true := zin7.mpr ck_1
  refine lv_astore_n (lv' := [(3, .ref (ah ((Int32.toNatClampNeg p0) + 3))), (0, .ref (ah 0)), (1, .int p0), (2, .int p1)]) hx hb dX1_wrap_5 rfl hl (by decide) rfl (fun ls hl => ?_)
  refine lv_aload_n hx hb dX1_wrap_6 rfl (lv_at hl 1 rfl) ?_
  refine lv_iload_n hx hb dX1_wrap_7 rfl (lv_at hl 3 rfl) ?_
  refine z_callV (As := [.int p1]) (rest := []) ⟨hx, hb, hml, hown, hts⟩ hw hX (hE.1 0 (by decide)) rfl (c_X1_rowOf l hl0 g L f ah G Rw rs wn p1 hE hG hRw) (cwV 1 hts gX1_wrap_X1_rowOf rfl rfl rfl (by decide +kernel) ⟨(Nat.le_of_ble_eq_true rfl), (Nat.le_of_ble_eq_true rfl)⟩) rfl hl.1 rfl (Nat.le_of_ble_eq_true rfl) dX1_wrap_8 ⟨(Nat.le_of_ble_eq_true rfl), (Nat.le_of_ble_eq_true rfl)⟩ (fun E ce q9 L9 f9 H locs hp hw hce hcv hcl => ?_) (fun r9 L9 f9 H locs hp hw => ?_)
  · obtain ⟨ck_3, rfl, rfl, rfl⟩ := hp
    have gq : ¬ zin p1 0 1 = true := fun q => ck_3 (zin1.mp q)
    have ho : (o_wrap σ p0 p1) = (1, 0, σ) := by unfold o_wrap; first | exact (if_pos (show (zin p0 0 7 = true) from by assumption)).trans (if_neg (show ¬ (zin p1 0 1 = true) from by assumption)) | exact if_neg (show ¬ (zin p0 0 7 = true) from by assumption)
    exact z_out htab hlocks hw hce hcv hcl (Nat.le_of_ble_eq_true rfl) (Nat.le_of_ble_eq_true rfl) ⟨⟨0, rfl, by rw [ho]; rfl⟩, rfl, rfl, by rw [ho]⟩
  obtain ⟨ck_3, rfl, rfl, rfl⟩ := hp
  refine W.eq (g2 := F0 m 11 ls [.ref (rs (Int32.toNatClampNeg p1))]) rfl ?_
  have gq : zin p1 0 1 = true := zin1.mpr ck_3
  obtain ⟨dr, hdr, hrs, hra, hlr, hstr, hctr, hkr, hrl, hr64⟩ := zH_row HR gq
  rw [← hra] at hstr
  refine lv_astore (lv' := [(4, .ref (rs (Int32.toNatClampNeg p1))), (3, .ref (ah ((Int32.toNatClampNeg p0) + 3))), (0, .ref (ah 0)), (1, .int p0), (2, .int p1)]) hx hb dX1_wrap_11 hl (by decide) rfl (fun ls hl => ?_)
  refine lv_aload_n hx hb dX1_wrap_13 rfl (lv_at hl 1 rfl) ?_
  refine lv_bipush (v := 105) hx hb dX1_wrap_14 (by decide) ?_
  refine lv_aload hx hb dX1_wrap_16 (lv_at hl 0 rfl) ?_
  refine z_callV (As := [.int 105, .ref (rs (Int32.toNatClampNeg p1))]) (rest := []) ⟨hx, hb, hml, hown, hts⟩ hw hX hc_2 rfl (c_X0_layOver l g L f (ah ((Int32.toNatClampNeg p0) + 3)) (wn (Int32.toNatClampNeg p0)) 105 (rs (Int32.toNatClampNeg p1)) hc_2 hstr ⟨rfl, rfl⟩) (cwV 2 hts gX1_wrap_X0_layOver rfl rfl rfl (by decide +kernel) ⟨(Nat.le_of_ble_eq_true rfl), (Nat.le_of_ble_eq_true rfl)⟩) rfl hl.1 rfl (Nat.le_of_ble_eq_true rfl) dX1_wrap_18 ⟨(Nat.le_of_ble_eq_true rfl), (Nat.le_of_ble_eq_true rfl)⟩ (fun _ _ _ _ _ _ _ hp => False.elim hp) (fun r9 L9 f9 H locs hp hw => ?_)
  obtain ⟨rfl, rfl, hu9⟩ := hp
  refine W.eq (g2 := F0 m 21 ls []) rfl ?_
  have hu := hu9
  obtain ⟨f_4, rfl⟩ : ∃ z, z = f9 := ⟨_, rfl⟩
  refine lv_aload_n hx hb dX1_wrap_21 rfl (lv_at hl 1 rfl) ?_
  refine zr_get (C := RX0) (T := TX0) (N := 8) (v := .int (nI (ln dr))) hx hb hts hi_X1_wrap_X0 hown hw (zu_c (hc_2).1 hu) rfl 4 (by decide) hf_X1_wrap_56 rfl dX1_wrap_22 ?_
  have HR2 := zHR_f hu (zHR_bec HR (vp_lt (zin7.mp gs0)) (d := dr) (fr := 0) (sz := ln dr) (k := 105) (rd := 0) (si := zRS σ (Int32.toNatClampNeg p1)) (fr9 := 0) (sz9 := zRL σ (Int32.toNatClampNeg p1)) (x1 := (105, 0, (rs (Int32.toNatClampNeg p1)), 0, (nI (ln dr)), 0, (nI (ln dr)), (-1))) (by rw [hra, hrl]) hrs rfl hrl (Or.inl rfl) hdr (HR.St hdr hlr) hr64 hkr (by omega) (Or.inl rfl))
  have hfr : ∀ b, P b → f_4 b = f b := by rw [← hu]; exact zfr_win HR (by have := vp_lt (zin7.mp gs0); omega)
  have ho : (o_wrap σ p0 p1) = (0, zRL σ (Int32.toNatClampNeg p1), zBecomes σ (Int32.toNatClampNeg p0) 105 (zRS σ (Int32.toNatClampNeg p1)) 0 (zRL σ (Int32.toNatClampNeg p1)) 0) := by unfold o_wrap; exact (if_pos (show (zin p0 0 7 = true) from by assumption)).trans (if_pos (show (zin p1 0 1 = true) from by assumption))
  exact z_iret hx hb hr hlocks hw (Nat.le_of_ble_eq_true rfl) (Nat.le_of_ble_eq_true rfl) dX1_wrap_25 ⟨by rw [ho], congrArg (fun z => some (Value.int z)) ((congrArg (fun q => q.2.1) ho).trans (show (zRL σ (Int32.toNatClampNeg p1) : Int32) = (nI (ln dr)) from hrl)), by rw [ho]; exact ⟨_, _, _, _, _, _, _, _, _, rfl, HR2⟩, hfr⟩

set_option maxRecDepth 100000 in
set_option maxHeartbeats 4000000 in
theorem c_X1_rowAt (l : Launch) (hl0 : l.stackTraces = false) (g : zG) (L : List Nat) (f : Nat → va_E) (h : Nat) (P : Nat → Prop) (σ : ZS) (p0 : Int32) (p1 : Int32) (hH : zHC g h P σ L f) : zC l yX1_rowAt wsX1_rowAt { frames := 8, cells := 2, slots := 12, locals := 124 } 2 12 g [.ref h, .int p0, .int p1] L f (fun r L1 f1 => (o_rowAt σ p0 p1).1 = 0 ∧ some (.int (o_rowAt σ p0 p1).2.1) = r ∧ zHC g h P (o_rowAt σ p0 p1).2.2 L1 f1 ∧ ∀ b, P b → f1 b = f b) (fun E L1 f1 => zXe ["java/lang/IndexOutOfBoundsException"] (o_rowAt σ p0 p1).1 E ∧ L = L1 ∧ f = f1 ∧ (o_rowAt σ p0 p1).2.2 = σ) := by
  obtain ⟨ah, G, Rw, rs, wn, ad, ln, kd, ct, rfl, HR⟩ := hH
  obtain ⟨hE, hG, hRw, -⟩ := id HR
  refine z_ofW (cc := cX1_rowAt) (maxL := 4) (ret := (some .int)) (by decide) rfl (Nat.le_of_ble_eq_true rfl) ?_
  intro p e s m args below meth c ls A hx hb hr hts hown hlocks hml htab hin hw hX hl
  have hl : lv_has ls 4 [(0, .ref (ah 0)), (1, .int p0), (2, .int p1)] := hl
  have hown : s.vm.findClass RX1 = some m.cls := hown
  refine lv_aload_n hx hb dX1_rowAt_0 rfl (lv_at hl 0 rfl) ?_
  refine lv_iload_n hx hb dX1_rowAt_1 rfl (lv_at hl 1 rfl) ?_
  refine z_callV (As := [.int p0]) (rest := []) ⟨hx, hb, hml, hown, hts⟩ hw hX (hE.1 0 (by decide)) rfl (c_X1_rowOf l hl0 g L f ah G Rw rs wn p0 hE hG hRw) (cwV 1 hts gX1_rowAt_X1_rowOf rfl rfl rfl (by decide +kernel) ⟨(Nat.le_of_ble_eq_true rfl), (Nat.le_of_ble_eq_true rfl)⟩) rfl hl.1 rfl (Nat.le_of_ble_eq_true rfl) dX1_rowAt_2 ⟨(Nat.le_of_ble_eq_true rfl), (Nat.le_of_ble_eq_true rfl)⟩ (fun E ce q9 L9 f9 H locs hp hw hce hcv hcl => ?_) (fun r9 L9 f9 H locs hp hw => ?_)
  · obtain ⟨ck_1, rfl, rfl, rfl⟩ := hp
    have gq : ¬ zin p0 0 1 = true := fun q => ck_1 (zin1.mp q)
    have ho : (o_rowAt σ p0 p1) = (1, 0, σ) := by unfold o_rowAt; exact if_neg (fun q => by first | exact gq q.1 | exact gix q.2)
    exact z_out htab hlocks hw hce hcv hcl (Nat.le_of_ble_eq_true rfl) (Nat.le_of_ble_eq_true rfl) ⟨⟨0, rfl, by rw [ho]; rfl⟩, rfl, rfl, by rw [ho]⟩
  obtain ⟨ck_1, rfl, rfl, rfl⟩ := hp
  refine W.eq (g2 := F0 m 5 ls [.ref (rs (Int32.toNatClampNeg p0))]) rfl ?_
  have gq : zin p0 0 1 = true := zin1.mpr ck_1
  obtain ⟨dr, hdr, hrs, hra, hlr, hstr, hctr, hkr, hrl, hr64⟩ := zH_row HR gq
  rw [← hra] at hstr
  refine lv_astore_n (lv' := [(3, .ref (rs (Int32.toNatClampNeg p0))), (0, .ref (ah 0)), (1, .int p0), (2, .int p1)]) hx hb dX1_rowAt_5 rfl hl (by decide) rfl (fun ls hl => ?_)
  refine lv_iload_n hx hb dX1_rowAt_6 rfl (lv_at hl 3 rfl) ?_
  refine lv_aload_n hx hb dX1_rowAt_7 rfl (lv_at hl 0 rfl) ?_
  refine zr_alen (t0 := 1) (v := nI (ln dr)) hx hb hw hstr rfl rfl dX1_rowAt_8 ?_
  refine z_callS (As := [.int p1, .int (nI (ln dr))]) (rest := []) ⟨hx, hb, hml, hown, hts⟩ hw hX (c_X1_checkIndex l hl0 g L f p1 (nI (ln dr))) (va_cwS 2 hts gX1_rowAt_X1_checkIndex rfl rfl rfl (by decide +kernel) ⟨(Nat.le_of_ble_eq_true rfl), (Nat.le_of_ble_eq_true rfl)⟩) rfl hl.1 rfl (Nat.le_of_ble_eq_true rfl) dX1_rowAt_9 ⟨(Nat.le_of_ble_eq_true rfl), (Nat.le_of_ble_eq_true rfl)⟩ (fun E ce q9 L9 f9 H locs hp hw hce hcv hcl => ?_) (fun r9 L9 f9 H locs hp hw => ?_)
  · obtain ⟨rfl, rfl, rfl, ck_2⟩ := hp
    have gix : ¬ zin p1 0 (zRL σ (Int32.toNatClampNeg p0) - 1) = true := fun q => ck_2 (by rw [hrl] at q; exact (zin_m1 hr64).mp q)
    have ho : (o_rowAt σ p0 p1) = (1, 0, σ) := by unfold o_rowAt; exact if_neg (fun q => by first | exact gq q.1 | exact gix q.2)
    exact z_out htab hlocks hw hce hcv hcl (Nat.le_of_ble_eq_true rfl) (Nat.le_of_ble_eq_true rfl) ⟨⟨0, rfl, by rw [ho]; rfl⟩, rfl, rfl, by rw [ho]⟩
  obtain ⟨rfl, rfl, rfl, ck_2⟩ := hp
  refine W.eq (g2 := F0 m 12 ls []) rfl ?_
  have gix : zin p1 0 (zRL σ (Int32.toNatClampNeg p0) - 1) = true := by rw [hrl]; exact (zin_m1 hr64).mpr ck_2
  have gpp : (zin p0 0 1 = true ∧ zin p1 0 (zRL σ (Int32.toNatClampNeg p0) - 1) = true) := ⟨gq, gix⟩
  obtain ⟨gv, gv1, gv2⟩ := z_rowat hdr hrs hr64 ck_2.1 ck_2.2
  refine lv_aload_n hx hb dX1_rowAt_12 rfl (lv_at hl 0 rfl) ?_
  refine lv_iload_n hx hb dX1_rowAt_13 rfl (lv_at hl 3 rfl) ?_
  refine zr_lald hx hb hw hstr gv dX1_rowAt_14 ?_
  refine lv_l2i (v := ((ct dr) (Int32.toNatClampNeg p1)).toInt32) hx hb dX1_rowAt_15 rfl ?_
  have ho : (o_rowAt σ p0 p1) = (0, (zST σ (Int32.toNatClampNeg (64 * zRS σ (Int32.toNatClampNeg p0) + p1))).toInt32, σ) := by unfold o_rowAt; exact if_pos (show ((zin p0 0 1 = true ∧ zin p1 0 (zRL σ (Int32.toNatClampNeg p0) - 1) = true)) from by assumption)
  exact z_iret hx hb hr hlocks hw (Nat.le_of_ble_eq_true rfl) (Nat.le_of_ble_eq_true rfl) dX1_rowAt_16 ⟨by rw [ho], congrArg (fun z => some (Value.int z)) ((congrArg (fun q => q.2.1) ho).trans (show ((zST σ (Int32.toNatClampNeg (64 * zRS σ (Int32.toNatClampNeg p0) + p1))).toInt32 : Int32) = ((ct dr) (Int32.toNatClampNeg p1)).toInt32 from by rw [gv2, hctr _ gv1])), by rw [ho]; exact ⟨_, _, _, _, _, _, _, _, _, rfl, HR⟩, fun _ _ => rfl⟩

set_option maxRecDepth 100000 in
set_option maxHeartbeats 4000000 in
theorem c_X1_rowPut (l : Launch) (hl0 : l.stackTraces = false) (g : zG) (L : List Nat) (f : Nat → va_E) (h : Nat) (P : Nat → Prop) (σ : ZS) (p0 : Int32) (p1 : Int32) (p2 : Int32) (hH : zHC g h P σ L f) : zC l yX1_rowPut wsX1_rowPut { frames := 8, cells := 2, slots := 12, locals := 124 } 2 12 g [.ref h, .int p0, .int p1, .int p2] L f (fun r L1 f1 => (o_rowPut σ p0 p1 p2).1 = 0 ∧ some (.int (o_rowPut σ p0 p1 p2).2.1) = r ∧ zHC g h P (o_rowPut σ p0 p1 p2).2.2 L1 f1 ∧ ∀ b, P b → f1 b = f b) (fun E L1 f1 => zXe ["java/lang/IndexOutOfBoundsException"] (o_rowPut σ p0 p1 p2).1 E ∧ L = L1 ∧ f = f1 ∧ (o_rowPut σ p0 p1 p2).2.2 = σ) := by
  obtain ⟨ah, G, Rw, rs, wn, ad, ln, kd, ct, rfl, HR⟩ := hH
  obtain ⟨hE, hG, hRw, -⟩ := id HR
  refine z_ofW (cc := cX1_rowPut) (maxL := 6) (ret := (some .int)) (by decide) rfl (Nat.le_of_ble_eq_true rfl) ?_
  intro p e s m args below meth c ls A hx hb hr hts hown hlocks hml htab hin hw hX hl
  have hl : lv_has ls 6 [(0, .ref (ah 0)), (1, .int p0), (2, .int p1), (3, .int p2)] := hl
  have hown : s.vm.findClass RX1 = some m.cls := hown
  refine lv_aload_n hx hb dX1_rowPut_0 rfl (lv_at hl 0 rfl) ?_
  refine lv_iload_n hx hb dX1_rowPut_1 rfl (lv_at hl 1 rfl) ?_
  refine z_callV (As := [.int p0]) (rest := []) ⟨hx, hb, hml, hown, hts⟩ hw hX (hE.1 0 (by decide)) rfl (c_X1_rowOf l hl0 g L f ah G Rw rs wn p0 hE hG hRw) (cwV 1 hts gX1_rowPut_X1_rowOf rfl rfl rfl (by decide +kernel) ⟨(Nat.le_of_ble_eq_true rfl), (Nat.le_of_ble_eq_true rfl)⟩) rfl hl.1 rfl (Nat.le_of_ble_eq_true rfl) dX1_rowPut_2 ⟨(Nat.le_of_ble_eq_true rfl), (Nat.le_of_ble_eq_true rfl)⟩ (fun E ce q9 L9 f9 H locs hp hw hce hcv hcl => ?_) (fun r9 L9 f9 H locs hp hw => ?_)
  · obtain ⟨ck_1, rfl, rfl, rfl⟩ := hp
    have gq : ¬ zin p0 0 1 = true := fun q => ck_1 (zin1.mp q)
    have ho : (o_rowPut σ p0 p1 p2) = (1, 0, σ) := by unfold o_rowPut; exact if_neg (fun q => by first | exact gq q.1 | exact gix q.2)
    exact z_out htab hlocks hw hce hcv hcl (Nat.le_of_ble_eq_true rfl) (Nat.le_of_ble_eq_true rfl) ⟨⟨0, rfl, by rw [ho]; rfl⟩, rfl, rfl, by rw [ho]⟩
  obtain ⟨ck_1, rfl, rfl, rfl⟩ := hp
  refine W.eq (g2 := F0 m 5 ls [.ref (rs (Int32.toNatClampNeg p0))]) rfl ?_
  have gq : zin p0 0 1 = true := zin1.mpr ck_1
  obtain ⟨dr, hdr, hrs, hra, hlr, hstr, hctr, hkr, hrl, hr64⟩ := zH_row HR gq
  rw [← hra] at hstr
  refine lv_astore (lv' := [(4, .ref (rs (Int32.toNatClampNeg p0))), (0, .ref (ah 0)), (1, .int p0), (2, .int p1), (3, .int p2)]) hx hb dX1_rowPut_5 hl (by decide) rfl (fun ls hl => ?_)
  refine lv_iload_n hx hb dX1_rowPut_7 rfl (lv_at hl 3 rfl) ?_
  refine lv_aload hx hb dX1_rowPut_8 (lv_at hl 0 rfl) ?_
  refine zr_alen (t0 := 1) (v := nI (ln dr)) hx hb hw hstr rfl rfl dX1_rowPut_10 ?_
  refine z_callS (As := [.int p1, .int (nI (ln dr))]) (rest := []) ⟨hx, hb, hml, hown, hts⟩ hw hX (c_X1_checkIndex l hl0 g L f p1 (nI (ln dr))) (va_cwS 2 hts gX1_rowPut_X1_checkIndex rfl rfl rfl (by decide +kernel) ⟨(Nat.le_of_ble_eq_true rfl), (Nat.le_of_ble_eq_true rfl)⟩) rfl hl.1 rfl (Nat.le_of_ble_eq_true rfl) dX1_rowPut_11 ⟨(Nat.le_of_ble_eq_true rfl), (Nat.le_of_ble_eq_true rfl)⟩ (fun E ce q9 L9 f9 H locs hp hw hce hcv hcl => ?_) (fun r9 L9 f9 H locs hp hw => ?_)
  · obtain ⟨rfl, rfl, rfl, ck_2⟩ := hp
    have gix : ¬ zin p1 0 (zRL σ (Int32.toNatClampNeg p0) - 1) = true := fun q => ck_2 (by rw [hrl] at q; exact (zin_m1 hr64).mp q)
    have ho : (o_rowPut σ p0 p1 p2) = (1, 0, σ) := by unfold o_rowPut; exact if_neg (fun q => by first | exact gq q.1 | exact gix q.2)
    exact z_out htab hlocks hw hce hcv hcl (Nat.le_of_ble_eq_true rfl) (Nat.le_of_ble_eq_true rfl) ⟨⟨0, rfl, by rw [ho]; rfl⟩, rfl, rfl, by rw [ho]⟩
  obtain ⟨rfl, rfl, rfl, ck_2⟩ := hp
  refine W.eq (g2 := F0 m 14 ls []) rfl ?_
  have gix : zin p1 0 (zRL σ (Int32.toNatClampNeg p0) - 1) = true := by rw [hrl]; exact (zin_m1 hr64).mpr ck_2
  have gpp : (zin p0 0 1 = true ∧ zin p1 0 (zRL σ (Int32.toNatClampNeg p0) - 1) = true) := ⟨gq, gix⟩
  obtain ⟨gv, gv1, gv2⟩ := z_rowat hdr hrs hr64 ck_2.1 ck_2.2
  refine lv_aload hx hb dX1_rowPut_14 (lv_at hl 0 rfl) ?_
  refine lv_iload_n hx hb dX1_rowPut_16 rfl (lv_at hl 3 rfl) ?_
  refine zr_lald hx hb hw hstr gv dX1_rowPut_17 ?_
  refine lv_l2i (v := ((ct dr) (Int32.toNatClampNeg p1)).toInt32) hx hb dX1_rowPut_18 rfl ?_
  refine lv_istore (lv' := [(5, .int ((ct dr) (Int32.toNatClampNeg p1)).toInt32), (4, .ref (rs (Int32.toNatClampNeg p0))), (0, .ref (ah 0)), (1, .int p0), (2, .int p1), (3, .int p2)]) hx hb dX1_rowPut_19 hl (by decide) rfl (fun ls hl => ?_)
  refine lv_aload hx hb dX1_rowPut_21 (lv_at hl 1 rfl) ?_
  refine lv_iload_n hx hb dX1_rowPut_23 rfl (lv_at hl 4 rfl) ?_
  refine lv_iload_n hx hb dX1_rowPut_24 rfl (lv_at hl 5 rfl) ?_
  refine lv_i2l (v := p2.toInt64) hx hb dX1_rowPut_25 rfl ?_
  refine zr_last hx hb hw hstr gv dX1_rowPut_26 (fun H locs hw => ?_)
  obtain ⟨f_3, hf_3⟩ : ∃ z, va_up f (rs (Int32.toNatClampNeg p0)) (.inl (g.2 1, (ln dr), .inr (.inl (vp_updL (ct dr) (Int32.toNatClampNeg p1) p2.toInt64)))) = z := ⟨_, rfl⟩
  rw [hf_3] at hw
  have hc_4 := zu_c (hstr).1 hf_3
  refine lv_iload hx hb dX1_rowPut_27 (lv_at hl 0 rfl) ?_
  have HR2 : zHR g P (zsST σ (vp_updL (zST σ) (64 * dr + Int32.toNatClampNeg p1) p2.toInt64)) L f_3 ah G Rw rs wn ad ln kd (va_up ct dr (vp_updL (ct dr) (Int32.toNatClampNeg p1) p2.toInt64)) := zHR_f (by rw [← hra]; exact hf_3) (zHR_wr HR hdr hlr gv1 hr64 (v := p2.toInt64) (by rw [hkr]; exact zcut_i))
  have hfr : ∀ b, P b → f_3 b = f b := by rw [← hf_3, hra]; exact zfr_st HR hdr hlr
  have ho : (o_rowPut σ p0 p1 p2) = (0, (zST σ (64 * dr + Int32.toNatClampNeg p1)).toInt32, zsST σ (vp_updL (zST σ) (64 * dr + Int32.toNatClampNeg p1) p2.toInt64)) := by unfold o_rowPut; rw [if_pos gpp, gv2]
  exact z_iret hx hb hr hlocks hw (Nat.le_of_ble_eq_true rfl) (Nat.le_of_ble_eq_true rfl) dX1_rowPut_29 ⟨by rw [ho], congrArg (fun z => some (Value.int z)) ((congrArg (fun q => q.2.1) ho).trans (show ((zST σ (64 * dr + Int32.toNatClampNeg p1)).toInt32 : Int32) = ((ct dr) (Int32.toNatClampNeg p1)).toInt32 from by rw [hctr _ gv1])), by rw [ho]; exact ⟨_, _, _, _, _, _, _, _, _, rfl, HR2⟩, hfr⟩

theorem ha_X1_allocate : Cond.arrayClass (newarray.typeOf .long) ∈ wsX1_allocate := by decide +kernel
set_option maxRecDepth 100000 in
set_option maxHeartbeats 4000000 in
theorem c_X1_allocate (l : Launch) (hl0 : l.stackTraces = false) (g : zG) (L : List Nat) (f : Nat → va_E) (h : Nat) (P : Nat → Prop) (σ : ZS) (p0 : Int32) (p1 : Int32) (p2 : Int32) (hH : zHC g h P σ L f) : zC l yX1_allocate wsX1_allocate { frames := 8, cells := 4, slots := 82, locals := 124 } 4 82 g [.ref h, .int p0, .int p1, .int p2] L f (fun r L1 f1 => (o_allocate σ p0 p1 p2).1 = 0 ∧ some (.int (o_allocate σ p0 p1 p2).2.1) = r ∧ zHC g h P (o_allocate σ p0 p1 p2).2.2 L1 f1 ∧ ∀ b, P b → f1 b = f b) (fun E L1 f1 => zXe ["java/lang/IndexOutOfBoundsException", "java/lang/IllegalArgumentException"] (o_allocate σ p0 p1 p2).1 E ∧ L = L1 ∧ f = f1 ∧ (o_allocate σ p0 p1 p2).2.2 = σ) := by
  obtain ⟨ah, G, Rw, rs, wn, ad, ln, kd, ct, rfl, HR⟩ := hH
  obtain ⟨hE, hG, hRw, -⟩ := id HR
  refine z_ofW (cc := cX1_allocate) (maxL := 6) (ret := (some .boolean)) (by decide) rfl (Nat.le_of_ble_eq_true rfl) ?_
  intro p e s m args below meth c ls A hx hb hr hts hown hlocks hml htab hin hw hX hl
  have hl : lv_has ls 6 [(0, .ref (ah 0)), (1, .int p0), (2, .int p1), (3, .int p2)] := hl
  have hown : s.vm.findClass RX1 = some m.cls := hown
  refine lv_aload_n hx hb dX1_allocate_0 rfl (lv_at hl 0 rfl) ?_
  refine lv_iload_n hx hb dX1_allocate_1 rfl (lv_at hl 1 rfl) ?_
  refine z_callV (As := [.int p0]) (rest := []) ⟨hx, hb, hml, hown, hts⟩ hw hX (hE.1 0 (by decide)) rfl (c_X1_slotOf l hl0 g L f ah G Rw rs wn p0 hE hG hRw) (cwV 1 hts gX1_allocate_X1_slotOf rfl rfl rfl (by decide +kernel) ⟨(Nat.le_of_ble_eq_true rfl), (Nat.le_of_ble_eq_true rfl)⟩) rfl hl.1 rfl (Nat.le_of_ble_eq_true rfl) dX1_allocate_2 ⟨(Nat.le_of_ble_eq_true rfl), (Nat.le_of_ble_eq_true rfl)⟩ (fun E ce q9 L9 f9 H locs hp hw hce hcv hcl => ?_) (fun r9 L9 f9 H locs hp hw => ?_)
  · obtain ⟨ck_1, rfl, rfl, rfl⟩ := hp
    have gs : ¬ zin p0 0 7 = true := fun q => ck_1 (zin7.mp q)
    have ho : (o_allocate σ p0 p1 p2) = (1, 0, σ) := by unfold o_allocate; first | exact if_neg (show ¬ (zin p0 0 7 = true) from by assumption)
    exact z_out htab hlocks hw hce hcv hcl (Nat.le_of_ble_eq_true rfl) (Nat.le_of_ble_eq_true rfl) ⟨⟨0, rfl, by rw [ho]; rfl⟩, rfl, rfl, by rw [ho]⟩
  obtain ⟨ck_1, rfl, rfl, rfl⟩ := hp
  refine W.eq (g2 := F0 m 5 ls [.ref (ah ((Int32.toNatClampNeg p0) + 3))]) rfl ?_
  have hc_2 : zc L f (ah ((Int32.toNatClampNeg p0) + 3)) (.inr (0, zwf (wn (Int32.toNatClampNeg p0)))) := hE.1 ((Int32.toNatClampNeg p0) + 3) (by have := vp_lt ck_1; omega)
  have gs0 : zin p0 0 7 = true := zin7.mpr ck_1
  refine lv_astore (lv' := [(4, .ref (ah ((Int32.toNatClampNeg p0) + 3))), (0, .ref (ah 0)), (1, .int p0), (2, .int p1), (3, .int p2)]) hx hb dX1_allocate_5 hl (by decide) rfl (fun ls hl => ?_)
  refine lv_iload_n hx hb dX1_allocate_7 rfl (lv_at hl 3 rfl) ?_
  refine z_callS (As := [.int p1]) (rest := []) ⟨hx, hb, hml, hown, hts⟩ hw hX (c_X1_checkKind l hl0 g L f p1) (va_cwS 1 hts gX1_allocate_X1_checkKind rfl rfl rfl (by decide +kernel) ⟨(Nat.le_of_ble_eq_true rfl), (Nat.le_of_ble_eq_true rfl)⟩) rfl hl.1 rfl (Nat.le_of_ble_eq_true rfl) dX1_allocate_8 ⟨(Nat.le_of_ble_eq_true rfl), (Nat.le_of_ble_eq_true rfl)⟩ (fun E ce q9 L9 f9 H locs hp hw hce hcv hcl => ?_) (fun r9 L9 f9 H locs hp hw => ?_)
  · obtain ⟨rfl, rfl, rfl, ck_3⟩ := hp
    have gk : ¬ zKind p1 := ck_3
    have ho : (o_allocate σ p0 p1 p2) = (2, 0, σ) := oz_allocate_bad gs0 (by first | exact Or.inl (by assumption) | exact Or.inr (by assumption))
    exact z_out htab hlocks hw hce hcv hcl (Nat.le_of_ble_eq_true rfl) (Nat.le_of_ble_eq_true rfl) ⟨⟨1, rfl, by rw [ho]; rfl⟩, rfl, rfl, by rw [ho]⟩
  obtain ⟨rfl, rfl, rfl, ck_3⟩ := hp
  refine W.eq (g2 := F0 m 11 ls []) rfl ?_
  have gk : zKind p1 := ck_3
  refine lv_iload_n hx hb dX1_allocate_11 rfl (lv_at hl 4 rfl) ?_
  refine z_callS (As := [.int p2]) (rest := []) ⟨hx, hb, hml, hown, hts⟩ hw hX (c_X1_checkLength l hl0 g L f p2) (va_cwS 1 hts gX1_allocate_X1_checkLength rfl rfl rfl (by decide +kernel) ⟨(Nat.le_of_ble_eq_true rfl), (Nat.le_of_ble_eq_true rfl)⟩) rfl hl.1 rfl (Nat.le_of_ble_eq_true rfl) dX1_allocate_12 ⟨(Nat.le_of_ble_eq_true rfl), (Nat.le_of_ble_eq_true rfl)⟩ (fun E ce q9 L9 f9 H locs hp hw hce hcv hcl => ?_) (fun r9 L9 f9 H locs hp hw => ?_)
  · obtain ⟨rfl, rfl, rfl, ck_4⟩ := hp
    have gl : ¬ zin p2 0 64 = true := fun q => ck_4 ⟨Int32.not_lt.mpr (zin_t.mp q).1, (zin_t.mp q).2⟩
    have ho : (o_allocate σ p0 p1 p2) = (2, 0, σ) := oz_allocate_bad gs0 (by first | exact Or.inl (by assumption) | exact Or.inr (by assumption))
    exact z_out htab hlocks hw hce hcv hcl (Nat.le_of_ble_eq_true rfl) (Nat.le_of_ble_eq_true rfl) ⟨⟨1, rfl, by rw [ho]; rfl⟩, rfl, rfl, by rw [ho]⟩
  obtain ⟨rfl, rfl, rfl, ck_4⟩ := hp
  refine W.eq (g2 := F0 m 15 ls []) rfl ?_
  have gl : zin p2 0 64 = true := zin_t.mpr ⟨Int32.not_lt.mp ck_4.1, ck_4.2⟩
  obtain ⟨nl, hnl, hpl⟩ := zin_n (n := 64) (by decide) gl
  have hclamp : Int32.toNatClampNeg p2 = nl := by rw [hpl, nI_clamp (by omega)]
  refine lv_aload hx hb dX1_allocate_15 (lv_at hl 0 rfl) ?_
  refine z_callV (As := []) (rest := []) ⟨hx, hb, hml, hown, hts⟩ hw hX hc_2 rfl (c_X0_isThere l g L f (ah ((Int32.toNatClampNeg p0) + 3)) ((zwk (wn (Int32.toNatClampNeg p0))), (zwo (wn (Int32.toNatClampNeg p0))), (zws (wn (Int32.toNatClampNeg p0))), (zwr (wn (Int32.toNatClampNeg p0))), (zwc (wn (Int32.toNatClampNeg p0))), (zwp (wn (Int32.toNatClampNeg p0))), (zwe (wn (Int32.toNatClampNeg p0))), (zwm (wn (Int32.toNatClampNeg p0)))) hc_2) (cwV 0 hts gX1_allocate_X0_isThere rfl rfl rfl (by decide +kernel) ⟨(Nat.le_of_ble_eq_true rfl), (Nat.le_of_ble_eq_true rfl)⟩) rfl hl.1 rfl (Nat.le_of_ble_eq_true rfl) dX1_allocate_17 ⟨(Nat.le_of_ble_eq_true rfl), (Nat.le_of_ble_eq_true rfl)⟩ (fun _ _ _ _ _ _ _ hp => False.elim hp) (fun r9 L9 f9 H locs hp hw => ?_)
  obtain ⟨rfl, rfl, rfl⟩ := hp
  refine W.eq (g2 := F0 m 20 ls [.int (zb (decide (¬ (zwk (wn (Int32.toNatClampNeg p0))) = 45)))]) rfl ?_
  refine lv_istore (lv' := [(5, .int (zb (decide (¬ (zwk (wn (Int32.toNatClampNeg p0))) = 45)))), (4, .ref (ah ((Int32.toNatClampNeg p0) + 3))), (0, .ref (ah 0)), (1, .int p0), (2, .int p1), (3, .int p2)]) hx hb dX1_allocate_20 hl (by decide) rfl (fun ls hl => ?_)
  refine lv_aload hx hb dX1_allocate_22 (lv_at hl 1 rfl) ?_
  refine lv_iload_n hx hb dX1_allocate_24 rfl (lv_at hl 4 rfl) ?_
  refine lv_iload_n hx hb dX1_allocate_25 rfl (lv_at hl 5 rfl) ?_
  have hfr0 : ∀ q, q ∉ L → ∀ b, P b → va_up f q (.inl (g.2 1, nl, .inr (.inl (fun _ => 0)))) b = f b := fun q hq => zfr_push HR hq
  refine zr_newa (k0 := 1) (N' := nl) (a0 := (nl, .inr (.inl (fun _ => 0)))) (ty := .long) (atype := .long) hx hb hts ha_X1_allocate rfl rfl (fun C h => by cases h) hw (fun _ => rfl) (Int32.not_lt.mpr (zin_t.mp gl).1) hclamp (by show nl * 8 ≤ 536870912; omega) (Nat.le_of_ble_eq_true rfl) (by show _ ≤ (82 : Nat); omega) dX1_allocate_26 (fun q9 H hq hw => ?_)
  refine W.widen (k := 4) (n := 82) (Nat.le_of_ble_eq_true rfl) (by omega) ?_
  have hfr0 := hfr0 q9 hq
  obtain ⟨hqP, hqn⟩ := zH_out HR hq
  have HR := zHR_push HR (e := .inl (g.2 1, nl, .inr (.inl (fun _ => 0)))) hq
  have hq9 : zc (L ++ [q9]) (va_up f q9 (.inl (g.2 1, nl, .inr (.inl (fun _ => 0))))) q9 _ := zc.new
  obtain ⟨f_5, hf_5⟩ : ∃ z, va_up f q9 (.inl (g.2 1, nl, .inr (.inl (fun _ => 0)))) = z := ⟨_, rfl⟩
  rw [hf_5] at hw HR hq9 hfr0 
  generalize L ++ [q9] = L at hw HR hq9 
  obtain ⟨hE, hG, hRw, -⟩ := id HR
  have hc_6 := hE.1 ((Int32.toNatClampNeg p0) + 3) (by have := vp_lt (zin7.mp gs0); omega)
  refine z_callV (As := [.int p1, .ref q9]) (rest := []) ⟨hx, hb, hml, hown, hts⟩ hw hX hc_6 rfl (c_X0_layOver l g L f_5 (ah ((Int32.toNatClampNeg p0) + 3)) (wn (Int32.toNatClampNeg p0)) p1 q9 hc_6 hq9 (zchar_of gk)) (cwV 2 hts gX1_allocate_X0_layOver rfl rfl rfl (by decide +kernel) ⟨(Nat.le_of_ble_eq_true rfl), (Nat.le_of_ble_eq_true rfl)⟩) rfl hl.1 rfl (Nat.le_of_ble_eq_true rfl) dX1_allocate_28 ⟨(Nat.le_of_ble_eq_true rfl), (Nat.le_of_ble_eq_true rfl)⟩ (fun _ _ _ _ _ _ _ hp => False.elim hp) (fun r9 L9 f9 H locs hp hw => ?_)
  obtain ⟨rfl, rfl, hu9⟩ := hp
  refine W.eq (g2 := F0 m 31 ls []) rfl ?_
  have hu := hu9
  obtain ⟨f_7, rfl⟩ : ∃ z, z = f9 := ⟨_, rfl⟩
  refine lv_iload hx hb dX1_allocate_31 (lv_at hl 0 rfl) ?_
  obtain ⟨d9, wn9, HR2⟩ := zHR_alloc HR (vp_lt (zin7.mp gs0)) hq9 hqP hqn hnl gk
  have HR2 := zHR_f hu HR2
  rw [← hpl] at HR2
  have hfr : ∀ b, P b → f_7 b = f b := fun b hb => by rw [← hu]; exact (zfr_win HR (by have := vp_lt (zin7.mp gs0); omega) b hb).trans (hfr0 b hb)
  have ho : (o_allocate σ p0 p1 p2) = (0, (if zK σ (Int32.toNatClampNeg p0) = 0 then 0 else 1), _) := oz_allocate gs0 gk gl
  exact z_zret hx hb hr hlocks zb_n hw (Nat.le_of_ble_eq_true rfl) (Nat.le_of_ble_eq_true rfl) dX1_allocate_33 ⟨by rw [ho], congrArg (fun z => some (Value.int z)) ((congrArg (fun q => q.2.1) ho).trans (show ((if zK σ (Int32.toNatClampNeg p0) = 0 then 0 else 1) : Int32) = (zb (decide (¬ (zwk (wn (Int32.toNatClampNeg p0))) = 45))) from (zH_there HR gs0))), by rw [ho]; exact ⟨_, _, _, _, _, _, _, _, _, rfl, HR2⟩, hfr⟩

theorem ha_X1_make : Cond.arrayClass (newarray.typeOf .long) ∈ wsX1_make := by decide +kernel
theorem hi_X1_make_X1 : ∀ w ∈ wsX10, w ∈ wsX1_make := by decide +kernel
theorem hf_X1_make_11 : Cond.fieldLink RX1 11 (TX1 1).1 (TX1 1).2.1 (TX1 1).2.2.1 ∈ wsX1_make := by decide +kernel
set_option maxRecDepth 100000 in
set_option maxHeartbeats 4000000 in
theorem c_X1_make (l : Launch) (hl0 : l.stackTraces = false) (g : zG) (L : List Nat) (f : Nat → va_E) (h : Nat) (P : Nat → Prop) (σ : ZS) (p0 : Int32) (p1 : Int32) (hH : zHC g h P σ L f) : zC l yX1_make wsX1_make { frames := 8, cells := 3, slots := 76, locals := 124 } 3 76 g [.ref h, .int p0, .int p1] L f (fun r L1 f1 => (o_make σ p0 p1).1 = 0 ∧ some (.int (o_make σ p0 p1).2.1) = r ∧ zHC g h P (o_make σ p0 p1).2.2 L1 f1 ∧ ∀ b, P b → f1 b = f b) (fun E L1 f1 => zXe ["java/lang/IndexOutOfBoundsException", "java/lang/IllegalArgumentException"] (o_make σ p0 p1).1 E ∧ L = L1 ∧ f = f1 ∧ (o_make σ p0 p1).2.2 = σ) := by
  obtain ⟨ah, G, Rw, rs, wn, ad, ln, kd, ct, rfl, HR⟩ := hH
  obtain ⟨hE, hG, hRw, -⟩ := id HR
  refine z_ofW (cc := cX1_make) (maxL := 4) (ret := (some .int)) (by decide) rfl (Nat.le_of_ble_eq_true rfl) ?_
  intro p e s m args below meth c ls A hx hb hr hts hown hlocks hml htab hin hw hX hl
  have hl : lv_has ls 4 [(0, .ref (ah 0)), (1, .int p0), (2, .int p1)] := hl
  have hown : s.vm.findClass RX1 = some m.cls := hown
  refine lv_aload_n hx hb dX1_make_0 rfl (lv_at hl 0 rfl) ?_
  refine lv_iload_n hx hb dX1_make_1 rfl (lv_at hl 1 rfl) ?_
  refine z_callV (As := [.int p0]) (rest := []) ⟨hx, hb, hml, hown, hts⟩ hw hX (hE.1 0 (by decide)) rfl (c_X1_rowOf l hl0 g L f ah G Rw rs wn p0 hE hG hRw) (cwV 1 hts gX1_make_X1_rowOf rfl rfl rfl (by decide +kernel) ⟨(Nat.le_of_ble_eq_true rfl), (Nat.le_of_ble_eq_true rfl)⟩) rfl hl.1 rfl (Nat.le_of_ble_eq_true rfl) dX1_make_2 ⟨(Nat.le_of_ble_eq_true rfl), (Nat.le_of_ble_eq_true rfl)⟩ (fun E ce q9 L9 f9 H locs hp hw hce hcv hcl => ?_) (fun r9 L9 f9 H locs hp hw => ?_)
  · obtain ⟨ck_1, rfl, rfl, rfl⟩ := hp
    have gq : ¬ zin p0 0 1 = true := fun q => ck_1 (zin1.mp q)
    have ho : (o_make σ p0 p1) = (1, 0, σ) := by unfold o_make; first | exact if_neg (show ¬ (zin p0 0 1 = true) from by assumption)
    exact z_out htab hlocks hw hce hcv hcl (Nat.le_of_ble_eq_true rfl) (Nat.le_of_ble_eq_true rfl) ⟨⟨0, rfl, by rw [ho]; rfl⟩, rfl, rfl, by rw [ho]⟩
  obtain ⟨ck_1, rfl, rfl, rfl⟩ := hp
  refine W.eq (g2 := F0 m 5 ls [.ref (rs (Int32.toNatClampNeg p0))]) rfl ?_
  have gq : zin p0 0 1 = true := zin1.mpr ck_1
  obtain ⟨dr, hdr, hrs, hra, hlr, hstr, hctr, hkr, hrl, hr64⟩ := zH_row HR gq
  rw [← hra] at hstr
  refine lv_astore_n (lv' := [(3, .ref (rs (Int32.toNatClampNeg p0))), (0, .ref (ah 0)), (1, .int p0), (2, .int p1)]) hx hb dX1_make_5 rfl hl (by decide) rfl (fun ls hl => ?_)
  refine lv_iload_n hx hb dX1_make_6 rfl (lv_at hl 3 rfl) ?_
  refine z_callS (As := [.int p1]) (rest := []) ⟨hx, hb, hml, hown, hts⟩ hw hX (c_X1_checkLength l hl0 g L f p1) (va_cwS 1 hts gX1_make_X1_checkLength rfl rfl rfl (by decide +kernel) ⟨(Nat.le_of_ble_eq_true rfl), (Nat.le_of_ble_eq_true rfl)⟩) rfl hl.1 rfl (Nat.le_of_ble_eq_true rfl) dX1_make_7 ⟨(Nat.le_of_ble_eq_true rfl), (Nat.le_of_ble_eq_true rfl)⟩ (fun E ce q9 L9 f9 H locs hp hw hce hcv hcl => ?_) (fun r9 L9 f9 H locs hp hw => ?_)
  · obtain ⟨rfl, rfl, rfl, ck_2⟩ := hp
    have gl : ¬ zin p1 0 64 = true := fun q => ck_2 ⟨Int32.not_lt.mpr (zin_t.mp q).1, (zin_t.mp q).2⟩
    have ho : (o_make σ p0 p1) = (2, 0, σ) := by unfold o_make; first | exact (if_pos (show (zin p0 0 1 = true) from by assumption)).trans (if_neg (show ¬ (zin p1 0 64 = true) from by assumption))
    exact z_out htab hlocks hw hce hcv hcl (Nat.le_of_ble_eq_true rfl) (Nat.le_of_ble_eq_true rfl) ⟨⟨1, rfl, by rw [ho]; rfl⟩, rfl, rfl, by rw [ho]⟩
  obtain ⟨rfl, rfl, rfl, ck_2⟩ := hp
  refine W.eq (g2 := F0 m 10 ls []) rfl ?_
  have gl : zin p1 0 64 = true := zin_t.mpr ⟨Int32.not_lt.mp ck_2.1, ck_2.2⟩
  obtain ⟨nl, hnl, hpl⟩ := zin_n (n := 64) (by decide) gl
  have hclamp : Int32.toNatClampNeg p1 = nl := by rw [hpl, nI_clamp (by omega)]
  refine lv_aload_n hx hb dX1_make_10 rfl (lv_at hl 1 rfl) ?_
  refine zr_get (C := RX1) (T := TX1) (N := 4) (v := .ref (ah 2)) hx hb hts hi_X1_make_X1 hown hw (hE.1 0 (by decide)) rfl 1 (by decide) hf_X1_make_11 rfl dX1_make_11 ?_
  refine lv_iload_n hx hb dX1_make_14 rfl (lv_at hl 2 rfl) ?_
  refine lv_iload_n hx hb dX1_make_15 rfl (lv_at hl 3 rfl) ?_
  have hfr0 : ∀ q, q ∉ L → ∀ b, P b → va_up f q (.inl (g.2 1, nl, .inr (.inl (fun _ => 0)))) b = f b := fun q hq => zfr_push HR hq
  refine zr_newa (k0 := 1) (N' := nl) (a0 := (nl, .inr (.inl (fun _ => 0)))) (ty := .long) (atype := .long) hx hb hts ha_X1_make rfl rfl (fun C h => by cases h) hw (fun _ => rfl) (Int32.not_lt.mpr (zin_t.mp gl).1) hclamp (by show nl * 8 ≤ 536870912; omega) (Nat.le_of_ble_eq_true rfl) (by show _ ≤ (76 : Nat); omega) dX1_make_16 (fun q9 H hq hw => ?_)
  refine W.widen (k := 3) (n := 76) (Nat.le_of_ble_eq_true rfl) (by omega) ?_
  have h929 := (hstr).push (e1 := .inl (g.2 1, nl, .inr (.inl (fun _ => 0)))) hq
  have hfr0 := hfr0 q9 hq
  obtain ⟨hqP, hqn⟩ := zH_out HR hq
  have HR := zHR_push HR (e := .inl (g.2 1, nl, .inr (.inl (fun _ => 0)))) hq
  have hq9 : zc (L ++ [q9]) (va_up f q9 (.inl (g.2 1, nl, .inr (.inl (fun _ => 0))))) q9 _ := zc.new
  obtain ⟨f_3, hf_3⟩ : ∃ z, va_up f q9 (.inl (g.2 1, nl, .inr (.inl (fun _ => 0)))) = z := ⟨_, rfl⟩
  rw [hf_3] at hw HR hq9 hfr0 h929
  generalize L ++ [q9] = L at hw HR hq9 h929
  obtain ⟨hE, hG, hRw, -⟩ := id HR
  refine zr_gast hx hb hw hX (hE.1 2 (by decide)) hq9 (zin1.mp gq) dX1_make_18 (fun H locs hw => ?_)
  obtain ⟨f_4, hf_4⟩ : ∃ z, va_up f_3 (ah 2) (.inl (g.2 5, 2, .inr (.inr (.inr (.inr (va_up Rw (Int32.toNatClampNeg p0) (some q9))))))) = z := ⟨_, rfl⟩
  rw [hf_4] at hw
  have hc_5 := zu_o hf_4 h929 (zc.dj h929 (hE.1 2 (by decide)) (by intro h; simp [zCe] at h))
  have hc_6 := zu_o hf_4 hq9 (zc.dj hq9 (hE.1 2 (by decide)) (by intro h; simp [zCe] at h))
  refine lv_aload_n hx hb dX1_make_19 rfl (lv_at hl 0 rfl) ?_
  refine zr_alen (t0 := 1) (v := nI (ln dr)) hx hb hw hc_5 rfl rfl dX1_make_20 ?_
  obtain ⟨d9, hd9, hz9, hu9⟩ := zFnd_d HR.I
  obtain ⟨Hf, hS⟩ := zHR_fresh HR (k := 105) hd9 hu9 hq9 hqP hqn hnl
  have HR2 := zHR_f (f1 := f_4) (by rw [va_up_self]; exact hf_4) (zHR_row Hf (vp_lt (zin1.mp gq)) hd9 hS (by rw [va_up_self]; exact hnl) (by rw [va_up_self]) (n := p1) (by rw [va_up_self]; exact hpl))
  have hfr : ∀ b, P b → f_4 b = f b := fun b hb => by rw [← hf_4]; exact (zfr_win HR (k := 2) (by decide) b hb).trans (hfr0 b hb)
  have ho : (o_make σ p0 p1) = (0, zRL σ (Int32.toNatClampNeg p0), zsRL (zsRS (zsST σ (zZero (zST σ) (nI d9) 64)) (upd (zRS σ) (Int32.toNatClampNeg p0) (nI d9))) (upd (zRL σ) (Int32.toNatClampNeg p0) p1)) := by unfold o_make; rw [if_pos gq, if_pos gl, hz9]
  exact z_iret hx hb hr hlocks hw (Nat.le_of_ble_eq_true rfl) (Nat.le_of_ble_eq_true rfl) dX1_make_21 ⟨by rw [ho], congrArg (fun z => some (Value.int z)) ((congrArg (fun q => q.2.1) ho).trans (show (zRL σ (Int32.toNatClampNeg p0) : Int32) = (nI (ln dr)) from hrl)), by rw [ho]; exact ⟨_, _, _, _, _, _, _, _, _, rfl, HR2⟩, hfr⟩

