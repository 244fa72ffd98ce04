theorem hi_X1_capacity_X0 : ∀ w ∈ wsX00, w ∈ wsX1_capacity := by decide +kernel
theorem hf_X1_capacity_56 : Cond.fieldLink RX1 56 (TX0 4).1 (TX0 4).2.1 (TX0 4).2.2.1 ∈ wsX1_capacity := by decide +kernel
set_option maxRecDepth 100000 in
set_option maxHeartbeats 4000000 in
theorem c_X1_capacity (l : Launch) (hl0 : l.stackTraces = false) (g : zG) (L : List Nat) (f : Nat → va_E) (h : Nat) (P : Nat → Prop) (σ : ZS) (p0 : Int32) (hH : zHC g h P σ L f) : zC l yX1_capacity wsX1_capacity { frames := 9, cells := 2, slots := 12, locals := 146 } 2 12 g [.ref h, .int p0] L f (fun r L1 f1 => (o_capacity σ p0).1 = 0 ∧ some (.int (o_capacity σ p0).2.1) = r ∧ zHC g h P (o_capacity σ p0).2.2 L1 f1 ∧ ∀ b, P b → f1 b = f b) (fun E L1 f1 => zXe ["java/lang/IndexOutOfBoundsException"] (o_capacity σ p0).1 E ∧ L = L1 ∧ f = f1) := by
  obtain ⟨ah, G, Rw, rs, wn, ad, ln, kd, ct, rfl, HR⟩ := hH
  obtain ⟨hE, hG, hRw, -⟩ := id HR
  refine z_ofW (cc := cX1_capacity) (maxL := 2) (ret := (some .int)) (by decide) rfl (Nat.le_of_ble_eq_true rfl) ?_
  intro p e s m args below meth c ls A hx hb hr hts hown hlocks hml htab hin hw hX hl
  have hl : lv_has ls 2 [(0, .ref (ah 0)), (1, .int p0)] := hl
  have hown : s.vm.findClass RX1 = some m.cls := hown
  refine lv_aload_n hx hb dX1_capacity_0 rfl (lv_at hl 0 rfl) ?_
  refine lv_iload_n hx hb dX1_capacity_1 rfl (lv_at hl 1 rfl) ?_
  refine z_callV (As := [.int p0]) (rest := []) ⟨hx, hb, hml, hown, hts⟩ hw hX (hE.1 0 (by decide)) rfl (c_X1_windowOf l hl0 g L f ah G Rw rs wn p0 hE hG hRw) (cwV 1 hts gX1_capacity_X1_windowOf rfl rfl rfl (by decide +kernel) ⟨(Nat.le_of_ble_eq_true rfl), (Nat.le_of_ble_eq_true rfl)⟩) rfl hl.1 rfl (Nat.le_of_ble_eq_true rfl) dX1_capacity_2 ⟨(Nat.le_of_ble_eq_true rfl), (Nat.le_of_ble_eq_true rfl)⟩ (fun E ce q9 L9 f9 H locs hp hw hce hcv hcl => ?_) (fun r9 L9 f9 H locs hp hw => ?_)
  · obtain ⟨ck_1, rfl, rfl, rfl⟩ := hp
    have gz : ¬ zis σ p0 = true := fun q => ck_1 ((zH_is HR).mpr q)
    have ho : (o_capacity σ p0) = (1, 0, σ) := by unfold o_capacity; first | exact if_neg (show ¬ (zis σ p0 = true) from by assumption)
    exact z_out htab hlocks hw hce hcv hcl (Nat.le_of_ble_eq_true rfl) (Nat.le_of_ble_eq_true rfl) ⟨⟨0, rfl, by rw [ho]; rfl⟩, rfl, rfl⟩
  obtain ⟨ck_1, rfl, rfl, rfl⟩ := hp
  refine W.eq (g2 := F0 m 5 ls [.ref (ah ((Int32.toNatClampNeg p0) + 3))]) rfl ?_
  have hc_2 : zc L f (ah ((Int32.toNatClampNeg p0) + 3)) (.inr (0, zwf (wn (Int32.toNatClampNeg p0)))) := hE.1 ((Int32.toNatClampNeg p0) + 3) (by have := vp_lt ck_1.1; omega)
  have gz0 : zis σ p0 = true := (zH_is HR).mp ck_1
  have gw0 := zI_win HR.I gz0
  obtain ⟨hk0, ho0, hr0, hc0, hp0, he0, hm0⟩ := zH_win HR gz0
  refine zr_get (C := RX0) (T := TX0) (N := 8) (v := .int (zwc (wn (Int32.toNatClampNeg p0)))) hx hb hts hi_X1_capacity_X0 hown hw hc_2 rfl 4 (by decide) hf_X1_capacity_56 rfl dX1_capacity_5 ?_
  have ho : (o_capacity σ p0) = (0, zSZ σ (Int32.toNatClampNeg p0), σ) := by unfold o_capacity; exact if_pos (show (zis σ p0 = true) from by assumption)
  exact z_iret hx hb hr hlocks hw (Nat.le_of_ble_eq_true rfl) (Nat.le_of_ble_eq_true rfl) dX1_capacity_8 ⟨by rw [ho], by rw [ho]; exact congrArg (fun z => some (Value.int z)) (show (zSZ σ (Int32.toNatClampNeg p0) : Int32) = (zwc (wn (Int32.toNatClampNeg p0))) from (by first | rfl | simp only [hk0, ho0, hr0, hc0, hp0, he0, hm0])), by rw [ho]; exact ⟨ah, G, Rw, rs, _, ad, _, _, _, rfl, HR⟩, fun _ _ => rfl⟩

theorem hi_X1_place_X0 : ∀ w ∈ wsX00, w ∈ wsX1_place := by decide +kernel
theorem hf_X1_place_63 : Cond.fieldLink RX1 63 (TX0 5).1 (TX0 5).2.1 (TX0 5).2.2.1 ∈ wsX1_place := by decide +kernel
set_option maxRecDepth 100000 in
set_option maxHeartbeats 4000000 in
theorem c_X1_place (l : Launch) (hl0 : l.stackTraces = false) (g : zG) (L : List Nat) (f : Nat → va_E) (h : Nat) (P : Nat → Prop) (σ : ZS) (p0 : Int32) (hH : zHC g h P σ L f) : zC l yX1_place wsX1_place { frames := 9, cells := 2, slots := 12, locals := 146 } 2 12 g [.ref h, .int p0] L f (fun r L1 f1 => (o_place σ p0).1 = 0 ∧ some (.int (o_place σ p0).2.1) = r ∧ zHC g h P (o_place σ p0).2.2 L1 f1 ∧ ∀ b, P b → f1 b = f b) (fun E L1 f1 => zXe ["java/lang/IndexOutOfBoundsException"] (o_place σ p0).1 E ∧ L = L1 ∧ f = f1) := by
  obtain ⟨ah, G, Rw, rs, wn, ad, ln, kd, ct, rfl, HR⟩ := hH
  obtain ⟨hE, hG, hRw, -⟩ := id HR
  refine z_ofW (cc := cX1_place) (maxL := 2) (ret := (some .int)) (by decide) rfl (Nat.le_of_ble_eq_true rfl) ?_
  intro p e s m args below meth c ls A hx hb hr hts hown hlocks hml htab hin hw hX hl
  have hl : lv_has ls 2 [(0, .ref (ah 0)), (1, .int p0)] := hl
  have hown : s.vm.findClass RX1 = some m.cls := hown
  refine lv_aload_n hx hb dX1_place_0 rfl (lv_at hl 0 rfl) ?_
  refine lv_iload_n hx hb dX1_place_1 rfl (lv_at hl 1 rfl) ?_
  refine z_callV (As := [.int p0]) (rest := []) ⟨hx, hb, hml, hown, hts⟩ hw hX (hE.1 0 (by decide)) rfl (c_X1_windowOf l hl0 g L f ah G Rw rs wn p0 hE hG hRw) (cwV 1 hts gX1_place_X1_windowOf rfl rfl rfl (by decide +kernel) ⟨(Nat.le_of_ble_eq_true rfl), (Nat.le_of_ble_eq_true rfl)⟩) rfl hl.1 rfl (Nat.le_of_ble_eq_true rfl) dX1_place_2 ⟨(Nat.le_of_ble_eq_true rfl), (Nat.le_of_ble_eq_true rfl)⟩ (fun E ce q9 L9 f9 H locs hp hw hce hcv hcl => ?_) (fun r9 L9 f9 H locs hp hw => ?_)
  · obtain ⟨ck_1, rfl, rfl, rfl⟩ := hp
    have gz : ¬ zis σ p0 = true := fun q => ck_1 ((zH_is HR).mpr q)
    have ho : (o_place σ p0) = (1, 0, σ) := by unfold o_place; first | exact if_neg (show ¬ (zis σ p0 = true) from by assumption)
    exact z_out htab hlocks hw hce hcv hcl (Nat.le_of_ble_eq_true rfl) (Nat.le_of_ble_eq_true rfl) ⟨⟨0, rfl, by rw [ho]; rfl⟩, rfl, rfl⟩
  obtain ⟨ck_1, rfl, rfl, rfl⟩ := hp
  refine W.eq (g2 := F0 m 5 ls [.ref (ah ((Int32.toNatClampNeg p0) + 3))]) rfl ?_
  have hc_2 : zc L f (ah ((Int32.toNatClampNeg p0) + 3)) (.inr (0, zwf (wn (Int32.toNatClampNeg p0)))) := hE.1 ((Int32.toNatClampNeg p0) + 3) (by have := vp_lt ck_1.1; omega)
  have gz0 : zis σ p0 = true := (zH_is HR).mp ck_1
  have gw0 := zI_win HR.I gz0
  obtain ⟨hk0, ho0, hr0, hc0, hp0, he0, hm0⟩ := zH_win HR gz0
  refine zr_get (C := RX0) (T := TX0) (N := 8) (v := .int (zwp (wn (Int32.toNatClampNeg p0)))) hx hb hts hi_X1_place_X0 hown hw hc_2 rfl 5 (by decide) hf_X1_place_63 rfl dX1_place_5 ?_
  have ho : (o_place σ p0) = (0, zPL σ (Int32.toNatClampNeg p0), σ) := by unfold o_place; exact if_pos (show (zis σ p0 = true) from by assumption)
  exact z_iret hx hb hr hlocks hw (Nat.le_of_ble_eq_true rfl) (Nat.le_of_ble_eq_true rfl) dX1_place_8 ⟨by rw [ho], by rw [ho]; exact congrArg (fun z => some (Value.int z)) (show (zPL σ (Int32.toNatClampNeg p0) : Int32) = (zwp (wn (Int32.toNatClampNeg p0))) from (by first | rfl | simp only [hk0, ho0, hr0, hc0, hp0, he0, hm0])), by rw [ho]; exact ⟨ah, G, Rw, rs, _, ad, _, _, _, rfl, HR⟩, fun _ _ => rfl⟩

theorem hi_X1_end_X0 : ∀ w ∈ wsX00, w ∈ wsX1_end := by decide +kernel
theorem hf_X1_end_74 : Cond.fieldLink RX1 74 (TX0 6).1 (TX0 6).2.1 (TX0 6).2.2.1 ∈ wsX1_end := by decide +kernel
set_option maxRecDepth 100000 in
set_option maxHeartbeats 4000000 in
theorem c_X1_end (l : Launch) (hl0 : l.stackTraces = false) (g : zG) (L : List Nat) (f : Nat → va_E) (h : Nat) (P : Nat → Prop) (σ : ZS) (p0 : Int32) (hH : zHC g h P σ L f) : zC l yX1_end wsX1_end { frames := 9, cells := 2, slots := 12, locals := 146 } 2 12 g [.ref h, .int p0] L f (fun r L1 f1 => (o_end σ p0).1 = 0 ∧ some (.int (o_end σ p0).2.1) = r ∧ zHC g h P (o_end σ p0).2.2 L1 f1 ∧ ∀ b, P b → f1 b = f b) (fun E L1 f1 => zXe ["java/lang/IndexOutOfBoundsException"] (o_end σ p0).1 E ∧ L = L1 ∧ f = f1) := by
  obtain ⟨ah, G, Rw, rs, wn, ad, ln, kd, ct, rfl, HR⟩ := hH
  obtain ⟨hE, hG, hRw, -⟩ := id HR
  refine z_ofW (cc := cX1_end) (maxL := 2) (ret := (some .int)) (by decide) rfl (Nat.le_of_ble_eq_true rfl) ?_
  intro p e s m args below meth c ls A hx hb hr hts hown hlocks hml htab hin hw hX hl
  have hl : lv_has ls 2 [(0, .ref (ah 0)), (1, .int p0)] := hl
  have hown : s.vm.findClass RX1 = some m.cls := hown
  refine lv_aload_n hx hb dX1_end_0 rfl (lv_at hl 0 rfl) ?_
  refine lv_iload_n hx hb dX1_end_1 rfl (lv_at hl 1 rfl) ?_
  refine z_callV (As := [.int p0]) (rest := []) ⟨hx, hb, hml, hown, hts⟩ hw hX (hE.1 0 (by decide)) rfl (c_X1_windowOf l hl0 g L f ah G Rw rs wn p0 hE hG hRw) (cwV 1 hts gX1_end_X1_windowOf rfl rfl rfl (by decide +kernel) ⟨(Nat.le_of_ble_eq_true rfl), (Nat.le_of_ble_eq_true rfl)⟩) rfl hl.1 rfl (Nat.le_of_ble_eq_true rfl) dX1_end_2 ⟨(Nat.le_of_ble_eq_true rfl), (Nat.le_of_ble_eq_true rfl)⟩ (fun E ce q9 L9 f9 H locs hp hw hce hcv hcl => ?_) (fun r9 L9 f9 H locs hp hw => ?_)
  · obtain ⟨ck_1, rfl, rfl, rfl⟩ := hp
    have gz : ¬ zis σ p0 = true := fun q => ck_1 ((zH_is HR).mpr q)
    have ho : (o_end σ p0) = (1, 0, σ) := by unfold o_end; first | exact if_neg (show ¬ (zis σ p0 = true) from by assumption)
    exact z_out htab hlocks hw hce hcv hcl (Nat.le_of_ble_eq_true rfl) (Nat.le_of_ble_eq_true rfl) ⟨⟨0, rfl, by rw [ho]; rfl⟩, rfl, rfl⟩
  obtain ⟨ck_1, rfl, rfl, rfl⟩ := hp
  refine W.eq (g2 := F0 m 5 ls [.ref (ah ((Int32.toNatClampNeg p0) + 3))]) rfl ?_
  have hc_2 : zc L f (ah ((Int32.toNatClampNeg p0) + 3)) (.inr (0, zwf (wn (Int32.toNatClampNeg p0)))) := hE.1 ((Int32.toNatClampNeg p0) + 3) (by have := vp_lt ck_1.1; omega)
  have gz0 : zis σ p0 = true := (zH_is HR).mp ck_1
  have gw0 := zI_win HR.I gz0
  obtain ⟨hk0, ho0, hr0, hc0, hp0, he0, hm0⟩ := zH_win HR gz0
  refine zr_get (C := RX0) (T := TX0) (N := 8) (v := .int (zwe (wn (Int32.toNatClampNeg p0)))) hx hb hts hi_X1_end_X0 hown hw hc_2 rfl 6 (by decide) hf_X1_end_74 rfl dX1_end_5 ?_
  have ho : (o_end σ p0) = (0, zEN σ (Int32.toNatClampNeg p0), σ) := by unfold o_end; exact if_pos (show (zis σ p0 = true) from by assumption)
  exact z_iret hx hb hr hlocks hw (Nat.le_of_ble_eq_true rfl) (Nat.le_of_ble_eq_true rfl) dX1_end_8 ⟨by rw [ho], by rw [ho]; exact congrArg (fun z => some (Value.int z)) (show (zEN σ (Int32.toNatClampNeg p0) : Int32) = (zwe (wn (Int32.toNatClampNeg p0))) from (by first | rfl | simp only [hk0, ho0, hr0, hc0, hp0, he0, hm0])), by rw [ho]; exact ⟨ah, G, Rw, rs, _, ad, _, _, _, rfl, HR⟩, fun _ _ => rfl⟩

set_option maxRecDepth 100000 in
set_option maxHeartbeats 4000000 in
theorem c_X1_left (l : Launch) (hl0 : l.stackTraces = false) (g : zG) (L : List Nat) (f : Nat → va_E) (h : Nat) (P : Nat → Prop) (σ : ZS) (p0 : Int32) (hH : zHC g h P σ L f) : zC l yX1_left wsX1_left { frames := 9, cells := 2, slots := 12, locals := 146 } 2 12 g [.ref h, .int p0] L f (fun r L1 f1 => (o_left σ p0).1 = 0 ∧ some (.int (o_left σ p0).2.1) = r ∧ zHC g h P (o_left σ p0).2.2 L1 f1 ∧ ∀ b, P b → f1 b = f b) (fun E L1 f1 => zXe ["java/lang/IndexOutOfBoundsException"] (o_left σ p0).1 E ∧ L = L1 ∧ f = f1) := by
  obtain ⟨ah, G, Rw, rs, wn, ad, ln, kd, ct, rfl, HR⟩ := hH
  obtain ⟨hE, hG, hRw, -⟩ := id HR
  refine z_ofW (cc := cX1_left) (maxL := 2) (ret := (some .int)) (by decide) rfl (Nat.le_of_ble_eq_true rfl) ?_
  intro p e s m args below meth c ls A hx hb hr hts hown hlocks hml htab hin hw hX hl
  have hl : lv_has ls 2 [(0, .ref (ah 0)), (1, .int p0)] := hl
  have hown : s.vm.findClass RX1 = some m.cls := hown
  refine lv_aload_n hx hb dX1_left_0 rfl (lv_at hl 0 rfl) ?_
  refine lv_iload_n hx hb dX1_left_1 rfl (lv_at hl 1 rfl) ?_
  refine z_callV (As := [.int p0]) (rest := []) ⟨hx, hb, hml, hown, hts⟩ hw hX (hE.1 0 (by decide)) rfl (c_X1_windowOf l hl0 g L f ah G Rw rs wn p0 hE hG hRw) (cwV 1 hts gX1_left_X1_windowOf rfl rfl rfl (by decide +kernel) ⟨(Nat.le_of_ble_eq_true rfl), (Nat.le_of_ble_eq_true rfl)⟩) rfl hl.1 rfl (Nat.le_of_ble_eq_true rfl) dX1_left_2 ⟨(Nat.le_of_ble_eq_true rfl), (Nat.le_of_ble_eq_true rfl)⟩ (fun E ce q9 L9 f9 H locs hp hw hce hcv hcl => ?_) (fun r9 L9 f9 H locs hp hw => ?_)
  · obtain ⟨ck_1, rfl, rfl, rfl⟩ := hp
    have gz : ¬ zis σ p0 = true := fun q => ck_1 ((zH_is HR).mpr q)
    have ho : (o_left σ p0) = (1, 0, σ) := by unfold o_left; first | exact if_neg (show ¬ (zis σ p0 = true) from by assumption)
    exact z_out htab hlocks hw hce hcv hcl (Nat.le_of_ble_eq_true rfl) (Nat.le_of_ble_eq_true rfl) ⟨⟨0, rfl, by rw [ho]; rfl⟩, rfl, rfl⟩
  obtain ⟨ck_1, rfl, rfl, rfl⟩ := hp
  refine W.eq (g2 := F0 m 5 ls [.ref (ah ((Int32.toNatClampNeg p0) + 3))]) rfl ?_
  have hc_2 : zc L f (ah ((Int32.toNatClampNeg p0) + 3)) (.inr (0, zwf (wn (Int32.toNatClampNeg p0)))) := hE.1 ((Int32.toNatClampNeg p0) + 3) (by have := vp_lt ck_1.1; omega)
  have gz0 : zis σ p0 = true := (zH_is HR).mp ck_1
  have gw0 := zI_win HR.I gz0
  obtain ⟨hk0, ho0, hr0, hc0, hp0, he0, hm0⟩ := zH_win HR gz0
  refine z_callV (As := []) (rest := []) ⟨hx, hb, hml, hown, hts⟩ hw hX hc_2 rfl (c_X0_rest l g L f (ah ((Int32.toNatClampNeg p0) + 3)) ((zwk (wn (Int32.toNatClampNeg p0))), (zwo (wn (Int32.toNatClampNeg p0))), (zws (wn (Int32.toNatClampNeg p0))), (zwr (wn (Int32.toNatClampNeg p0))), (zwc (wn (Int32.toNatClampNeg p0))), (zwp (wn (Int32.toNatClampNeg p0))), (zwe (wn (Int32.toNatClampNeg p0))), (zwm (wn (Int32.toNatClampNeg p0)))) hc_2) (cwV 0 hts gX1_left_X0_rest rfl rfl rfl (by decide +kernel) ⟨(Nat.le_of_ble_eq_true rfl), (Nat.le_of_ble_eq_true rfl)⟩) rfl hl.1 rfl (Nat.le_of_ble_eq_true rfl) dX1_left_5 ⟨(Nat.le_of_ble_eq_true rfl), (Nat.le_of_ble_eq_true rfl)⟩ (fun _ _ _ _ _ _ _ hp => False.elim hp) (fun r9 L9 f9 H locs hp hw => ?_)
  obtain ⟨rfl, rfl, rfl⟩ := hp
  refine W.eq (g2 := F0 m 8 ls [.int ((zwe (wn (Int32.toNatClampNeg p0))) - (zwp (wn (Int32.toNatClampNeg p0))))]) rfl ?_
  have ho : (o_left σ p0) = (0, zEN σ (Int32.toNatClampNeg p0) - zPL σ (Int32.toNatClampNeg p0), σ) := by unfold o_left; exact if_pos (show (zis σ p0 = true) from by assumption)
  exact z_iret hx hb hr hlocks hw (Nat.le_of_ble_eq_true rfl) (Nat.le_of_ble_eq_true rfl) dX1_left_8 ⟨by rw [ho], by rw [ho]; exact congrArg (fun z => some (Value.int z)) (show (zEN σ (Int32.toNatClampNeg p0) - zPL σ (Int32.toNatClampNeg p0) : Int32) = ((zwe (wn (Int32.toNatClampNeg p0))) - (zwp (wn (Int32.toNatClampNeg p0)))) from (by first | rfl | simp only [hk0, ho0, hr0, hc0, hp0, he0, hm0])), by rw [ho]; exact ⟨ah, G, Rw, rs, _, ad, _, _, _, rfl, HR⟩, fun _ _ => rfl⟩

set_option maxRecDepth 100000 in
set_option maxHeartbeats 4000000 in
theorem c_X1_signsLeft (l : Launch) (hl0 : l.stackTraces = false) (g : zG) (L : List Nat) (f : Nat → va_E) (h : Nat) (P : Nat → Prop) (σ : ZS) (p0 : Int32) (hH : zHC g h P σ L f) : zC l yX1_signsLeft wsX1_signsLeft { frames := 9, cells := 3, slots := 18, locals := 146 } 3 18 g [.ref h, .int p0] L f (fun r L1 f1 => (o_signsLeft σ p0).1 = 0 ∧ some (.int (o_signsLeft σ p0).2.1) = r ∧ zHC g h P (o_signsLeft σ p0).2.2 L1 f1 ∧ ∀ b, P b → f1 b = f b) (fun E L1 f1 => zXe ["java/lang/IndexOutOfBoundsException", "java/lang/UnsupportedOperationException"] (o_signsLeft σ p0).1 E ∧ L = L1 ∧ f = f1) := by
  obtain ⟨ah, G, Rw, rs, wn, ad, ln, kd, ct, rfl, HR⟩ := hH
  obtain ⟨hE, hG, hRw, -⟩ := id HR
  refine z_ofW (cc := cX1_signsLeft) (maxL := 3) (ret := (some .int)) (by decide) rfl (Nat.le_of_ble_eq_true rfl) ?_
  intro p e s m args below meth c ls A hx hb hr hts hown hlocks hml htab hin hw hX hl
  have hl : lv_has ls 3 [(0, .ref (ah 0)), (1, .int p0)] := hl
  have hown : s.vm.findClass RX1 = some m.cls := hown
  refine lv_aload_n hx hb dX1_signsLeft_0 rfl (lv_at hl 0 rfl) ?_
  refine lv_iload_n hx hb dX1_signsLeft_1 rfl (lv_at hl 1 rfl) ?_
  refine z_callV (As := [.int p0]) (rest := []) ⟨hx, hb, hml, hown, hts⟩ hw hX (hE.1 0 (by decide)) rfl (c_X1_windowOf l hl0 g L f ah G Rw rs wn p0 hE hG hRw) (cwV 1 hts gX1_signsLeft_X1_windowOf rfl rfl rfl (by decide +kernel) ⟨(Nat.le_of_ble_eq_true rfl), (Nat.le_of_ble_eq_true rfl)⟩) rfl hl.1 rfl (Nat.le_of_ble_eq_true rfl) dX1_signsLeft_2 ⟨(Nat.le_of_ble_eq_true rfl), (Nat.le_of_ble_eq_true rfl)⟩ (fun E ce q9 L9 f9 H locs hp hw hce hcv hcl => ?_) (fun r9 L9 f9 H locs hp hw => ?_)
  · obtain ⟨ck_1, rfl, rfl, rfl⟩ := hp
    have gz : ¬ zis σ p0 = true := fun q => ck_1 ((zH_is HR).mpr q)
    have ho : (o_signsLeft σ p0) = (1, 0, σ) := by unfold o_signsLeft; first | exact if_neg (show ¬ (zis σ p0 = true) from by assumption)
    exact z_out htab hlocks hw hce hcv hcl (Nat.le_of_ble_eq_true rfl) (Nat.le_of_ble_eq_true rfl) ⟨⟨0, rfl, by rw [ho]; rfl⟩, rfl, rfl⟩
  obtain ⟨ck_1, rfl, rfl, rfl⟩ := hp
  refine W.eq (g2 := F0 m 5 ls [.ref (ah ((Int32.toNatClampNeg p0) + 3))]) rfl ?_
  have hc_2 : zc L f (ah ((Int32.toNatClampNeg p0) + 3)) (.inr (0, zwf (wn (Int32.toNatClampNeg p0)))) := hE.1 ((Int32.toNatClampNeg p0) + 3) (by have := vp_lt ck_1.1; omega)
  have gz0 : zis σ p0 = true := (zH_is HR).mp ck_1
  have gw0 := zI_win HR.I gz0
  obtain ⟨hk0, ho0, hr0, hc0, hp0, he0, hm0⟩ := zH_win HR gz0
  refine lv_astore_n (lv' := [(2, .ref (ah ((Int32.toNatClampNeg p0) + 3))), (0, .ref (ah 0)), (1, .int p0)]) hx hb dX1_signsLeft_5 rfl hl (by decide) rfl (fun ls hl => ?_)
  refine lv_aload_n hx hb dX1_signsLeft_6 rfl (lv_at hl 0 rfl) ?_
  refine z_callS (As := [.ref (ah ((Int32.toNatClampNeg p0) + 3))]) (rest := []) ⟨hx, hb, hml, hown, hts⟩ hw hX (c_X1_checkOfChars l hl0 g L f (ah ((Int32.toNatClampNeg p0) + 3)) ((zwk (wn (Int32.toNatClampNeg p0))), (zwo (wn (Int32.toNatClampNeg p0))), (zws (wn (Int32.toNatClampNeg p0))), (zwr (wn (Int32.toNatClampNeg p0))), (zwc (wn (Int32.toNatClampNeg p0))), (zwp (wn (Int32.toNatClampNeg p0))), (zwe (wn (Int32.toNatClampNeg p0))), (zwm (wn (Int32.toNatClampNeg p0))))  hc_2) (va_cwS 1 hts gX1_signsLeft_X1_checkOfChars rfl rfl rfl (by decide +kernel) ⟨(Nat.le_of_ble_eq_true rfl), (Nat.le_of_ble_eq_true rfl)⟩) rfl hl.1 rfl (Nat.le_of_ble_eq_true rfl) dX1_signsLeft_7 ⟨(Nat.le_of_ble_eq_true rfl), (Nat.le_of_ble_eq_true rfl)⟩ (fun E ce q9 L9 f9 H locs hp hw hce hcv hcl => ?_) (fun r9 L9 f9 H locs hp hw => ?_)
  · obtain ⟨rfl, rfl, rfl, ck_3⟩ := hp
    have gc : ¬ zK σ (Int32.toNatClampNeg p0) = 99 := by rw [← hk0]; exact ck_3
    have ho : (o_signsLeft σ p0) = (2, 0, σ) := by unfold o_signsLeft; first | exact (if_pos (show (zis σ p0 = true) from by assumption)).trans (if_neg (show ¬ (zK σ (Int32.toNatClampNeg p0) = 99) from by assumption))
    exact z_out htab hlocks hw hce hcv hcl (Nat.le_of_ble_eq_true rfl) (Nat.le_of_ble_eq_true rfl) ⟨⟨1, rfl, by rw [ho]; rfl⟩, rfl, rfl⟩
  obtain ⟨rfl, rfl, rfl, ck_3⟩ := hp
  refine W.eq (g2 := F0 m 10 ls []) rfl ?_
  have gc : zK σ (Int32.toNatClampNeg p0) = 99 := by rw [← hk0]; exact ck_3
  refine lv_aload_n hx hb dX1_signsLeft_10 rfl (lv_at hl 0 rfl) ?_
  refine z_callV (As := []) (rest := []) ⟨hx, hb, hml, hown, hts⟩ hw hX hc_2 rfl (c_X0_rest l g L f (ah ((Int32.toNatClampNeg p0) + 3)) ((zwk (wn (Int32.toNatClampNeg p0))), (zwo (wn (Int32.toNatClampNeg p0))), (zws (wn (Int32.toNatClampNeg p0))), (zwr (wn (Int32.toNatClampNeg p0))), (zwc (wn (Int32.toNatClampNeg p0))), (zwp (wn (Int32.toNatClampNeg p0))), (zwe (wn (Int32.toNatClampNeg p0))), (zwm (wn (Int32.toNatClampNeg p0)))) hc_2) (cwV 0 hts gX1_signsLeft_X0_rest rfl rfl rfl (by decide +kernel) ⟨(Nat.le_of_ble_eq_true rfl), (Nat.le_of_ble_eq_true rfl)⟩) rfl hl.1 rfl (Nat.le_of_ble_eq_true rfl) dX1_signsLeft_11 ⟨(Nat.le_of_ble_eq_true rfl), (Nat.le_of_ble_eq_true rfl)⟩ (fun _ _ _ _ _ _ _ hp => False.elim hp) (fun r9 L9 f9 H locs hp hw => ?_)
  obtain ⟨rfl, rfl, rfl⟩ := hp
  refine W.eq (g2 := F0 m 14 ls [.int ((zwe (wn (Int32.toNatClampNeg p0))) - (zwp (wn (Int32.toNatClampNeg p0))))]) rfl ?_
  have ho : (o_signsLeft σ p0) = (0, zEN σ (Int32.toNatClampNeg p0) - zPL σ (Int32.toNatClampNeg p0), σ) := by unfold o_signsLeft; exact (if_pos (show (zis σ p0 = true) from by assumption)).trans (if_pos (show (zK σ (Int32.toNatClampNeg p0) = 99) from by assumption))
  exact z_iret hx hb hr hlocks hw (Nat.le_of_ble_eq_true rfl) (Nat.le_of_ble_eq_true rfl) dX1_signsLeft_14 ⟨by rw [ho], by rw [ho]; exact congrArg (fun z => some (Value.int z)) (show (zEN σ (Int32.toNatClampNeg p0) - zPL σ (Int32.toNatClampNeg p0) : Int32) = ((zwe (wn (Int32.toNatClampNeg p0))) - (zwp (wn (Int32.toNatClampNeg p0)))) from (by first | rfl | simp only [hk0, ho0, hr0, hc0, hp0, he0, hm0])), by rw [ho]; exact ⟨ah, G, Rw, rs, _, ad, _, _, _, rfl, HR⟩, fun _ _ => rfl⟩

theorem hi_X1_clear_X0 : ∀ w ∈ wsX00, w ∈ wsX1_clear := by decide +kernel
theorem hf_X1_clear_56 : Cond.fieldLink RX1 56 (TX0 4).1 (TX0 4).2.1 (TX0 4).2.2.1 ∈ wsX1_clear := by decide +kernel
theorem hf_X1_clear_74 : Cond.fieldLink RX1 74 (TX0 6).1 (TX0 6).2.1 (TX0 6).2.2.1 ∈ wsX1_clear := by decide +kernel
set_option maxRecDepth 100000 in
set_option maxHeartbeats 4000000 in
theorem c_X1_clear (l : Launch) (hl0 : l.stackTraces = false) (g : zG) (L : List Nat) (f : Nat → va_E) (h : Nat) (P : Nat → Prop) (σ : ZS) (p0 : Int32) (hH : zHC g h P σ L f) : zC l yX1_clear wsX1_clear { frames := 9, cells := 2, slots := 12, locals := 146 } 2 12 g [.ref h, .int p0] L f (fun r L1 f1 => (o_clear σ p0).1 = 0 ∧ some (.int (o_clear σ p0).2.1) = r ∧ zHC g h P (o_clear σ p0).2.2 L1 f1 ∧ ∀ b, P b → f1 b = f b) (fun E L1 f1 => zXe ["java/lang/IndexOutOfBoundsException"] (o_clear σ p0).1 E ∧ L = L1 ∧ f = f1) := by
  obtain ⟨ah, G, Rw, rs, wn, ad, ln, kd, ct, rfl, HR⟩ := hH
  obtain ⟨hE, hG, hRw, -⟩ := id HR
  refine z_ofW (cc := cX1_clear) (maxL := 3) (ret := (some .int)) (by decide) rfl (Nat.le_of_ble_eq_true rfl) ?_
  intro p e s m args below meth c ls A hx hb hr hts hown hlocks hml htab hin hw hX hl
  have hl : lv_has ls 3 [(0, .ref (ah 0)), (1, .int p0)] := hl
  have hown : s.vm.findClass RX1 = some m.cls := hown
  refine lv_aload_n hx hb dX1_clear_0 rfl (lv_at hl 0 rfl) ?_
  refine lv_iload_n hx hb dX1_clear_1 rfl (lv_at hl 1 rfl) ?_
  refine z_callV (As := [.int p0]) (rest := []) ⟨hx, hb, hml, hown, hts⟩ hw hX (hE.1 0 (by decide)) rfl (c_X1_windowOf l hl0 g L f ah G Rw rs wn p0 hE hG hRw) (cwV 1 hts gX1_clear_X1_windowOf rfl rfl rfl (by decide +kernel) ⟨(Nat.le_of_ble_eq_true rfl), (Nat.le_of_ble_eq_true rfl)⟩) rfl hl.1 rfl (Nat.le_of_ble_eq_true rfl) dX1_clear_2 ⟨(Nat.le_of_ble_eq_true rfl), (Nat.le_of_ble_eq_true rfl)⟩ (fun E ce q9 L9 f9 H locs hp hw hce hcv hcl => ?_) (fun r9 L9 f9 H locs hp hw => ?_)
  · obtain ⟨ck_1, rfl, rfl, rfl⟩ := hp
    have gz : ¬ zis σ p0 = true := fun q => ck_1 ((zH_is HR).mpr q)
    have ho : (o_clear σ p0) = (1, 0, σ) := by unfold o_clear; first | exact if_neg (show ¬ (zis σ p0 = true) from by assumption)
    exact z_out htab hlocks hw hce hcv hcl (Nat.le_of_ble_eq_true rfl) (Nat.le_of_ble_eq_true rfl) ⟨⟨0, rfl, by rw [ho]; rfl⟩, rfl, rfl⟩
  obtain ⟨ck_1, rfl, rfl, rfl⟩ := hp
  refine W.eq (g2 := F0 m 5 ls [.ref (ah ((Int32.toNatClampNeg p0) + 3))]) rfl ?_
  have hc_2 : zc L f (ah ((Int32.toNatClampNeg p0) + 3)) (.inr (0, zwf (wn (Int32.toNatClampNeg p0)))) := hE.1 ((Int32.toNatClampNeg p0) + 3) (by have := vp_lt ck_1.1; omega)
  have gz0 : zis σ p0 = true := (zH_is HR).mp ck_1
  have gw0 := zI_win HR.I gz0
  obtain ⟨hk0, ho0, hr0, hc0, hp0, he0, hm0⟩ := zH_win HR gz0
  refine lv_astore_n (lv' := [(2, .ref (ah ((Int32.toNatClampNeg p0) + 3))), (0, .ref (ah 0)), (1, .int p0)]) hx hb dX1_clear_5 rfl hl (by decide) rfl (fun ls hl => ?_)
  refine lv_aload_n hx hb dX1_clear_6 rfl (lv_at hl 0 rfl) ?_
  refine lv_iconst (v := 0) hx hb dX1_clear_7 (by decide) ?_
  refine lv_aload_n hx hb dX1_clear_8 rfl (lv_at hl 0 rfl) ?_
  refine zr_get (C := RX0) (T := TX0) (N := 8) (v := .int (zwc (wn (Int32.toNatClampNeg p0)))) hx hb hts hi_X1_clear_X0 hown hw hc_2 rfl 4 (by decide) hf_X1_clear_56 rfl dX1_clear_9 ?_
  refine z_callV (As := [.int 0, .int (zwc (wn (Int32.toNatClampNeg p0)))]) (rest := []) ⟨hx, hb, hml, hown, hts⟩ hw hX hc_2 rfl (c_X0_moveTo l g L f (ah ((Int32.toNatClampNeg p0) + 3)) ((zwk (wn (Int32.toNatClampNeg p0))), (zwo (wn (Int32.toNatClampNeg p0))), (zws (wn (Int32.toNatClampNeg p0))), (zwr (wn (Int32.toNatClampNeg p0))), (zwc (wn (Int32.toNatClampNeg p0))), (zwp (wn (Int32.toNatClampNeg p0))), (zwe (wn (Int32.toNatClampNeg p0))), (zwm (wn (Int32.toNatClampNeg p0)))) 0 (zwc (wn (Int32.toNatClampNeg p0))) hc_2) (cwV 2 hts gX1_clear_X0_moveTo rfl rfl rfl (by decide +kernel) ⟨(Nat.le_of_ble_eq_true rfl), (Nat.le_of_ble_eq_true rfl)⟩) rfl hl.1 rfl (Nat.le_of_ble_eq_true rfl) dX1_clear_12 ⟨(Nat.le_of_ble_eq_true rfl), (Nat.le_of_ble_eq_true rfl)⟩ (fun _ _ _ _ _ _ _ hp => False.elim hp) (fun r9 L9 f9 H locs hp hw => ?_)
  obtain ⟨rfl, rfl, hu9⟩ := hp
  refine W.eq (g2 := F0 m 15 ls []) rfl ?_
  have hu := hu9
  obtain ⟨f_3, rfl⟩ : ∃ z, z = f9 := ⟨_, rfl⟩
  refine lv_aload_n hx hb dX1_clear_15 rfl (lv_at hl 0 rfl) ?_
  refine zr_get (C := RX0) (T := TX0) (N := 8) (v := .int (zwc (wn (Int32.toNatClampNeg p0)))) hx hb hts hi_X1_clear_X0 hown hw (zu_c (hc_2).1 hu) rfl 6 (by decide) hf_X1_clear_74 rfl dX1_clear_16 ?_
  obtain ⟨s9, p9, e9, hs9, hp9, he9, hpe9, hes9, hs64, hmk9⟩ := zW_nat gw0
  have HR2 := zHR_pem HR gz0 (x1 := ((zwk (wn (Int32.toNatClampNeg p0))), (zwo (wn (Int32.toNatClampNeg p0))), (zws (wn (Int32.toNatClampNeg p0))), (zwr (wn (Int32.toNatClampNeg p0))), (zwc (wn (Int32.toNatClampNeg p0))), 0, (zwc (wn (Int32.toNatClampNeg p0))), (-1))) (pl := 0) (en := (zSZ σ (Int32.toNatClampNeg p0))) (mk := (-1)) (by simp only [hk0, ho0, hr0, hc0, hp0, he0, hm0]) ⟨0, s9, s9, rfl, hs9, hs9, by omega, by omega, hs64, Or.inl rfl⟩
  rw [hu] at HR2
  have hfr : ∀ b, P b → f_3 b = f b := by rw [← hu]; exact zfr_win HR (by have := vp_lt (zis_7 gz0); omega)
  have ho : (o_clear σ p0) = (0, zEN (zStands σ (Int32.toNatClampNeg p0) 0 (zSZ σ (Int32.toNatClampNeg p0))) (Int32.toNatClampNeg p0), (zStands σ (Int32.toNatClampNeg p0) 0 (zSZ σ (Int32.toNatClampNeg p0)))) := by unfold o_clear; exact if_pos (show (zis σ p0 = true) from by assumption)
  exact z_iret hx hb hr hlocks hw (Nat.le_of_ble_eq_true rfl) (Nat.le_of_ble_eq_true rfl) dX1_clear_19 ⟨by rw [ho], by rw [ho]; exact congrArg (fun z => some (Value.int z)) (show (zEN (zStands σ (Int32.toNatClampNeg p0) 0 (zSZ σ (Int32.toNatClampNeg p0))) (Int32.toNatClampNeg p0) : Int32) = (zwc (wn (Int32.toNatClampNeg p0))) from (by show upd (zEN σ) (Int32.toNatClampNeg p0) (zSZ σ (Int32.toNatClampNeg p0)) (Int32.toNatClampNeg p0) = _; rw [pk_us]; simp only [hk0, ho0, hr0, hc0, hp0, he0, hm0])), by rw [ho]; exact ⟨ah, G, Rw, rs, _, ad, _, _, _, rfl, HR2⟩, hfr⟩

theorem hi_X1_flip_X0 : ∀ w ∈ wsX00, w ∈ wsX1_flip := by decide +kernel
theorem hf_X1_flip_63 : Cond.fieldLink RX1 63 (TX0 5).1 (TX0 5).2.1 (TX0 5).2.2.1 ∈ wsX1_flip := by decide +kernel
theorem hf_X1_flip_74 : Cond.fieldLink RX1 74 (TX0 6).1 (TX0 6).2.1 (TX0 6).2.2.1 ∈ wsX1_flip := by decide +kernel
set_option maxRecDepth 100000 in
set_option maxHeartbeats 4000000 in
theorem c_X1_flip (l : Launch) (hl0 : l.stackTraces = false) (g : zG) (L : List Nat) (f : Nat → va_E) (h : Nat) (P : Nat → Prop) (σ : ZS) (p0 : Int32) (hH : zHC g h P σ L f) : zC l yX1_flip wsX1_flip { frames := 9, cells := 2, slots := 12, locals := 146 } 2 12 g [.ref h, .int p0] L f (fun r L1 f1 => (o_flip σ p0).1 = 0 ∧ some (.int (o_flip σ p0).2.1) = r ∧ zHC g h P (o_flip σ p0).2.2 L1 f1 ∧ ∀ b, P b → f1 b = f b) (fun E L1 f1 => zXe ["java/lang/IndexOutOfBoundsException"] (o_flip σ p0).1 E ∧ L = L1 ∧ f = f1) := by
  obtain ⟨ah, G, Rw, rs, wn, ad, ln, kd, ct, rfl, HR⟩ := hH
  obtain ⟨hE, hG, hRw, -⟩ := id HR
  refine z_ofW (cc := cX1_flip) (maxL := 3) (ret := (some .int)) (by decide) rfl (Nat.le_of_ble_eq_true rfl) ?_
  intro p e s m args below meth c ls A hx hb hr hts hown hlocks hml htab hin hw hX hl
  have hl : lv_has ls 3 [(0, .ref (ah 0)), (1, .int p0)] := hl
  have hown : s.vm.findClass RX1 = some m.cls := hown
  refine lv_aload_n hx hb dX1_flip_0 rfl (lv_at hl 0 rfl) ?_
  refine lv_iload_n hx hb dX1_flip_1 rfl (lv_at hl 1 rfl) ?_
  refine z_callV (As := [.int p0]) (rest := []) ⟨hx, hb, hml, hown, hts⟩ hw hX (hE.1 0 (by decide)) rfl (c_X1_windowOf l hl0 g L f ah G Rw rs wn p0 hE hG hRw) (cwV 1 hts gX1_flip_X1_windowOf rfl rfl rfl (by decide +kernel) ⟨(Nat.le_of_ble_eq_true rfl), (Nat.le_of_ble_eq_true rfl)⟩) rfl hl.1 rfl (Nat.le_of_ble_eq_true rfl) dX1_flip_2 ⟨(Nat.le_of_ble_eq_true rfl), (Nat.le_of_ble_eq_true rfl)⟩ (fun E ce q9 L9 f9 H locs hp hw hce hcv hcl => ?_) (fun r9 L9 f9 H locs hp hw => ?_)
  · obtain ⟨ck_1, rfl, rfl, rfl⟩ := hp
    have gz : ¬ zis σ p0 = true := fun q => ck_1 ((zH_is HR).mpr q)
    have ho : (o_flip σ p0) = (1, 0, σ) := by unfold o_flip; first | exact if_neg (show ¬ (zis σ p0 = true) from by assumption)
    exact z_out htab hlocks hw hce hcv hcl (Nat.le_of_ble_eq_true rfl) (Nat.le_of_ble_eq_true rfl) ⟨⟨0, rfl, by rw [ho]; rfl⟩, rfl, rfl⟩
  obtain ⟨ck_1, rfl, rfl, rfl⟩ := hp
  refine W.eq (g2 := F0 m 5 ls [.ref (ah ((Int32.toNatClampNeg p0) + 3))]) rfl ?_
  have hc_2 : zc L f (ah ((Int32.toNatClampNeg p0) + 3)) (.inr (0, zwf (wn (Int32.toNatClampNeg p0)))) := hE.1 ((Int32.toNatClampNeg p0) + 3) (by have := vp_lt ck_1.1; omega)
  have gz0 : zis σ p0 = true := (zH_is HR).mp ck_1
  have gw0 := zI_win HR.I gz0
  obtain ⟨hk0, ho0, hr0, hc0, hp0, he0, hm0⟩ := zH_win HR gz0
  refine lv_astore_n (lv' := [(2, .ref (ah ((Int32.toNatClampNeg p0) + 3))), (0, .ref (ah 0)), (1, .int p0)]) hx hb dX1_flip_5 rfl hl (by decide) rfl (fun ls hl => ?_)
  refine lv_aload_n hx hb dX1_flip_6 rfl (lv_at hl 0 rfl) ?_
  refine lv_iconst (v := 0) hx hb dX1_flip_7 (by decide) ?_
  refine lv_aload_n hx hb dX1_flip_8 rfl (lv_at hl 0 rfl) ?_
  refine zr_get (C := RX0) (T := TX0) (N := 8) (v := .int (zwp (wn (Int32.toNatClampNeg p0)))) hx hb hts hi_X1_flip_X0 hown hw hc_2 rfl 5 (by decide) hf_X1_flip_63 rfl dX1_flip_9 ?_
  refine z_callV (As := [.int 0, .int (zwp (wn (Int32.toNatClampNeg p0)))]) (rest := []) ⟨hx, hb, hml, hown, hts⟩ hw hX hc_2 rfl (c_X0_moveTo l g L f (ah ((Int32.toNatClampNeg p0) + 3)) ((zwk (wn (Int32.toNatClampNeg p0))), (zwo (wn (Int32.toNatClampNeg p0))), (zws (wn (Int32.toNatClampNeg p0))), (zwr (wn (Int32.toNatClampNeg p0))), (zwc (wn (Int32.toNatClampNeg p0))), (zwp (wn (Int32.toNatClampNeg p0))), (zwe (wn (Int32.toNatClampNeg p0))), (zwm (wn (Int32.toNatClampNeg p0)))) 0 (zwp (wn (Int32.toNatClampNeg p0))) hc_2) (cwV 2 hts gX1_flip_X0_moveTo rfl rfl rfl (by decide +kernel) ⟨(Nat.le_of_ble_eq_true rfl), (Nat.le_of_ble_eq_true rfl)⟩) rfl hl.1 rfl (Nat.le_of_ble_eq_true rfl) dX1_flip_12 ⟨(Nat.le_of_ble_eq_true rfl), (Nat.le_of_ble_eq_true rfl)⟩ (fun _ _ _ _ _ _ _ hp => False.elim hp) (fun r9 L9 f9 H locs hp hw => ?_)
  obtain ⟨rfl, rfl, hu9⟩ := hp
  refine W.eq (g2 := F0 m 15 ls []) rfl ?_
  have hu := hu9
  obtain ⟨f_3, rfl⟩ : ∃ z, z = f9 := ⟨_, rfl⟩
  refine lv_aload_n hx hb dX1_flip_15 rfl (lv_at hl 0 rfl) ?_
  refine zr_get (C := RX0) (T := TX0) (N := 8) (v := .int (zwp (wn (Int32.toNatClampNeg p0)))) hx hb hts hi_X1_flip_X0 hown hw (zu_c (hc_2).1 hu) rfl 6 (by decide) hf_X1_flip_74 rfl dX1_flip_16 ?_
  obtain ⟨s9, p9, e9, hs9, hp9, he9, hpe9, hes9, hs64, hmk9⟩ := zW_nat gw0
  have HR2 := zHR_pem HR gz0 (x1 := ((zwk (wn (Int32.toNatClampNeg p0))), (zwo (wn (Int32.toNatClampNeg p0))), (zws (wn (Int32.toNatClampNeg p0))), (zwr (wn (Int32.toNatClampNeg p0))), (zwc (wn (Int32.toNatClampNeg p0))), 0, (zwp (wn (Int32.toNatClampNeg p0))), (-1))) (pl := 0) (en := (zPL σ (Int32.toNatClampNeg p0))) (mk := (-1)) (by simp only [hk0, ho0, hr0, hc0, hp0, he0, hm0]) ⟨0, p9, s9, rfl, hp9, hs9, by omega, by omega, hs64, Or.inl rfl⟩
  rw [hu] at HR2
  have hfr : ∀ b, P b → f_3 b = f b := by rw [← hu]; exact zfr_win HR (by have := vp_lt (zis_7 gz0); omega)
  have ho : (o_flip σ p0) = (0, zEN (zStands σ (Int32.toNatClampNeg p0) 0 (zPL σ (Int32.toNatClampNeg p0))) (Int32.toNatClampNeg p0), (zStands σ (Int32.toNatClampNeg p0) 0 (zPL σ (Int32.toNatClampNeg p0)))) := by unfold o_flip; exact if_pos (show (zis σ p0 = true) from by assumption)
  exact z_iret hx hb hr hlocks hw (Nat.le_of_ble_eq_true rfl) (Nat.le_of_ble_eq_true rfl) dX1_flip_19 ⟨by rw [ho], by rw [ho]; exact congrArg (fun z => some (Value.int z)) (show (zEN (zStands σ (Int32.toNatClampNeg p0) 0 (zPL σ (Int32.toNatClampNeg p0))) (Int32.toNatClampNeg p0) : Int32) = (zwp (wn (Int32.toNatClampNeg p0))) from (by show upd (zEN σ) (Int32.toNatClampNeg p0) (zPL σ (Int32.toNatClampNeg p0)) (Int32.toNatClampNeg p0) = _; rw [pk_us]; simp only [hk0, ho0, hr0, hc0, hp0, he0, hm0])), by rw [ho]; exact ⟨ah, G, Rw, rs, _, ad, _, _, _, rfl, HR2⟩, hfr⟩

theorem hi_X1_rewind_X0 : ∀ w ∈ wsX00, w ∈ wsX1_rewind := by decide +kernel
theorem hf_X1_rewind_74 : Cond.fieldLink RX1 74 (TX0 6).1 (TX0 6).2.1 (TX0 6).2.2.1 ∈ wsX1_rewind := by decide +kernel
set_option maxRecDepth 100000 in
set_option maxHeartbeats 4000000 in
theorem c_X1_rewind (l : Launch) (hl0 : l.stackTraces = false) (g : zG) (L : List Nat) (f : Nat → va_E) (h : Nat) (P : Nat → Prop) (σ : ZS) (p0 : Int32) (hH : zHC g h P σ L f) : zC l yX1_rewind wsX1_rewind { frames := 9, cells := 2, slots := 12, locals := 146 } 2 12 g [.ref h, .int p0] L f (fun r L1 f1 => (o_rewind σ p0).1 = 0 ∧ some (.int (o_rewind σ p0).2.1) = r ∧ zHC g h P (o_rewind σ p0).2.2 L1 f1 ∧ ∀ b, P b → f1 b = f b) (fun E L1 f1 => zXe ["java/lang/IndexOutOfBoundsException"] (o_rewind σ p0).1 E ∧ L = L1 ∧ f = f1) := by
  obtain ⟨ah, G, Rw, rs, wn, ad, ln, kd, ct, rfl, HR⟩ := hH
  obtain ⟨hE, hG, hRw, -⟩ := id HR
  refine z_ofW (cc := cX1_rewind) (maxL := 3) (ret := (some .int)) (by decide) rfl (Nat.le_of_ble_eq_true rfl) ?_
  intro p e s m args below meth c ls A hx hb hr hts hown hlocks hml htab hin hw hX hl
  have hl : lv_has ls 3 [(0, .ref (ah 0)), (1, .int p0)] := hl
  have hown : s.vm.findClass RX1 = some m.cls := hown
  refine lv_aload_n hx hb dX1_rewind_0 rfl (lv_at hl 0 rfl) ?_
  refine lv_iload_n hx hb dX1_rewind_1 rfl (lv_at hl 1 rfl) ?_
  refine z_callV (As := [.int p0]) (rest := []) ⟨hx, hb, hml, hown, hts⟩ hw hX (hE.1 0 (by decide)) rfl (c_X1_windowOf l hl0 g L f ah G Rw rs wn p0 hE hG hRw) (cwV 1 hts gX1_rewind_X1_windowOf rfl rfl rfl (by decide +kernel) ⟨(Nat.le_of_ble_eq_true rfl), (Nat.le_of_ble_eq_true rfl)⟩) rfl hl.1 rfl (Nat.le_of_ble_eq_true rfl) dX1_rewind_2 ⟨(Nat.le_of_ble_eq_true rfl), (Nat.le_of_ble_eq_true rfl)⟩ (fun E ce q9 L9 f9 H locs hp hw hce hcv hcl => ?_) (fun r9 L9 f9 H locs hp hw => ?_)
  · obtain ⟨ck_1, rfl, rfl, rfl⟩ := hp
    have gz : ¬ zis σ p0 = true := fun q => ck_1 ((zH_is HR).mpr q)
    have ho : (o_rewind σ p0) = (1, 0, σ) := by unfold o_rewind; first | exact if_neg (show ¬ (zis σ p0 = true) from by assumption)
    exact z_out htab hlocks hw hce hcv hcl (Nat.le_of_ble_eq_true rfl) (Nat.le_of_ble_eq_true rfl) ⟨⟨0, rfl, by rw [ho]; rfl⟩, rfl, rfl⟩
  obtain ⟨ck_1, rfl, rfl, rfl⟩ := hp
  refine W.eq (g2 := F0 m 5 ls [.ref (ah ((Int32.toNatClampNeg p0) + 3))]) rfl ?_
  have hc_2 : zc L f (ah ((Int32.toNatClampNeg p0) + 3)) (.inr (0, zwf (wn (Int32.toNatClampNeg p0)))) := hE.1 ((Int32.toNatClampNeg p0) + 3) (by have := vp_lt ck_1.1; omega)
  have gz0 : zis σ p0 = true := (zH_is HR).mp ck_1
  have gw0 := zI_win HR.I gz0
  obtain ⟨hk0, ho0, hr0, hc0, hp0, he0, hm0⟩ := zH_win HR gz0
  refine lv_astore_n (lv' := [(2, .ref (ah ((Int32.toNatClampNeg p0) + 3))), (0, .ref (ah 0)), (1, .int p0)]) hx hb dX1_rewind_5 rfl hl (by decide) rfl (fun ls hl => ?_)
  refine lv_aload_n hx hb dX1_rewind_6 rfl (lv_at hl 0 rfl) ?_
  refine lv_iconst (v := 0) hx hb dX1_rewind_7 (by decide) ?_
  refine lv_aload_n hx hb dX1_rewind_8 rfl (lv_at hl 0 rfl) ?_
  refine zr_get (C := RX0) (T := TX0) (N := 8) (v := .int (zwe (wn (Int32.toNatClampNeg p0)))) hx hb hts hi_X1_rewind_X0 hown hw hc_2 rfl 6 (by decide) hf_X1_rewind_74 rfl dX1_rewind_9 ?_
  refine z_callV (As := [.int 0, .int (zwe (wn (Int32.toNatClampNeg p0)))]) (rest := []) ⟨hx, hb, hml, hown, hts⟩ hw hX hc_2 rfl (c_X0_moveTo l g L f (ah ((Int32.toNatClampNeg p0) + 3)) ((zwk (wn (Int32.toNatClampNeg p0))), (zwo (wn (Int32.toNatClampNeg p0))), (zws (wn (Int32.toNatClampNeg p0))), (zwr (wn (Int32.toNatClampNeg p0))), (zwc (wn (Int32.toNatClampNeg p0))), (zwp (wn (Int32.toNatClampNeg p0))), (zwe (wn (Int32.toNatClampNeg p0))), (zwm (wn (Int32.toNatClampNeg p0)))) 0 (zwe (wn (Int32.toNatClampNeg p0))) hc_2) (cwV 2 hts gX1_rewind_X0_moveTo rfl rfl rfl (by decide +kernel) ⟨(Nat.le_of_ble_eq_true rfl), (Nat.le_of_ble_eq_true rfl)⟩) rfl hl.1 rfl (Nat.le_of_ble_eq_true rfl) dX1_rewind_12 ⟨(Nat.le_of_ble_eq_true rfl), (Nat.le_of_ble_eq_true rfl)⟩ (fun _ _ _ _ _ _ _ hp => False.elim hp) (fun r9 L9 f9 H locs hp hw => ?_)
  obtain ⟨rfl, rfl, hu9⟩ := hp
  refine W.eq (g2 := F0 m 15 ls []) rfl ?_
  have hu := hu9
  obtain ⟨f_3, rfl⟩ : ∃ z, z = f9 := ⟨_, rfl⟩
  refine lv_aload_n hx hb dX1_rewind_15 rfl (lv_at hl 0 rfl) ?_
  refine z_callV (As := []) (rest := []) ⟨hx, hb, hml, hown, hts⟩ hw hX (zu_c (hc_2).1 hu) rfl (c_X0_rest l g L f_3 (ah ((Int32.toNatClampNeg p0) + 3)) ((zwk (wn (Int32.toNatClampNeg p0))), (zwo (wn (Int32.toNatClampNeg p0))), (zws (wn (Int32.toNatClampNeg p0))), (zwr (wn (Int32.toNatClampNeg p0))), (zwc (wn (Int32.toNatClampNeg p0))), 0, (zwe (wn (Int32.toNatClampNeg p0))), (-1)) (zu_c (hc_2).1 hu)) (cwV 0 hts gX1_rewind_X0_rest rfl rfl rfl (by decide +kernel) ⟨(Nat.le_of_ble_eq_true rfl), (Nat.le_of_ble_eq_true rfl)⟩) rfl hl.1 rfl (Nat.le_of_ble_eq_true rfl) dX1_rewind_16 ⟨(Nat.le_of_ble_eq_true rfl), (Nat.le_of_ble_eq_true rfl)⟩ (fun _ _ _ _ _ _ _ hp => False.elim hp) (fun r9 L9 f9 H locs hp hw => ?_)
  obtain ⟨rfl, rfl, rfl⟩ := hp
  refine W.eq (g2 := F0 m 19 ls [.int ((zwe (wn (Int32.toNatClampNeg p0))) - 0)]) rfl ?_
  obtain ⟨s9, p9, e9, hs9, hp9, he9, hpe9, hes9, hs64, hmk9⟩ := zW_nat gw0
  have HR2 := zHR_pem HR gz0 (x1 := ((zwk (wn (Int32.toNatClampNeg p0))), (zwo (wn (Int32.toNatClampNeg p0))), (zws (wn (Int32.toNatClampNeg p0))), (zwr (wn (Int32.toNatClampNeg p0))), (zwc (wn (Int32.toNatClampNeg p0))), 0, (zwe (wn (Int32.toNatClampNeg p0))), (-1))) (pl := 0) (en := (zEN σ (Int32.toNatClampNeg p0))) (mk := (-1)) (by simp only [hk0, ho0, hr0, hc0, hp0, he0, hm0]) ⟨0, e9, s9, rfl, he9, hs9, by omega, by omega, hs64, Or.inl rfl⟩
  rw [hu] at HR2
  have hfr : ∀ b, P b → f_3 b = f b := by rw [← hu]; exact zfr_win HR (by have := vp_lt (zis_7 gz0); omega)
  have ho : (o_rewind σ p0) = (0, zEN (zStands σ (Int32.toNatClampNeg p0) 0 (zEN σ (Int32.toNatClampNeg p0))) (Int32.toNatClampNeg p0), (zStands σ (Int32.toNatClampNeg p0) 0 (zEN σ (Int32.toNatClampNeg p0)))) := by unfold o_rewind; exact if_pos (show (zis σ p0 = true) from by assumption)
  exact z_iret hx hb hr hlocks hw (Nat.le_of_ble_eq_true rfl) (Nat.le_of_ble_eq_true rfl) dX1_rewind_19 ⟨by rw [ho], by rw [ho]; exact congrArg (fun z => some (Value.int z)) (show (zEN (zStands σ (Int32.toNatClampNeg p0) 0 (zEN σ (Int32.toNatClampNeg p0))) (Int32.toNatClampNeg p0) : Int32) = ((zwe (wn (Int32.toNatClampNeg p0))) - 0) from (by show upd (zEN σ) (Int32.toNatClampNeg p0) (zEN σ (Int32.toNatClampNeg p0)) (Int32.toNatClampNeg p0) = _; rw [pk_us, he0, Int32.sub_zero])), by rw [ho]; exact ⟨ah, G, Rw, rs, _, ad, _, _, _, rfl, HR2⟩, hfr⟩
