theorem hi_X0_isThere_X0 : ∀ w ∈ wsX00, w ∈ wsX0_isThere := by decide +kernel
theorem hf_X0_isThere_9 : Cond.fieldLink RX0 9 (TX0 0).1 (TX0 0).2.1 (TX0 0).2.2.1 ∈ wsX0_isThere := by decide +kernel
set_option maxRecDepth 100000 in
set_option maxHeartbeats 4000000 in
theorem c_X0_isThere (l : Launch) (g : zG) (L : List Nat) (f : Nat → va_E) (a : Nat) (x : ZW) (hc : zc L f a (.inr (0, zwf x))) : zC l yX0_isThere wsX0_isThere { frames := 0, cells := 0, slots := 0, locals := 0 } 0 0 g [.ref a] L f (fun r L1 f1 => some (.int (zb (decide (¬ zwk x = 45)))) = r ∧ L = L1 ∧ f = f1) zNo := by
  refine z_ofW (cc := cX0_isThere) (maxL := 1) (ret := (some .boolean)) (by decide) rfl (Nat.le_of_ble_eq_true rfl) ?_
  intro p e s m args below meth c ls A hx hb hr hts hown hlocks hml htab hin hw hX hl
  have hl : lv_has ls 1 [(0, .ref a)] := hl
  have hown : s.vm.findClass RX0 = some m.cls := hown
  refine lv_aload_n hx hb dX0_isThere_0 rfl (lv_at hl 0 rfl) ?_
  refine zr_get (C := RX0) (T := TX0) (N := 8) (v := .int (zwk x)) hx hb hts hi_X0_isThere_X0 hown hw hc rfl 0 (by decide) hf_X0_isThere_9 rfl dX0_isThere_1 ?_
  refine lv_bipush (v := 45) hx hb dX0_isThere_4 (by decide) ?_
  refine lv_icmp_eq (tgt := 13) hx hb dX0_isThere_6 (by decide) (fun c_1 => ?_) (fun c_1 => ?_)
  · refine lv_iconst (v := 0) hx hb dX0_isThere_13 (by decide) ?_
    exact z_zret hx hb hr hlocks rfl hw (Nat.le_of_ble_eq_true rfl) (Nat.le_of_ble_eq_true rfl) dX0_isThere_14 ⟨congrArg (fun b => some (Value.int (zb b))) (decide_eq_false (fun h => h c_1)), rfl, rfl⟩
  · refine lv_iconst (v := 1) hx hb dX0_isThere_9 (by decide) ?_
    refine lv_goto (tgt := 14) hx hb dX0_isThere_10 (by decide) ?_
    exact z_zret hx hb hr hlocks rfl hw (Nat.le_of_ble_eq_true rfl) (Nat.le_of_ble_eq_true rfl) dX0_isThere_14 ⟨congrArg (fun b => some (Value.int (zb b))) (decide_eq_true c_1), rfl, rfl⟩

theorem hi_X0_rest_X0 : ∀ w ∈ wsX00, w ∈ wsX0_rest := by decide +kernel
theorem hf_X0_rest_23 : Cond.fieldLink RX0 23 (TX0 6).1 (TX0 6).2.1 (TX0 6).2.2.1 ∈ wsX0_rest := by decide +kernel
theorem hf_X0_rest_26 : Cond.fieldLink RX0 26 (TX0 5).1 (TX0 5).2.1 (TX0 5).2.2.1 ∈ wsX0_rest := by decide +kernel
set_option maxRecDepth 100000 in
set_option maxHeartbeats 4000000 in
theorem c_X0_rest (l : Launch) (g : zG) (L : List Nat) (f : Nat → va_E) (a : Nat) (x : ZW) (hc : zc L f a (.inr (0, zwf x))) : zC l yX0_rest wsX0_rest { frames := 0, cells := 0, slots := 0, locals := 0 } 0 0 g [.ref a] L f (fun r L1 f1 => some (.int (zwe x - zwp x)) = r ∧ L = L1 ∧ f = f1) zNo := by
  refine z_ofW (cc := cX0_rest) (maxL := 1) (ret := (some .int)) (by decide) rfl (Nat.le_of_ble_eq_true rfl) ?_
  intro p e s m args below meth c ls A hx hb hr hts hown hlocks hml htab hin hw hX hl
  have hl : lv_has ls 1 [(0, .ref a)] := hl
  have hown : s.vm.findClass RX0 = some m.cls := hown
  refine lv_aload_n hx hb dX0_rest_0 rfl (lv_at hl 0 rfl) ?_
  refine zr_get (C := RX0) (T := TX0) (N := 8) (v := .int (zwe x)) hx hb hts hi_X0_rest_X0 hown hw hc rfl 6 (by decide) hf_X0_rest_23 rfl dX0_rest_1 ?_
  refine lv_aload_n hx hb dX0_rest_4 rfl (lv_at hl 0 rfl) ?_
  refine zr_get (C := RX0) (T := TX0) (N := 8) (v := .int (zwp x)) hx hb hts hi_X0_rest_X0 hown hw hc rfl 5 (by decide) hf_X0_rest_26 rfl dX0_rest_5 ?_
  refine lv_isub hx hb dX0_rest_8 ?_
  exact z_iret hx hb hr hlocks hw (Nat.le_of_ble_eq_true rfl) (Nat.le_of_ble_eq_true rfl) dX0_rest_9 ⟨rfl, rfl, rfl⟩

theorem hi_X0_isInBounds_X0 : ∀ w ∈ wsX00, w ∈ wsX0_isInBounds := by decide +kernel
theorem hf_X0_isInBounds_15 : Cond.fieldLink RX0 15 (TX0 2).1 (TX0 2).2.1 (TX0 2).2.2.1 ∈ wsX0_isInBounds := by decide +kernel
theorem hf_X0_isInBounds_23 : Cond.fieldLink RX0 23 (TX0 6).1 (TX0 6).2.1 (TX0 6).2.2.1 ∈ wsX0_isInBounds := by decide +kernel
theorem hf_X0_isInBounds_26 : Cond.fieldLink RX0 26 (TX0 5).1 (TX0 5).2.1 (TX0 5).2.2.1 ∈ wsX0_isInBounds := by decide +kernel
theorem hf_X0_isInBounds_29 : Cond.fieldLink RX0 29 (TX0 4).1 (TX0 4).2.1 (TX0 4).2.2.1 ∈ wsX0_isInBounds := by decide +kernel
theorem hf_X0_isInBounds_32 : Cond.fieldLink RX0 32 (TX0 3).1 (TX0 3).2.1 (TX0 3).2.2.1 ∈ wsX0_isInBounds := by decide +kernel
set_option maxRecDepth 100000 in
set_option maxHeartbeats 4000000 in
theorem c_X0_isInBounds (l : Launch) (g : zG) (L : List Nat) (f : Nat → va_E) (a : Nat) (x : ZW) {n : Nat} {ct : Nat → Int64} (hc : zc L f a (.inr (0, zwf x))) (hs : zc L f (zws x) (.inl (g.2 1, n, .inr (.inl ct)))) (hb1 : 0 ≤ zwp x) (hb2 : zwp x ≤ zwe x) (hb3 : zwe x ≤ zwc x) (hb4 : 0 ≤ zwr x) (hb5 : zwc x ≤ nI n - zwr x) : zC l yX0_isInBounds wsX0_isInBounds { frames := 0, cells := 0, slots := 0, locals := 0 } 0 0 g [.ref a] L f (fun r L1 f1 => some (.int 1) = r ∧ L = L1 ∧ f = f1) zNo := by
  refine z_ofW (cc := cX0_isInBounds) (maxL := 1) (ret := (some .boolean)) (by decide) rfl (Nat.le_of_ble_eq_true rfl) ?_
  intro p e s m args below meth c ls A hx hb hr hts hown hlocks hml htab hin hw hX hl
  have hl : lv_has ls 1 [(0, .ref a)] := hl
  have hown : s.vm.findClass RX0 = some m.cls := hown
  refine lv_iconst (v := 0) hx hb dX0_isInBounds_0 (by decide) ?_
  refine lv_aload_n hx hb dX0_isInBounds_1 rfl (lv_at hl 0 rfl) ?_
  refine zr_get (C := RX0) (T := TX0) (N := 8) (v := .int (zwp x)) hx hb hts hi_X0_isInBounds_X0 hown hw hc rfl 5 (by decide) hf_X0_isInBounds_26 rfl dX0_isInBounds_2 ?_
  refine lv_icmp_gt (tgt := 59) hx hb dX0_isInBounds_5 (by decide) (fun c_1 => ?_) (fun c_1 => ?_)
  · refine lv_iconst (v := 0) hx hb dX0_isInBounds_59 (by decide) ?_
    exact z_zret hx hb hr hlocks rfl hw (Nat.le_of_ble_eq_true rfl) (Nat.le_of_ble_eq_true rfl) dX0_isInBounds_60 (absurd hb1 (Int32.not_le.mpr c_1))
  · refine lv_aload_n hx hb dX0_isInBounds_8 rfl (lv_at hl 0 rfl) ?_
    refine zr_get (C := RX0) (T := TX0) (N := 8) (v := .int (zwp x)) hx hb hts hi_X0_isInBounds_X0 hown hw hc rfl 5 (by decide) hf_X0_isInBounds_26 rfl dX0_isInBounds_9 ?_
    refine lv_aload_n hx hb dX0_isInBounds_12 rfl (lv_at hl 0 rfl) ?_
    refine zr_get (C := RX0) (T := TX0) (N := 8) (v := .int (zwe x)) hx hb hts hi_X0_isInBounds_X0 hown hw hc rfl 6 (by decide) hf_X0_isInBounds_23 rfl dX0_isInBounds_13 ?_
    refine lv_icmp_gt (tgt := 59) hx hb dX0_isInBounds_16 (by decide) (fun c_2 => ?_) (fun c_2 => ?_)
    · refine lv_iconst (v := 0) hx hb dX0_isInBounds_59 (by decide) ?_
      exact z_zret hx hb hr hlocks rfl hw (Nat.le_of_ble_eq_true rfl) (Nat.le_of_ble_eq_true rfl) dX0_isInBounds_60 (absurd hb2 (Int32.not_le.mpr c_2))
    · refine lv_aload_n hx hb dX0_isInBounds_19 rfl (lv_at hl 0 rfl) ?_
      refine zr_get (C := RX0) (T := TX0) (N := 8) (v := .int (zwe x)) hx hb hts hi_X0_isInBounds_X0 hown hw hc rfl 6 (by decide) hf_X0_isInBounds_23 rfl dX0_isInBounds_20 ?_
      refine lv_aload_n hx hb dX0_isInBounds_23 rfl (lv_at hl 0 rfl) ?_
      refine zr_get (C := RX0) (T := TX0) (N := 8) (v := .int (zwc x)) hx hb hts hi_X0_isInBounds_X0 hown hw hc rfl 4 (by decide) hf_X0_isInBounds_29 rfl dX0_isInBounds_24 ?_
      refine lv_icmp_gt (tgt := 59) hx hb dX0_isInBounds_27 (by decide) (fun c_3 => ?_) (fun c_3 => ?_)
      · refine lv_iconst (v := 0) hx hb dX0_isInBounds_59 (by decide) ?_
        exact z_zret hx hb hr hlocks rfl hw (Nat.le_of_ble_eq_true rfl) (Nat.le_of_ble_eq_true rfl) dX0_isInBounds_60 (absurd hb3 (Int32.not_le.mpr c_3))
      · refine lv_iconst (v := 0) hx hb dX0_isInBounds_30 (by decide) ?_
        refine lv_aload_n hx hb dX0_isInBounds_31 rfl (lv_at hl 0 rfl) ?_
        refine zr_get (C := RX0) (T := TX0) (N := 8) (v := .int (zwr x)) hx hb hts hi_X0_isInBounds_X0 hown hw hc rfl 3 (by decide) hf_X0_isInBounds_32 rfl dX0_isInBounds_32 ?_
        refine lv_icmp_gt (tgt := 59) hx hb dX0_isInBounds_35 (by decide) (fun c_4 => ?_) (fun c_4 => ?_)
        · refine lv_iconst (v := 0) hx hb dX0_isInBounds_59 (by decide) ?_
          exact z_zret hx hb hr hlocks rfl hw (Nat.le_of_ble_eq_true rfl) (Nat.le_of_ble_eq_true rfl) dX0_isInBounds_60 (absurd hb4 (Int32.not_le.mpr c_4))
        · refine lv_aload_n hx hb dX0_isInBounds_38 rfl (lv_at hl 0 rfl) ?_
          refine zr_get (C := RX0) (T := TX0) (N := 8) (v := .int (zwc x)) hx hb hts hi_X0_isInBounds_X0 hown hw hc rfl 4 (by decide) hf_X0_isInBounds_29 rfl dX0_isInBounds_39 ?_
          refine lv_aload_n hx hb dX0_isInBounds_42 rfl (lv_at hl 0 rfl) ?_
          refine zr_get (C := RX0) (T := TX0) (N := 8) (v := .ref (zws x)) hx hb hts hi_X0_isInBounds_X0 hown hw hc rfl 2 (by decide) hf_X0_isInBounds_15 rfl dX0_isInBounds_43 ?_
          refine zr_alen (t0 := 1) (v := nI n) hx hb hw hs rfl rfl dX0_isInBounds_46 ?_
          refine lv_aload_n hx hb dX0_isInBounds_47 rfl (lv_at hl 0 rfl) ?_
          refine zr_get (C := RX0) (T := TX0) (N := 8) (v := .int (zwr x)) hx hb hts hi_X0_isInBounds_X0 hown hw hc rfl 3 (by decide) hf_X0_isInBounds_32 rfl dX0_isInBounds_48 ?_
          refine lv_isub hx hb dX0_isInBounds_51 ?_
          refine lv_icmp_gt (tgt := 59) hx hb dX0_isInBounds_52 (by decide) (fun c_5 => ?_) (fun c_5 => ?_)
          · refine lv_iconst (v := 0) hx hb dX0_isInBounds_59 (by decide) ?_
            exact z_zret hx hb hr hlocks rfl hw (Nat.le_of_ble_eq_true rfl) (Nat.le_of_ble_eq_true rfl) dX0_isInBounds_60 (absurd hb5 (Int32.not_le.mpr c_5))
          · refine lv_iconst (v := 1) hx hb dX0_isInBounds_55 (by decide) ?_
            refine lv_goto (tgt := 60) hx hb dX0_isInBounds_56 (by decide) ?_
            exact z_zret hx hb hr hlocks rfl hw (Nat.le_of_ble_eq_true rfl) (Nat.le_of_ble_eq_true rfl) dX0_isInBounds_60 ⟨rfl, rfl, rfl⟩

theorem hi_X0_moveTo_X0 : ∀ w ∈ wsX00, w ∈ wsX0_moveTo := by decide +kernel
theorem hf_X0_moveTo_19 : Cond.fieldLink RX0 19 (TX0 7).1 (TX0 7).2.1 (TX0 7).2.2.1 ∈ wsX0_moveTo := by decide +kernel
theorem hf_X0_moveTo_23 : Cond.fieldLink RX0 23 (TX0 6).1 (TX0 6).2.1 (TX0 6).2.2.1 ∈ wsX0_moveTo := by decide +kernel
theorem hf_X0_moveTo_26 : Cond.fieldLink RX0 26 (TX0 5).1 (TX0 5).2.1 (TX0 5).2.2.1 ∈ wsX0_moveTo := by decide +kernel
set_option maxRecDepth 100000 in
set_option maxHeartbeats 4000000 in
theorem c_X0_moveTo (l : Launch) (g : zG) (L : List Nat) (f : Nat → va_E) (a : Nat) (x : ZW) (p0 p1 : Int32) (hc : zc L f a (.inr (0, zwf x))) : zC l yX0_moveTo wsX0_moveTo { frames := 0, cells := 0, slots := 0, locals := 0 } 0 0 g [.ref a, .int p0, .int p1] L f (fun r L1 f1 => none = r ∧ L = L1 ∧ va_up f a (.inr (0, zwf ((zwk x), (zwo x), (zws x), (zwr x), (zwc x), p0, p1, -1))) = f1) zNo := by
  refine z_ofW (cc := cX0_moveTo) (maxL := 3) (ret := none) (by decide) rfl (Nat.le_of_ble_eq_true rfl) ?_
  intro p e s m args below meth c ls A hx hb hr hts hown hlocks hml htab hin hw hX hl
  have hl : lv_has ls 3 [(0, .ref a), (1, .int p0), (2, .int p1)] := hl
  have hown : s.vm.findClass RX0 = some m.cls := hown
  refine lv_aload_n hx hb dX0_moveTo_0 rfl (lv_at hl 0 rfl) ?_
  refine lv_iload_n hx hb dX0_moveTo_1 rfl (lv_at hl 1 rfl) ?_
  have hu := zu_id (hc).2
  refine zw_put (X1 := ((zwk x), (zwo x), (zws x), (zwr x), (zwc x), p0, (zwe x), (zwm x))) (ty := .int) hx hb hts hi_X0_moveTo_X0 hown hw (hc).1 hu 5 (by decide) hf_X0_moveTo_26 rfl rfl rfl rfl rfl dX0_moveTo_2 (fun f_1 H locs hu hw => ?_)
  refine lv_aload_n hx hb dX0_moveTo_5 rfl (lv_at hl 0 rfl) ?_
  refine lv_iload_n hx hb dX0_moveTo_6 rfl (lv_at hl 2 rfl) ?_
  refine zw_put (X1 := ((zwk x), (zwo x), (zws x), (zwr x), (zwc x), p0, p1, (zwm x))) (ty := .int) hx hb hts hi_X0_moveTo_X0 hown hw (hc).1 hu 6 (by decide) hf_X0_moveTo_23 rfl rfl rfl rfl rfl dX0_moveTo_7 (fun f_2 H locs hu hw => ?_)
  refine lv_aload_n hx hb dX0_moveTo_10 rfl (lv_at hl 0 rfl) ?_
  refine lv_iconst (v := (-1)) hx hb dX0_moveTo_11 (by decide) ?_
  refine zw_put (X1 := ((zwk x), (zwo x), (zws x), (zwr x), (zwc x), p0, p1, (-1))) (ty := .int) hx hb hts hi_X0_moveTo_X0 hown hw (hc).1 hu 7 (by decide) hf_X0_moveTo_19 rfl rfl rfl rfl rfl dX0_moveTo_12 (fun f_3 H locs hu hw => ?_)
  exact z_vret hx hb hr hlocks hw (Nat.le_of_ble_eq_true rfl) (Nat.le_of_ble_eq_true rfl) dX0_moveTo_15 ⟨rfl, rfl, hu⟩

theorem hi_X0_dropMarkBeyond_X0 : ∀ w ∈ wsX00, w ∈ wsX0_dropMarkBeyond := by decide +kernel
theorem hf_X0_dropMarkBeyond_19 : Cond.fieldLink RX0 19 (TX0 7).1 (TX0 7).2.1 (TX0 7).2.2.1 ∈ wsX0_dropMarkBeyond := by decide +kernel
set_option maxRecDepth 100000 in
set_option maxHeartbeats 4000000 in
theorem c_X0_dropMarkBeyond (l : Launch) (g : zG) (L : List Nat) (f : Nat → va_E) (a : Nat) (x : ZW) (p0 : Int32) (hc : zc L f a (.inr (0, zwf x))) : zC l yX0_dropMarkBeyond wsX0_dropMarkBeyond { frames := 0, cells := 0, slots := 0, locals := 0 } 0 0 g [.ref a, .int p0] L f (fun r L1 f1 => none = r ∧ L = L1 ∧ va_up f a (.inr (0, zwf ((zwk x), (zwo x), (zws x), (zwr x), (zwc x), (zwp x), (zwe x), (if zwm x ≤ p0 then zwm x else -1)))) = f1) zNo := by
  refine z_ofW (cc := cX0_dropMarkBeyond) (maxL := 2) (ret := none) (by decide) rfl (Nat.le_of_ble_eq_true rfl) ?_
  intro p e s m args below meth c ls A hx hb hr hts hown hlocks hml htab hin hw hX hl
  have hl : lv_has ls 2 [(0, .ref a), (1, .int p0)] := hl
  have hown : s.vm.findClass RX0 = some m.cls := hown
  refine lv_aload_n hx hb dX0_dropMarkBeyond_0 rfl (lv_at hl 0 rfl) ?_
  refine zr_get (C := RX0) (T := TX0) (N := 8) (v := .int (zwm x)) hx hb hts hi_X0_dropMarkBeyond_X0 hown hw hc rfl 7 (by decide) hf_X0_dropMarkBeyond_19 rfl dX0_dropMarkBeyond_1 ?_
  refine lv_iload_n hx hb dX0_dropMarkBeyond_4 rfl (lv_at hl 1 rfl) ?_
  refine lv_icmp_le (tgt := 13) hx hb dX0_dropMarkBeyond_5 (by decide) (fun c_1 => ?_) (fun c_1 => ?_)
  · exact z_vret hx hb hr hlocks hw (Nat.le_of_ble_eq_true rfl) (Nat.le_of_ble_eq_true rfl) dX0_dropMarkBeyond_13 ⟨rfl, rfl, by rw [if_pos c_1]; exact zu_id hc.2⟩
  · refine lv_aload_n hx hb dX0_dropMarkBeyond_8 rfl (lv_at hl 0 rfl) ?_
    refine lv_iconst (v := (-1)) hx hb dX0_dropMarkBeyond_9 (by decide) ?_
    have hu := zu_id (hc).2
    refine zw_put (X1 := ((zwk x), (zwo x), (zws x), (zwr x), (zwc x), (zwp x), (zwe x), (-1))) (ty := .int) hx hb hts hi_X0_dropMarkBeyond_X0 hown hw (hc).1 hu 7 (by decide) hf_X0_dropMarkBeyond_19 rfl rfl rfl rfl rfl dX0_dropMarkBeyond_10 (fun f_2 H locs hu hw => ?_)
    exact z_vret hx hb hr hlocks hw (Nat.le_of_ble_eq_true rfl) (Nat.le_of_ble_eq_true rfl) dX0_dropMarkBeyond_13 ⟨rfl, rfl, by rw [if_neg c_1]; exact hu⟩

theorem hi_X0_layOver_X0 : ∀ w ∈ wsX00, w ∈ wsX0_layOver := by decide +kernel
theorem hf_X0_layOver_9 : Cond.fieldLink RX0 9 (TX0 0).1 (TX0 0).2.1 (TX0 0).2.2.1 ∈ wsX0_layOver := by decide +kernel
theorem hf_X0_layOver_15 : Cond.fieldLink RX0 15 (TX0 2).1 (TX0 2).2.1 (TX0 2).2.2.1 ∈ wsX0_layOver := by decide +kernel
theorem hf_X0_layOver_29 : Cond.fieldLink RX0 29 (TX0 4).1 (TX0 4).2.1 (TX0 4).2.2.1 ∈ wsX0_layOver := by decide +kernel
theorem hf_X0_layOver_32 : Cond.fieldLink RX0 32 (TX0 3).1 (TX0 3).2.1 (TX0 3).2.2.1 ∈ wsX0_layOver := by decide +kernel
theorem hf_X0_layOver_35 : Cond.fieldLink RX0 35 (TX0 1).1 (TX0 1).2.1 (TX0 1).2.2.1 ∈ wsX0_layOver := by decide +kernel
set_option maxRecDepth 100000 in
set_option maxHeartbeats 4000000 in
theorem c_X0_layOver (l : Launch) (g : zG) (L : List Nat) (f : Nat → va_E) (a : Nat) (x : ZW) (p0 : Int32) (q : Nat) {n : Nat} {ct : Nat → Int64} (hc : zc L f a (.inr (0, zwf x))) (hs : zc L f q (.inl (g.2 1, n, .inr (.inl ct)))) (hk : zchar p0) : zC l yX0_layOver wsX0_layOver { frames := 1, cells := 0, slots := 0, locals := 22 } 0 0 g [.ref a, .int p0, .ref q] L f (fun r L1 f1 => none = r ∧ L = L1 ∧ va_up f a (.inr (0, zwf (p0, 0, q, 0, nI n, 0, nI n, -1))) = f1) zNo := by
  refine z_ofW (cc := cX0_layOver) (maxL := 3) (ret := none) (by decide) rfl (Nat.le_of_ble_eq_true rfl) ?_
  intro p e s m args below meth c ls A hx hb hr hts hown hlocks hml htab hin hw hX hl
  have hl : lv_has ls 3 [(0, .ref a), (1, .int p0), (2, .ref q)] := hl
  have hown : s.vm.findClass RX0 = some m.cls := hown
  refine lv_aload_n hx hb dX0_layOver_0 rfl (lv_at hl 0 rfl) ?_
  refine lv_iload_n hx hb dX0_layOver_1 rfl (lv_at hl 1 rfl) ?_
  have hu := zu_id (hc).2
  refine zw_put (X1 := (p0, (zwo x), (zws x), (zwr x), (zwc x), (zwp x), (zwe x), (zwm x))) (ty := .char) hx hb hts hi_X0_layOver_X0 hown hw (hc).1 hu 0 (by decide) hf_X0_layOver_9 rfl rfl hk.1 hk.2 rfl dX0_layOver_2 (fun f_1 H locs hu hw => ?_)
  refine lv_aload_n hx hb dX0_layOver_5 rfl (lv_at hl 0 rfl) ?_
  refine lv_iconst (v := 0) hx hb dX0_layOver_6 (by decide) ?_
  refine zw_put (X1 := (p0, 0, (zws x), (zwr x), (zwc x), (zwp x), (zwe x), (zwm x))) (ty := .boolean) hx hb hts hi_X0_layOver_X0 hown hw (hc).1 hu 1 (by decide) hf_X0_layOver_35 rfl rfl rfl rfl rfl dX0_layOver_7 (fun f_2 H locs hu hw => ?_)
  refine lv_aload_n hx hb dX0_layOver_10 rfl (lv_at hl 0 rfl) ?_
  refine lv_aload_n hx hb dX0_layOver_11 rfl (lv_at hl 2 rfl) ?_
  refine zw_put (X1 := (p0, 0, q, (zwr x), (zwc x), (zwp x), (zwe x), (zwm x))) (ty := (.array .long)) hx hb hts hi_X0_layOver_X0 hown hw (hc).1 hu 2 (by decide) hf_X0_layOver_15 rfl rfl rfl rfl rfl dX0_layOver_12 (fun f_3 H locs hu hw => ?_)
  refine lv_aload_n hx hb dX0_layOver_15 rfl (lv_at hl 0 rfl) ?_
  refine lv_iconst (v := 0) hx hb dX0_layOver_16 (by decide) ?_
  refine zw_put (X1 := (p0, 0, q, 0, (zwc x), (zwp x), (zwe x), (zwm x))) (ty := .int) hx hb hts hi_X0_layOver_X0 hown hw (hc).1 hu 3 (by decide) hf_X0_layOver_32 rfl rfl rfl rfl rfl dX0_layOver_17 (fun f_4 H locs hu hw => ?_)
  refine lv_aload_n hx hb dX0_layOver_20 rfl (lv_at hl 0 rfl) ?_
  refine lv_aload_n hx hb dX0_layOver_21 rfl (lv_at hl 2 rfl) ?_
  refine zr_alen (t0 := 1) (v := nI n) hx hb hw (zu_o hu hs (zc.dj hs hc (by intro h; cases h))) rfl rfl dX0_layOver_22 ?_
  refine zw_put (X1 := (p0, 0, q, 0, (nI n), (zwp x), (zwe x), (zwm x))) (ty := .int) hx hb hts hi_X0_layOver_X0 hown hw (hc).1 hu 4 (by decide) hf_X0_layOver_29 rfl rfl rfl rfl rfl dX0_layOver_23 (fun f_5 H locs hu hw => ?_)
  refine lv_aload_n hx hb dX0_layOver_26 rfl (lv_at hl 0 rfl) ?_
  refine lv_iconst (v := 0) hx hb dX0_layOver_27 (by decide) ?_
  refine lv_aload_n hx hb dX0_layOver_28 rfl (lv_at hl 0 rfl) ?_
  refine zr_get (C := RX0) (T := TX0) (N := 8) (v := .int (nI n)) hx hb hts hi_X0_layOver_X0 hown hw (zu_c (hc).1 hu) rfl 4 (by decide) hf_X0_layOver_29 rfl dX0_layOver_29 ?_
  refine z_callV (As := [.int 0, .int (nI n)]) (rest := []) ⟨hx, hb, hml, hown, hts⟩ hw hX (zu_c (hc).1 hu) rfl (c_X0_moveTo l g L f_5 a (p0, 0, q, 0, (nI n), (zwp x), (zwe x), (zwm x)) 0 (nI n) (zu_c (hc).1 hu)) (cwV 2 hts gX0_layOver_X0_moveTo rfl rfl rfl (by decide +kernel) ⟨(Nat.le_of_ble_eq_true rfl), (Nat.le_of_ble_eq_true rfl)⟩) rfl hl.1 rfl (Nat.le_of_ble_eq_true rfl) dX0_layOver_32 ⟨(Nat.le_of_ble_eq_true rfl), (Nat.le_of_ble_eq_true rfl)⟩ (fun _ _ _ _ _ _ _ hp => False.elim hp) (fun r9 L9 f9 H locs hp hw => ?_)
  obtain ⟨rfl, rfl, hu9⟩ := hp
  refine W.eq (g2 := F0 m 35 ls []) rfl ?_
  have hu := (show va_up f a (.inr (0, zwf (p0, 0, q, 0, (nI n), 0, (nI n), (-1)))) = f9 from by rw [← hu9, ← hu, zu_up])
  obtain ⟨f_6, rfl⟩ : ∃ z, z = f9 := ⟨_, rfl⟩
  exact z_vret hx hb hr hlocks hw (Nat.le_of_ble_eq_true rfl) (Nat.le_of_ble_eq_true rfl) dX0_layOver_35 ⟨rfl, rfl, hu⟩

theorem hi_X0_becomeSlice_X0 : ∀ w ∈ wsX00, w ∈ wsX0_becomeSlice := by decide +kernel
theorem hf_X0_becomeSlice_9 : Cond.fieldLink RX0 9 (TX0 0).1 (TX0 0).2.1 (TX0 0).2.2.1 ∈ wsX0_becomeSlice := by decide +kernel
theorem hf_X0_becomeSlice_15 : Cond.fieldLink RX0 15 (TX0 2).1 (TX0 2).2.1 (TX0 2).2.2.1 ∈ wsX0_becomeSlice := by decide +kernel
theorem hf_X0_becomeSlice_29 : Cond.fieldLink RX0 29 (TX0 4).1 (TX0 4).2.1 (TX0 4).2.2.1 ∈ wsX0_becomeSlice := by decide +kernel
theorem hf_X0_becomeSlice_32 : Cond.fieldLink RX0 32 (TX0 3).1 (TX0 3).2.1 (TX0 3).2.2.1 ∈ wsX0_becomeSlice := by decide +kernel
theorem hf_X0_becomeSlice_35 : Cond.fieldLink RX0 35 (TX0 1).1 (TX0 1).2.1 (TX0 1).2.2.1 ∈ wsX0_becomeSlice := by decide +kernel
set_option maxRecDepth 100000 in
set_option maxHeartbeats 4000000 in
theorem c_X0_becomeSlice_d (l : Launch) (g : zG) (L : List Nat) (f : Nat → va_E) (a : Nat) (x : ZW) (b : Nat) (y : ZW) (p0 p1 : Int32) (hc : zc L f a (.inr (0, zwf x))) (hcb : zc L f b (.inr (0, zwf y))) (hne : b ≠ a) (hk : zchar (zwk y)) (ho : zbool (zwo y)) : zC l yX0_becomeSlice wsX0_becomeSlice { frames := 1, cells := 0, slots := 0, locals := 22 } 0 0 g [.ref a, .ref b, .int p0, .int p1] L f (fun r L1 f1 => none = r ∧ L = L1 ∧ va_up f a (.inr (0, zwf (zwk y, zwo y, zws y, zwr y + p0, p1, 0, p1, -1))) = f1) zNo := by
  refine z_ofW (cc := cX0_becomeSlice) (maxL := 4) (ret := none) (by decide) rfl (Nat.le_of_ble_eq_true rfl) ?_
  intro p e s m args below meth c ls A hx hb hr hts hown hlocks hml htab hin hw hX hl
  have hl : lv_has ls 4 [(0, .ref a), (1, .ref b), (2, .int p0), (3, .int p1)] := hl
  have hown : s.vm.findClass RX0 = some m.cls := hown
  refine lv_aload_n hx hb dX0_becomeSlice_0 rfl (lv_at hl 0 rfl) ?_
  refine lv_aload_n hx hb dX0_becomeSlice_1 rfl (lv_at hl 1 rfl) ?_
  refine zr_get (C := RX0) (T := TX0) (N := 8) (v := .int (zwk y)) hx hb hts hi_X0_becomeSlice_X0 hown hw hcb rfl 0 (by decide) hf_X0_becomeSlice_9 rfl dX0_becomeSlice_2 ?_
  have hu := zu_id (hc).2
  refine zw_put (X1 := ((zwk y), (zwo x), (zws x), (zwr x), (zwc x), (zwp x), (zwe x), (zwm x))) (ty := .char) hx hb hts hi_X0_becomeSlice_X0 hown hw (hc).1 hu 0 (by decide) hf_X0_becomeSlice_9 rfl rfl hk.1 hk.2 rfl dX0_becomeSlice_5 (fun f_1 H locs hu hw => ?_)
  refine lv_aload_n hx hb dX0_becomeSlice_8 rfl (lv_at hl 0 rfl) ?_
  refine lv_aload_n hx hb dX0_becomeSlice_9 rfl (lv_at hl 1 rfl) ?_
  refine zr_get (C := RX0) (T := TX0) (N := 8) (v := .int (zwo y)) hx hb hts hi_X0_becomeSlice_X0 hown hw (zu_o hu hcb hne) rfl 1 (by decide) hf_X0_becomeSlice_35 rfl dX0_becomeSlice_10 ?_
  refine zw_put (X1 := ((zwk y), (zwo y), (zws x), (zwr x), (zwc x), (zwp x), (zwe x), (zwm x))) (ty := .boolean) hx hb hts hi_X0_becomeSlice_X0 hown hw (hc).1 hu 1 (by decide) hf_X0_becomeSlice_35 rfl rfl ho.1 ho.2 rfl dX0_becomeSlice_13 (fun f_2 H locs hu hw => ?_)
  refine lv_aload_n hx hb dX0_becomeSlice_16 rfl (lv_at hl 0 rfl) ?_
  refine lv_aload_n hx hb dX0_becomeSlice_17 rfl (lv_at hl 1 rfl) ?_
  refine zr_get (C := RX0) (T := TX0) (N := 8) (v := .ref (zws y)) hx hb hts hi_X0_becomeSlice_X0 hown hw (zu_o hu hcb hne) rfl 2 (by decide) hf_X0_becomeSlice_15 rfl dX0_becomeSlice_18 ?_
  refine zw_put (X1 := ((zwk y), (zwo y), (zws y), (zwr x), (zwc x), (zwp x), (zwe x), (zwm x))) (ty := (.array .long)) hx hb hts hi_X0_becomeSlice_X0 hown hw (hc).1 hu 2 (by decide) hf_X0_becomeSlice_15 rfl rfl rfl rfl rfl dX0_becomeSlice_21 (fun f_3 H locs hu hw => ?_)
  refine lv_aload_n hx hb dX0_becomeSlice_24 rfl (lv_at hl 0 rfl) ?_
  refine lv_aload_n hx hb dX0_becomeSlice_25 rfl (lv_at hl 1 rfl) ?_
  refine zr_get (C := RX0) (T := TX0) (N := 8) (v := .int (zwr y)) hx hb hts hi_X0_becomeSlice_X0 hown hw (zu_o hu hcb hne) rfl 3 (by decide) hf_X0_becomeSlice_32 rfl dX0_becomeSlice_26 ?_
  refine lv_iload_n hx hb dX0_becomeSlice_29 rfl (lv_at hl 2 rfl) ?_
  refine lv_iadd hx hb dX0_becomeSlice_30 ?_
  refine zw_put (X1 := ((zwk y), (zwo y), (zws y), ((zwr y) + p0), (zwc x), (zwp x), (zwe x), (zwm x))) (ty := .int) hx hb hts hi_X0_becomeSlice_X0 hown hw (hc).1 hu 3 (by decide) hf_X0_becomeSlice_32 rfl rfl rfl rfl rfl dX0_becomeSlice_31 (fun f_4 H locs hu hw => ?_)
  refine lv_aload_n hx hb dX0_becomeSlice_34 rfl (lv_at hl 0 rfl) ?_
  refine lv_iload_n hx hb dX0_becomeSlice_35 rfl (lv_at hl 3 rfl) ?_
  refine zw_put (X1 := ((zwk y), (zwo y), (zws y), ((zwr y) + p0), p1, (zwp x), (zwe x), (zwm x))) (ty := .int) hx hb hts hi_X0_becomeSlice_X0 hown hw (hc).1 hu 4 (by decide) hf_X0_becomeSlice_29 rfl rfl rfl rfl rfl dX0_becomeSlice_36 (fun f_5 H locs hu hw => ?_)
  refine lv_aload_n hx hb dX0_becomeSlice_39 rfl (lv_at hl 0 rfl) ?_
  refine lv_iconst (v := 0) hx hb dX0_becomeSlice_40 (by decide) ?_
  refine lv_iload_n hx hb dX0_becomeSlice_41 rfl (lv_at hl 3 rfl) ?_
  refine z_callV (As := [.int 0, .int p1]) (rest := []) ⟨hx, hb, hml, hown, hts⟩ hw hX (zu_c (hc).1 hu) rfl (c_X0_moveTo l g L f_5 a ((zwk y), (zwo y), (zws y), ((zwr y) + p0), p1, (zwp x), (zwe x), (zwm x)) 0 p1 (zu_c (hc).1 hu)) (cwV 2 hts gX0_becomeSlice_X0_moveTo rfl rfl rfl (by decide +kernel) ⟨(Nat.le_of_ble_eq_true rfl), (Nat.le_of_ble_eq_true rfl)⟩) rfl hl.1 rfl (Nat.le_of_ble_eq_true rfl) dX0_becomeSlice_42 ⟨(Nat.le_of_ble_eq_true rfl), (Nat.le_of_ble_eq_true rfl)⟩ (fun _ _ _ _ _ _ _ hp => False.elim hp) (fun r9 L9 f9 H locs hp hw => ?_)
  obtain ⟨rfl, rfl, hu9⟩ := hp
  refine W.eq (g2 := F0 m 45 ls []) rfl ?_
  have hu := (show va_up f a (.inr (0, zwf ((zwk y), (zwo y), (zws y), ((zwr y) + p0), p1, 0, p1, (-1)))) = f9 from by rw [← hu9, ← hu, zu_up])
  obtain ⟨f_6, rfl⟩ : ∃ z, z = f9 := ⟨_, rfl⟩
  exact z_vret hx hb hr hlocks hw (Nat.le_of_ble_eq_true rfl) (Nat.le_of_ble_eq_true rfl) dX0_becomeSlice_45 ⟨rfl, rfl, hu⟩

set_option maxRecDepth 100000 in
set_option maxHeartbeats 4000000 in
theorem c_X0_becomeSlice_s (l : Launch) (g : zG) (L : List Nat) (f : Nat → va_E) (a : Nat) (x : ZW) (p0 p1 : Int32) (hc : zc L f a (.inr (0, zwf x))) (hk : zchar (zwk x)) (ho : zbool (zwo x)) : zC l yX0_becomeSlice wsX0_becomeSlice { frames := 1, cells := 0, slots := 0, locals := 22 } 0 0 g [.ref a, .ref a, .int p0, .int p1] L f (fun r L1 f1 => none = r ∧ L = L1 ∧ va_up f a (.inr (0, zwf (zwk x, zwo x, zws x, zwr x + p0, p1, 0, p1, -1))) = f1) zNo := by
  refine z_ofW (cc := cX0_becomeSlice) (maxL := 4) (ret := none) (by decide) rfl (Nat.le_of_ble_eq_true rfl) ?_
  intro p e s m args below meth c ls A hx hb hr hts hown hlocks hml htab hin hw hX hl
  have hl : lv_has ls 4 [(0, .ref a), (1, .ref a), (2, .int p0), (3, .int p1)] := hl
  have hown : s.vm.findClass RX0 = some m.cls := hown
  refine lv_aload_n hx hb dX0_becomeSlice_0 rfl (lv_at hl 0 rfl) ?_
  refine lv_aload_n hx hb dX0_becomeSlice_1 rfl (lv_at hl 1 rfl) ?_
  refine zr_get (C := RX0) (T := TX0) (N := 8) (v := .int (zwk x)) hx hb hts hi_X0_becomeSlice_X0 hown hw hc rfl 0 (by decide) hf_X0_becomeSlice_9 rfl dX0_becomeSlice_2 ?_
  have hu := zu_id (hc).2
  refine zw_put (X1 := ((zwk x), (zwo x), (zws x), (zwr x), (zwc x), (zwp x), (zwe x), (zwm x))) (ty := .char) hx hb hts hi_X0_becomeSlice_X0 hown hw (hc).1 hu 0 (by decide) hf_X0_becomeSlice_9 rfl rfl hk.1 hk.2 rfl dX0_becomeSlice_5 (fun f_1 H locs hu hw => ?_)
  refine lv_aload_n hx hb dX0_becomeSlice_8 rfl (lv_at hl 0 rfl) ?_
  refine lv_aload_n hx hb dX0_becomeSlice_9 rfl (lv_at hl 1 rfl) ?_
  refine zr_get (C := RX0) (T := TX0) (N := 8) (v := .int (zwo x)) hx hb hts hi_X0_becomeSlice_X0 hown hw (zu_c (hc).1 hu) rfl 1 (by decide) hf_X0_becomeSlice_35 rfl dX0_becomeSlice_10 ?_
  refine zw_put (X1 := ((zwk x), (zwo x), (zws x), (zwr x), (zwc x), (zwp x), (zwe x), (zwm x))) (ty := .boolean) hx hb hts hi_X0_becomeSlice_X0 hown hw (hc).1 hu 1 (by decide) hf_X0_becomeSlice_35 rfl rfl ho.1 ho.2 rfl dX0_becomeSlice_13 (fun f_2 H locs hu hw => ?_)
  refine lv_aload_n hx hb dX0_becomeSlice_16 rfl (lv_at hl 0 rfl) ?_
  refine lv_aload_n hx hb dX0_becomeSlice_17 rfl (lv_at hl 1 rfl) ?_
  refine zr_get (C := RX0) (T := TX0) (N := 8) (v := .ref (zws x)) hx hb hts hi_X0_becomeSlice_X0 hown hw (zu_c (hc).1 hu) rfl 2 (by decide) hf_X0_becomeSlice_15 rfl dX0_becomeSlice_18 ?_
  refine zw_put (X1 := ((zwk x), (zwo x), (zws x), (zwr x), (zwc x), (zwp x), (zwe x), (zwm x))) (ty := (.array .long)) hx hb hts hi_X0_becomeSlice_X0 hown hw (hc).1 hu 2 (by decide) hf_X0_becomeSlice_15 rfl rfl rfl rfl rfl dX0_becomeSlice_21 (fun f_3 H locs hu hw => ?_)
  refine lv_aload_n hx hb dX0_becomeSlice_24 rfl (lv_at hl 0 rfl) ?_
  refine lv_aload_n hx hb dX0_becomeSlice_25 rfl (lv_at hl 1 rfl) ?_
  refine zr_get (C := RX0) (T := TX0) (N := 8) (v := .int (zwr x)) hx hb hts hi_X0_becomeSlice_X0 hown hw (zu_c (hc).1 hu) rfl 3 (by decide) hf_X0_becomeSlice_32 rfl dX0_becomeSlice_26 ?_
  refine lv_iload_n hx hb dX0_becomeSlice_29 rfl (lv_at hl 2 rfl) ?_
  refine lv_iadd hx hb dX0_becomeSlice_30 ?_
  refine zw_put (X1 := ((zwk x), (zwo x), (zws x), ((zwr x) + p0), (zwc x), (zwp x), (zwe x), (zwm x))) (ty := .int) hx hb hts hi_X0_becomeSlice_X0 hown hw (hc).1 hu 3 (by decide) hf_X0_becomeSlice_32 rfl rfl rfl rfl rfl dX0_becomeSlice_31 (fun f_4 H locs hu hw => ?_)
  refine lv_aload_n hx hb dX0_becomeSlice_34 rfl (lv_at hl 0 rfl) ?_
  refine lv_iload_n hx hb dX0_becomeSlice_35 rfl (lv_at hl 3 rfl) ?_
  refine zw_put (X1 := ((zwk x), (zwo x), (zws x), ((zwr x) + p0), p1, (zwp x), (zwe x), (zwm x))) (ty := .int) hx hb hts hi_X0_becomeSlice_X0 hown hw (hc).1 hu 4 (by decide) hf_X0_becomeSlice_29 rfl rfl rfl rfl rfl dX0_becomeSlice_36 (fun f_5 H locs hu hw => ?_)
  refine lv_aload_n hx hb dX0_becomeSlice_39 rfl (lv_at hl 0 rfl) ?_
  refine lv_iconst (v := 0) hx hb dX0_becomeSlice_40 (by decide) ?_
  refine lv_iload_n hx hb dX0_becomeSlice_41 rfl (lv_at hl 3 rfl) ?_
  refine z_callV (As := [.int 0, .int p1]) (rest := []) ⟨hx, hb, hml, hown, hts⟩ hw hX (zu_c (hc).1 hu) rfl (c_X0_moveTo l g L f_5 a ((zwk x), (zwo x), (zws x), ((zwr x) + p0), p1, (zwp x), (zwe x), (zwm x)) 0 p1 (zu_c (hc).1 hu)) (cwV 2 hts gX0_becomeSlice_X0_moveTo rfl rfl rfl (by decide +kernel) ⟨(Nat.le_of_ble_eq_true rfl), (Nat.le_of_ble_eq_true rfl)⟩) rfl hl.1 rfl (Nat.le_of_ble_eq_true rfl) dX0_becomeSlice_42 ⟨(Nat.le_of_ble_eq_true rfl), (Nat.le_of_ble_eq_true rfl)⟩ (fun _ _ _ _ _ _ _ hp => False.elim hp) (fun r9 L9 f9 H locs hp hw => ?_)
  obtain ⟨rfl, rfl, hu9⟩ := hp
  refine W.eq (g2 := F0 m 45 ls []) rfl ?_
  have hu := (show va_up f a (.inr (0, zwf ((zwk x), (zwo x), (zws x), ((zwr x) + p0), p1, 0, p1, (-1)))) = f9 from by rw [← hu9, ← hu, zu_up])
  obtain ⟨f_6, rfl⟩ : ∃ z, z = f9 := ⟨_, rfl⟩
  exact z_vret hx hb hr hlocks hw (Nat.le_of_ble_eq_true rfl) (Nat.le_of_ble_eq_true rfl) dX0_becomeSlice_45 ⟨rfl, rfl, hu⟩

theorem hi_X0_becomeDuplicate_X0 : ∀ w ∈ wsX00, w ∈ wsX0_becomeDuplicate := by decide +kernel
theorem hf_X0_becomeDuplicate_9 : Cond.fieldLink RX0 9 (TX0 0).1 (TX0 0).2.1 (TX0 0).2.2.1 ∈ wsX0_becomeDuplicate := by decide +kernel
theorem hf_X0_becomeDuplicate_15 : Cond.fieldLink RX0 15 (TX0 2).1 (TX0 2).2.1 (TX0 2).2.2.1 ∈ wsX0_becomeDuplicate := by decide +kernel
theorem hf_X0_becomeDuplicate_19 : Cond.fieldLink RX0 19 (TX0 7).1 (TX0 7).2.1 (TX0 7).2.2.1 ∈ wsX0_becomeDuplicate := by decide +kernel
theorem hf_X0_becomeDuplicate_23 : Cond.fieldLink RX0 23 (TX0 6).1 (TX0 6).2.1 (TX0 6).2.2.1 ∈ wsX0_becomeDuplicate := by decide +kernel
theorem hf_X0_becomeDuplicate_26 : Cond.fieldLink RX0 26 (TX0 5).1 (TX0 5).2.1 (TX0 5).2.2.1 ∈ wsX0_becomeDuplicate := by decide +kernel
theorem hf_X0_becomeDuplicate_29 : Cond.fieldLink RX0 29 (TX0 4).1 (TX0 4).2.1 (TX0 4).2.2.1 ∈ wsX0_becomeDuplicate := by decide +kernel
theorem hf_X0_becomeDuplicate_32 : Cond.fieldLink RX0 32 (TX0 3).1 (TX0 3).2.1 (TX0 3).2.2.1 ∈ wsX0_becomeDuplicate := by decide +kernel
theorem hf_X0_becomeDuplicate_35 : Cond.fieldLink RX0 35 (TX0 1).1 (TX0 1).2.1 (TX0 1).2.2.1 ∈ wsX0_becomeDuplicate := by decide +kernel
set_option maxRecDepth 100000 in
set_option maxHeartbeats 4000000 in
theorem c_X0_becomeDuplicate_d (l : Launch) (g : zG) (L : List Nat) (f : Nat → va_E) (a : Nat) (x : ZW) (b : Nat) (y : ZW) (hc : zc L f a (.inr (0, zwf x))) (hcb : zc L f b (.inr (0, zwf y))) (hne : b ≠ a) (hk : zchar (zwk y)) (ho : zbool (zwo y)) : zC l yX0_becomeDuplicate wsX0_becomeDuplicate { frames := 0, cells := 0, slots := 0, locals := 0 } 0 0 g [.ref a, .ref b] L f (fun r L1 f1 => none = r ∧ L = L1 ∧ va_up f a (.inr (0, zwf ((zwk y), (zwo y), (zws y), (zwr y), (zwc y), (zwp y), (zwe y), (zwm y)))) = f1) zNo := by
  refine z_ofW (cc := cX0_becomeDuplicate) (maxL := 2) (ret := none) (by decide) rfl (Nat.le_of_ble_eq_true rfl) ?_
  intro p e s m args below meth c ls A hx hb hr hts hown hlocks hml htab hin hw hX hl
  have hl : lv_has ls 2 [(0, .ref a), (1, .ref b)] := hl
  have hown : s.vm.findClass RX0 = some m.cls := hown
  refine lv_aload_n hx hb dX0_becomeDuplicate_0 rfl (lv_at hl 0 rfl) ?_
  refine lv_aload_n hx hb dX0_becomeDuplicate_1 rfl (lv_at hl 1 rfl) ?_
  refine zr_get (C := RX0) (T := TX0) (N := 8) (v := .int (zwk y)) hx hb hts hi_X0_becomeDuplicate_X0 hown hw hcb rfl 0 (by decide) hf_X0_becomeDuplicate_9 rfl dX0_becomeDuplicate_2 ?_
  have hu := zu_id (hc).2
  refine zw_put (X1 := ((zwk y), (zwo x), (zws x), (zwr x), (zwc x), (zwp x), (zwe x), (zwm x))) (ty := .char) hx hb hts hi_X0_becomeDuplicate_X0 hown hw (hc).1 hu 0 (by decide) hf_X0_becomeDuplicate_9 rfl rfl hk.1 hk.2 rfl dX0_becomeDuplicate_5 (fun f_1 H locs hu hw => ?_)
  refine lv_aload_n hx hb dX0_becomeDuplicate_8 rfl (lv_at hl 0 rfl) ?_
  refine lv_aload_n hx hb dX0_becomeDuplicate_9 rfl (lv_at hl 1 rfl) ?_
  refine zr_get (C := RX0) (T := TX0) (N := 8) (v := .int (zwo y)) hx hb hts hi_X0_becomeDuplicate_X0 hown hw (zu_o hu hcb hne) rfl 1 (by decide) hf_X0_becomeDuplicate_35 rfl dX0_becomeDuplicate_10 ?_
  refine zw_put (X1 := ((zwk y), (zwo y), (zws x), (zwr x), (zwc x), (zwp x), (zwe x), (zwm x))) (ty := .boolean) hx hb hts hi_X0_becomeDuplicate_X0 hown hw (hc).1 hu 1 (by decide) hf_X0_becomeDuplicate_35 rfl rfl ho.1 ho.2 rfl dX0_becomeDuplicate_13 (fun f_2 H locs hu hw => ?_)
  refine lv_aload_n hx hb dX0_becomeDuplicate_16 rfl (lv_at hl 0 rfl) ?_
  refine lv_aload_n hx hb dX0_becomeDuplicate_17 rfl (lv_at hl 1 rfl) ?_
  refine zr_get (C := RX0) (T := TX0) (N := 8) (v := .ref (zws y)) hx hb hts hi_X0_becomeDuplicate_X0 hown hw (zu_o hu hcb hne) rfl 2 (by decide) hf_X0_becomeDuplicate_15 rfl dX0_becomeDuplicate_18 ?_
  refine zw_put (X1 := ((zwk y), (zwo y), (zws y), (zwr x), (zwc x), (zwp x), (zwe x), (zwm x))) (ty := (.array .long)) hx hb hts hi_X0_becomeDuplicate_X0 hown hw (hc).1 hu 2 (by decide) hf_X0_becomeDuplicate_15 rfl rfl rfl rfl rfl dX0_becomeDuplicate_21 (fun f_3 H locs hu hw => ?_)
  refine lv_aload_n hx hb dX0_becomeDuplicate_24 rfl (lv_at hl 0 rfl) ?_
  refine lv_aload_n hx hb dX0_becomeDuplicate_25 rfl (lv_at hl 1 rfl) ?_
  refine zr_get (C := RX0) (T := TX0) (N := 8) (v := .int (zwr y)) hx hb hts hi_X0_becomeDuplicate_X0 hown hw (zu_o hu hcb hne) rfl 3 (by decide) hf_X0_becomeDuplicate_32 rfl dX0_becomeDuplicate_26 ?_
  refine zw_put (X1 := ((zwk y), (zwo y), (zws y), (zwr y), (zwc x), (zwp x), (zwe x), (zwm x))) (ty := .int) hx hb hts hi_X0_becomeDuplicate_X0 hown hw (hc).1 hu 3 (by decide) hf_X0_becomeDuplicate_32 rfl rfl rfl rfl rfl dX0_becomeDuplicate_29 (fun f_4 H locs hu hw => ?_)
  refine lv_aload_n hx hb dX0_becomeDuplicate_32 rfl (lv_at hl 0 rfl) ?_
  refine lv_aload_n hx hb dX0_becomeDuplicate_33 rfl (lv_at hl 1 rfl) ?_
  refine zr_get (C := RX0) (T := TX0) (N := 8) (v := .int (zwc y)) hx hb hts hi_X0_becomeDuplicate_X0 hown hw (zu_o hu hcb hne) rfl 4 (by decide) hf_X0_becomeDuplicate_29 rfl dX0_becomeDuplicate_34 ?_
  refine zw_put (X1 := ((zwk y), (zwo y), (zws y), (zwr y), (zwc y), (zwp x), (zwe x), (zwm x))) (ty := .int) hx hb hts hi_X0_becomeDuplicate_X0 hown hw (hc).1 hu 4 (by decide) hf_X0_becomeDuplicate_29 rfl rfl rfl rfl rfl dX0_becomeDuplicate_37 (fun f_5 H locs hu hw => ?_)
  refine lv_aload_n hx hb dX0_becomeDuplicate_40 rfl (lv_at hl 0 rfl) ?_
  refine lv_aload_n hx hb dX0_becomeDuplicate_41 rfl (lv_at hl 1 rfl) ?_
  refine zr_get (C := RX0) (T := TX0) (N := 8) (v := .int (zwp y)) hx hb hts hi_X0_becomeDuplicate_X0 hown hw (zu_o hu hcb hne) rfl 5 (by decide) hf_X0_becomeDuplicate_26 rfl dX0_becomeDuplicate_42 ?_
  refine zw_put (X1 := ((zwk y), (zwo y), (zws y), (zwr y), (zwc y), (zwp y), (zwe x), (zwm x))) (ty := .int) hx hb hts hi_X0_becomeDuplicate_X0 hown hw (hc).1 hu 5 (by decide) hf_X0_becomeDuplicate_26 rfl rfl rfl rfl rfl dX0_becomeDuplicate_45 (fun f_6 H locs hu hw => ?_)
  refine lv_aload_n hx hb dX0_becomeDuplicate_48 rfl (lv_at hl 0 rfl) ?_
  refine lv_aload_n hx hb dX0_becomeDuplicate_49 rfl (lv_at hl 1 rfl) ?_
  refine zr_get (C := RX0) (T := TX0) (N := 8) (v := .int (zwe y)) hx hb hts hi_X0_becomeDuplicate_X0 hown hw (zu_o hu hcb hne) rfl 6 (by decide) hf_X0_becomeDuplicate_23 rfl dX0_becomeDuplicate_50 ?_
  refine zw_put (X1 := ((zwk y), (zwo y), (zws y), (zwr y), (zwc y), (zwp y), (zwe y), (zwm x))) (ty := .int) hx hb hts hi_X0_becomeDuplicate_X0 hown hw (hc).1 hu 6 (by decide) hf_X0_becomeDuplicate_23 rfl rfl rfl rfl rfl dX0_becomeDuplicate_53 (fun f_7 H locs hu hw => ?_)
  refine lv_aload_n hx hb dX0_becomeDuplicate_56 rfl (lv_at hl 0 rfl) ?_
  refine lv_aload_n hx hb dX0_becomeDuplicate_57 rfl (lv_at hl 1 rfl) ?_
  refine zr_get (C := RX0) (T := TX0) (N := 8) (v := .int (zwm y)) hx hb hts hi_X0_becomeDuplicate_X0 hown hw (zu_o hu hcb hne) rfl 7 (by decide) hf_X0_becomeDuplicate_19 rfl dX0_becomeDuplicate_58 ?_
  refine zw_put (X1 := ((zwk y), (zwo y), (zws y), (zwr y), (zwc y), (zwp y), (zwe y), (zwm y))) (ty := .int) hx hb hts hi_X0_becomeDuplicate_X0 hown hw (hc).1 hu 7 (by decide) hf_X0_becomeDuplicate_19 rfl rfl rfl rfl rfl dX0_becomeDuplicate_61 (fun f_8 H locs hu hw => ?_)
  exact z_vret hx hb hr hlocks hw (Nat.le_of_ble_eq_true rfl) (Nat.le_of_ble_eq_true rfl) dX0_becomeDuplicate_64 ⟨rfl, rfl, hu⟩

set_option maxRecDepth 100000 in
set_option maxHeartbeats 4000000 in
theorem c_X0_becomeDuplicate_s (l : Launch) (g : zG) (L : List Nat) (f : Nat → va_E) (a : Nat) (x : ZW) (hc : zc L f a (.inr (0, zwf x))) (hk : zchar (zwk x)) (ho : zbool (zwo x)) : zC l yX0_becomeDuplicate wsX0_becomeDuplicate { frames := 0, cells := 0, slots := 0, locals := 0 } 0 0 g [.ref a, .ref a] L f (fun r L1 f1 => none = r ∧ L = L1 ∧ va_up f a (.inr (0, zwf ((zwk x), (zwo x), (zws x), (zwr x), (zwc x), (zwp x), (zwe x), (zwm x)))) = f1) zNo := by
  refine z_ofW (cc := cX0_becomeDuplicate) (maxL := 2) (ret := none) (by decide) rfl (Nat.le_of_ble_eq_true rfl) ?_
  intro p e s m args below meth c ls A hx hb hr hts hown hlocks hml htab hin hw hX hl
  have hl : lv_has ls 2 [(0, .ref a), (1, .ref a)] := hl
  have hown : s.vm.findClass RX0 = some m.cls := hown
  refine lv_aload_n hx hb dX0_becomeDuplicate_0 rfl (lv_at hl 0 rfl) ?_
  refine lv_aload_n hx hb dX0_becomeDuplicate_1 rfl (lv_at hl 1 rfl) ?_
  refine zr_get (C := RX0) (T := TX0) (N := 8) (v := .int (zwk x)) hx hb hts hi_X0_becomeDuplicate_X0 hown hw hc rfl 0 (by decide) hf_X0_becomeDuplicate_9 rfl dX0_becomeDuplicate_2 ?_
  have hu := zu_id (hc).2
  refine zw_put (X1 := ((zwk x), (zwo x), (zws x), (zwr x), (zwc x), (zwp x), (zwe x), (zwm x))) (ty := .char) hx hb hts hi_X0_becomeDuplicate_X0 hown hw (hc).1 hu 0 (by decide) hf_X0_becomeDuplicate_9 rfl rfl hk.1 hk.2 rfl dX0_becomeDuplicate_5 (fun f_1 H locs hu hw => ?_)
  refine lv_aload_n hx hb dX0_becomeDuplicate_8 rfl (lv_at hl 0 rfl) ?_
  refine lv_aload_n hx hb dX0_becomeDuplicate_9 rfl (lv_at hl 1 rfl) ?_
  refine zr_get (C := RX0) (T := TX0) (N := 8) (v := .int (zwo x)) hx hb hts hi_X0_becomeDuplicate_X0 hown hw (zu_c (hc).1 hu) rfl 1 (by decide) hf_X0_becomeDuplicate_35 rfl dX0_becomeDuplicate_10 ?_
  refine zw_put (X1 := ((zwk x), (zwo x), (zws x), (zwr x), (zwc x), (zwp x), (zwe x), (zwm x))) (ty := .boolean) hx hb hts hi_X0_becomeDuplicate_X0 hown hw (hc).1 hu 1 (by decide) hf_X0_becomeDuplicate_35 rfl rfl ho.1 ho.2 rfl dX0_becomeDuplicate_13 (fun f_2 H locs hu hw => ?_)
  refine lv_aload_n hx hb dX0_becomeDuplicate_16 rfl (lv_at hl 0 rfl) ?_
  refine lv_aload_n hx hb dX0_becomeDuplicate_17 rfl (lv_at hl 1 rfl) ?_
  refine zr_get (C := RX0) (T := TX0) (N := 8) (v := .ref (zws x)) hx hb hts hi_X0_becomeDuplicate_X0 hown hw (zu_c (hc).1 hu) rfl 2 (by decide) hf_X0_becomeDuplicate_15 rfl dX0_becomeDuplicate_18 ?_
  refine zw_put (X1 := ((zwk x), (zwo x), (zws x), (zwr x), (zwc x), (zwp x), (zwe x), (zwm x))) (ty := (.array .long)) hx hb hts hi_X0_becomeDuplicate_X0 hown hw (hc).1 hu 2 (by decide) hf_X0_becomeDuplicate_15 rfl rfl rfl rfl rfl dX0_becomeDuplicate_21 (fun f_3 H locs hu hw => ?_)
  refine lv_aload_n hx hb dX0_becomeDuplicate_24 rfl (lv_at hl 0 rfl) ?_
  refine lv_aload_n hx hb dX0_becomeDuplicate_25 rfl (lv_at hl 1 rfl) ?_
  refine zr_get (C := RX0) (T := TX0) (N := 8) (v := .int (zwr x)) hx hb hts hi_X0_becomeDuplicate_X0 hown hw (zu_c (hc).1 hu) rfl 3 (by decide) hf_X0_becomeDuplicate_32 rfl dX0_becomeDuplicate_26 ?_
  refine zw_put (X1 := ((zwk x), (zwo x), (zws x), (zwr x), (zwc x), (zwp x), (zwe x), (zwm x))) (ty := .int) hx hb hts hi_X0_becomeDuplicate_X0 hown hw (hc).1 hu 3 (by decide) hf_X0_becomeDuplicate_32 rfl rfl rfl rfl rfl dX0_becomeDuplicate_29 (fun f_4 H locs hu hw => ?_)
  refine lv_aload_n hx hb dX0_becomeDuplicate_32 rfl (lv_at hl 0 rfl) ?_
  refine lv_aload_n hx hb dX0_becomeDuplicate_33 rfl (lv_at hl 1 rfl) ?_
  refine zr_get (C := RX0) (T := TX0) (N := 8) (v := .int (zwc x)) hx hb hts hi_X0_becomeDuplicate_X0 hown hw (zu_c (hc).1 hu) rfl 4 (by decide) hf_X0_becomeDuplicate_29 rfl dX0_becomeDuplicate_34 ?_
  refine zw_put (X1 := ((zwk x), (zwo x), (zws x), (zwr x), (zwc x), (zwp x), (zwe x), (zwm x))) (ty := .int) hx hb hts hi_X0_becomeDuplicate_X0 hown hw (hc).1 hu 4 (by decide) hf_X0_becomeDuplicate_29 rfl rfl rfl rfl rfl dX0_becomeDuplicate_37 (fun f_5 H locs hu hw => ?_)
  refine lv_aload_n hx hb dX0_becomeDuplicate_40 rfl (lv_at hl 0 rfl) ?_
  refine lv_aload_n hx hb dX0_becomeDuplicate_41 rfl (lv_at hl 1 rfl) ?_
  refine zr_get (C := RX0) (T := TX0) (N := 8) (v := .int (zwp x)) hx hb hts hi_X0_becomeDuplicate_X0 hown hw (zu_c (hc).1 hu) rfl 5 (by decide) hf_X0_becomeDuplicate_26 rfl dX0_becomeDuplicate_42 ?_
  refine zw_put (X1 := ((zwk x), (zwo x), (zws x), (zwr x), (zwc x), (zwp x), (zwe x), (zwm x))) (ty := .int) hx hb hts hi_X0_becomeDuplicate_X0 hown hw (hc).1 hu 5 (by decide) hf_X0_becomeDuplicate_26 rfl rfl rfl rfl rfl dX0_becomeDuplicate_45 (fun f_6 H locs hu hw => ?_)
  refine lv_aload_n hx hb dX0_becomeDuplicate_48 rfl (lv_at hl 0 rfl) ?_
  refine lv_aload_n hx hb dX0_becomeDuplicate_49 rfl (lv_at hl 1 rfl) ?_
  refine zr_get (C := RX0) (T := TX0) (N := 8) (v := .int (zwe x)) hx hb hts hi_X0_becomeDuplicate_X0 hown hw (zu_c (hc).1 hu) rfl 6 (by decide) hf_X0_becomeDuplicate_23 rfl dX0_becomeDuplicate_50 ?_
  refine zw_put (X1 := ((zwk x), (zwo x), (zws x), (zwr x), (zwc x), (zwp x), (zwe x), (zwm x))) (ty := .int) hx hb hts hi_X0_becomeDuplicate_X0 hown hw (hc).1 hu 6 (by decide) hf_X0_becomeDuplicate_23 rfl rfl rfl rfl rfl dX0_becomeDuplicate_53 (fun f_7 H locs hu hw => ?_)
  refine lv_aload_n hx hb dX0_becomeDuplicate_56 rfl (lv_at hl 0 rfl) ?_
  refine lv_aload_n hx hb dX0_becomeDuplicate_57 rfl (lv_at hl 1 rfl) ?_
  refine zr_get (C := RX0) (T := TX0) (N := 8) (v := .int (zwm x)) hx hb hts hi_X0_becomeDuplicate_X0 hown hw (zu_c (hc).1 hu) rfl 7 (by decide) hf_X0_becomeDuplicate_19 rfl dX0_becomeDuplicate_58 ?_
  refine zw_put (X1 := ((zwk x), (zwo x), (zws x), (zwr x), (zwc x), (zwp x), (zwe x), (zwm x))) (ty := .int) hx hb hts hi_X0_becomeDuplicate_X0 hown hw (hc).1 hu 7 (by decide) hf_X0_becomeDuplicate_19 rfl rfl rfl rfl rfl dX0_becomeDuplicate_61 (fun f_8 H locs hu hw => ?_)
  exact z_vret hx hb hr hlocks hw (Nat.le_of_ble_eq_true rfl) (Nat.le_of_ble_eq_true rfl) dX0_becomeDuplicate_64 ⟨rfl, rfl, hu⟩

/-- either way: the source may be the window itself -/
theorem c_X0_becomeSlice (l : Launch) (g : zG) (L : List Nat) (f : Nat → va_E) (a : Nat) (x : ZW) (b : Nat) (y : ZW) (p0 p1 : Int32) (hc : zc L f a (.inr (0, zwf x))) (hcb : zc L f b (.inr (0, zwf y))) (hk : zchar (zwk y)) (ho : zbool (zwo y)) : zC l yX0_becomeSlice wsX0_becomeSlice { frames := 1, cells := 0, slots := 0, locals := 22 } 0 0 g [.ref a, .ref b, .int p0, .int p1] L f (fun r L1 f1 => none = r ∧ L = L1 ∧ va_up f a (.inr (0, zwf (zwk y, zwo y, zws y, zwr y + p0, p1, 0, p1, -1))) = f1) zNo := by
  by_cases h : b = a
  · subst h
    have e := hcb.eq hc
    have e : y = x := by
      simp only [Sum.inr.injEq, Prod.mk.injEq, List.cons.injEq, Value.int.injEq, Value.ref.injEq, true_and, and_true] at e
      obtain ⟨h1, h2, h3, h4, h5, h6, h7, h8⟩ := e
      exact Prod.ext h1 (Prod.ext h2 (Prod.ext h3 (Prod.ext h4 (Prod.ext h5 (Prod.ext h6 (Prod.ext h7 h8))))))
    subst e
    exact c_X0_becomeSlice_s l g L f _ y p0 p1 hc hk ho
  · exact c_X0_becomeSlice_d l g L f a x b y p0 p1 hc hcb h hk ho
theorem c_X0_becomeDuplicate (l : Launch) (g : zG) (L : List Nat) (f : Nat → va_E) (a : Nat) (x : ZW) (b : Nat) (y : ZW) (hc : zc L f a (.inr (0, zwf x))) (hcb : zc L f b (.inr (0, zwf y))) (hk : zchar (zwk y)) (ho : zbool (zwo y)) : zC l yX0_becomeDuplicate wsX0_becomeDuplicate { frames := 0, cells := 0, slots := 0, locals := 0 } 0 0 g [.ref a, .ref b] L f (fun r L1 f1 => none = r ∧ L = L1 ∧ va_up f a (.inr (0, zwf ((zwk y), (zwo y), (zws y), (zwr y), (zwc y), (zwp y), (zwe y), (zwm y)))) = f1) zNo := by
  by_cases h : b = a
  · subst h
    have e := hcb.eq hc
    have e : y = x := by
      simp only [Sum.inr.injEq, Prod.mk.injEq, List.cons.injEq, Value.int.injEq, Value.ref.injEq, true_and, and_true] at e
      obtain ⟨h1, h2, h3, h4, h5, h6, h7, h8⟩ := e
      exact Prod.ext h1 (Prod.ext h2 (Prod.ext h3 (Prod.ext h4 (Prod.ext h5 (Prod.ext h6 (Prod.ext h7 h8))))))
    subst e
    exact c_X0_becomeDuplicate_s l g L f _ y hc hk ho
  · exact c_X0_becomeDuplicate_d l g L f a x b y hc hcb h hk ho

theorem hi_X0_valueAt_X0 : ∀ w ∈ wsX00, w ∈ wsX0_valueAt := by decide +kernel
theorem hf_X0_valueAt_15 : Cond.fieldLink RX0 15 (TX0 2).1 (TX0 2).2.1 (TX0 2).2.2.1 ∈ wsX0_valueAt := by decide +kernel
theorem hf_X0_valueAt_32 : Cond.fieldLink RX0 32 (TX0 3).1 (TX0 3).2.1 (TX0 3).2.2.1 ∈ wsX0_valueAt := by decide +kernel
set_option maxRecDepth 100000 in
set_option maxHeartbeats 4000000 in
theorem c_X0_valueAt (l : Launch) (g : zG) (L : List Nat) (f : Nat → va_E) (a : Nat) (x : ZW) (p0 : Int32) {n : Nat} {ct : Nat → Int64} (hc : zc L f a (.inr (0, zwf x))) (hs : zc L f (zws x) (.inl (g.2 1, n, .inr (.inl ct)))) (hi : vp_in (zwr x + p0) n) : zC l yX0_valueAt wsX0_valueAt { frames := 0, cells := 0, slots := 0, locals := 0 } 0 0 g [.ref a, .int p0] L f (fun r L1 f1 => some (.long (ct (Int32.toNatClampNeg (zwr x + p0)))) = r ∧ L = L1 ∧ f = f1) zNo := by
  refine z_ofW (cc := cX0_valueAt) (maxL := 2) (ret := (some .long)) (by decide) rfl (Nat.le_of_ble_eq_true rfl) ?_
  intro p e s m args below meth c ls A hx hb hr hts hown hlocks hml htab hin hw hX hl
  have hl : lv_has ls 2 [(0, .ref a), (1, .int p0)] := hl
  have hown : s.vm.findClass RX0 = some m.cls := hown
  refine lv_aload_n hx hb dX0_valueAt_0 rfl (lv_at hl 0 rfl) ?_
  refine zr_get (C := RX0) (T := TX0) (N := 8) (v := .ref (zws x)) hx hb hts hi_X0_valueAt_X0 hown hw hc rfl 2 (by decide) hf_X0_valueAt_15 rfl dX0_valueAt_1 ?_
  refine lv_aload_n hx hb dX0_valueAt_4 rfl (lv_at hl 0 rfl) ?_
  refine zr_get (C := RX0) (T := TX0) (N := 8) (v := .int (zwr x)) hx hb hts hi_X0_valueAt_X0 hown hw hc rfl 3 (by decide) hf_X0_valueAt_32 rfl dX0_valueAt_5 ?_
  refine lv_iload_n hx hb dX0_valueAt_8 rfl (lv_at hl 1 rfl) ?_
  refine lv_iadd hx hb dX0_valueAt_9 ?_
  refine zr_lald hx hb hw hs hi dX0_valueAt_10 ?_
  exact z_lret hx hb hr hlocks hw (Nat.le_of_ble_eq_true rfl) (Nat.le_of_ble_eq_true rfl) dX0_valueAt_11 ⟨rfl, rfl, rfl⟩

theorem hi_X0_cut_X0 : ∀ w ∈ wsX00, w ∈ wsX0_cut := by decide +kernel
theorem hf_X0_cut_9 : Cond.fieldLink RX0 9 (TX0 0).1 (TX0 0).2.1 (TX0 0).2.2.1 ∈ wsX0_cut := by decide +kernel
set_option maxRecDepth 100000 in
set_option maxHeartbeats 4000000 in
theorem c_X0_cut (l : Launch) (g : zG) (L : List Nat) (f : Nat → va_E) (a : Nat) (x : ZW) (p0 : Int64) (hc : zc L f a (.inr (0, zwf x))) : zC l yX0_cut wsX0_cut { frames := 0, cells := 0, slots := 0, locals := 0 } 0 0 g [.ref a, .long p0] L f (fun r L1 f1 => some (.long (zcut (zwk x) p0)) = r ∧ L = L1 ∧ f = f1) zNo := by
  refine z_ofW (cc := cX0_cut) (maxL := 3) (ret := (some .long)) (by decide) rfl (Nat.le_of_ble_eq_true rfl) ?_
  intro p e s m args below meth c ls A hx hb hr hts hown hlocks hml htab hin hw hX hl
  have hl : lv_has ls 3 [(0, .ref a), (1, .long p0)] := hl
  have hown : s.vm.findClass RX0 = some m.cls := hown
  refine lv_aload_n hx hb dX0_cut_0 rfl (lv_at hl 0 rfl) ?_
  refine zr_get (C := RX0) (T := TX0) (N := 8) (v := .int (zwk x)) hx hb hts hi_X0_cut_X0 hown hw hc rfl 0 (by decide) hf_X0_cut_9 rfl dX0_cut_1 ?_
  refine lv_bipush (v := 105) hx hb dX0_cut_4 (by decide) ?_
  refine lv_icmp_ne (tgt := 13) hx hb dX0_cut_6 (by decide) (fun c_1 => ?_) (fun c_1 => ?_)
  · refine lv_aload_n hx hb dX0_cut_13 rfl (lv_at hl 0 rfl) ?_
    refine zr_get (C := RX0) (T := TX0) (N := 8) (v := .int (zwk x)) hx hb hts hi_X0_cut_X0 hown hw hc rfl 0 (by decide) hf_X0_cut_9 rfl dX0_cut_14 ?_
    refine lv_bipush (v := 99) hx hb dX0_cut_17 (by decide) ?_
    refine lv_icmp_ne (tgt := 28) hx hb dX0_cut_19 (by decide) (fun c_2 => ?_) (fun c_2 => ?_)
    · refine lv_aload_n hx hb dX0_cut_28 rfl (lv_at hl 0 rfl) ?_
      refine zr_get (C := RX0) (T := TX0) (N := 8) (v := .int (zwk x)) hx hb hts hi_X0_cut_X0 hown hw hc rfl 0 (by decide) hf_X0_cut_9 rfl dX0_cut_29 ?_
      refine lv_bipush (v := 115) hx hb dX0_cut_32 (by decide) ?_
      refine lv_icmp_ne (tgt := 42) hx hb dX0_cut_34 (by decide) (fun c_3 => ?_) (fun c_3 => ?_)
      · refine lv_lload_n hx hb dX0_cut_42 rfl (lv_at hl 1 rfl) ?_
        exact z_lret hx hb hr hlocks hw (Nat.le_of_ble_eq_true rfl) (Nat.le_of_ble_eq_true rfl) dX0_cut_43 ⟨congrArg (fun z => some (Value.long z)) (show zcut (zwk x) p0 = _ from ((if_neg c_1).trans ((if_neg c_2).trans (if_neg c_3)))), rfl, rfl⟩
      · refine lv_lload_n hx hb dX0_cut_37 rfl (lv_at hl 1 rfl) ?_
        refine lv_l2i (v := p0.toInt32) hx hb dX0_cut_38 rfl ?_
        refine lv_i2s (v := p0.toInt32.toInt16.toInt32) hx hb dX0_cut_39 rfl ?_
        refine lv_i2l (v := p0.toInt32.toInt16.toInt32.toInt64) hx hb dX0_cut_40 rfl ?_
        exact z_lret hx hb hr hlocks hw (Nat.le_of_ble_eq_true rfl) (Nat.le_of_ble_eq_true rfl) dX0_cut_41 ⟨congrArg (fun z => some (Value.long z)) (show zcut (zwk x) p0 = _ from ((if_neg c_1).trans ((if_neg c_2).trans (if_pos c_3)))), rfl, rfl⟩
    · refine lv_lload_n hx hb dX0_cut_22 rfl (lv_at hl 1 rfl) ?_
      refine lv_ldc2 (v := 255) hx hb hown (hts (.constantLong RX0 55 255) (by decide +kernel)) dX0_cut_23 ?_
      refine lv_land hx hb dX0_cut_26 ?_
      exact z_lret hx hb hr hlocks hw (Nat.le_of_ble_eq_true rfl) (Nat.le_of_ble_eq_true rfl) dX0_cut_27 ⟨congrArg (fun z => some (Value.long z)) (show zcut (zwk x) p0 = _ from ((if_neg c_1).trans (if_pos c_2))), rfl, rfl⟩
  · refine lv_lload_n hx hb dX0_cut_9 rfl (lv_at hl 1 rfl) ?_
    refine lv_l2i (v := p0.toInt32) hx hb dX0_cut_10 rfl ?_
    refine lv_i2l (v := p0.toInt32.toInt64) hx hb dX0_cut_11 rfl ?_
    exact z_lret hx hb hr hlocks hw (Nat.le_of_ble_eq_true rfl) (Nat.le_of_ble_eq_true rfl) dX0_cut_12 ⟨congrArg (fun z => some (Value.long z)) (show zcut (zwk x) p0 = _ from (if_pos c_1)), rfl, rfl⟩

theorem hi_X0_changeAt_X0 : ∀ w ∈ wsX00, w ∈ wsX0_changeAt := by decide +kernel
theorem hf_X0_changeAt_15 : Cond.fieldLink RX0 15 (TX0 2).1 (TX0 2).2.1 (TX0 2).2.2.1 ∈ wsX0_changeAt := by decide +kernel
theorem hf_X0_changeAt_32 : Cond.fieldLink RX0 32 (TX0 3).1 (TX0 3).2.1 (TX0 3).2.2.1 ∈ wsX0_changeAt := by decide +kernel
set_option maxRecDepth 100000 in
set_option maxHeartbeats 4000000 in
theorem c_X0_changeAt (l : Launch) (g : zG) (L : List Nat) (f : Nat → va_E) (a : Nat) (x : ZW) (p0 : Int32) (p1 : Int64) {n : Nat} {ct : Nat → Int64} (hc : zc L f a (.inr (0, zwf x))) (hs : zc L f (zws x) (.inl (g.2 1, n, .inr (.inl ct)))) (hi : vp_in (zwr x + p0) n) : zC l yX0_changeAt wsX0_changeAt { frames := 1, cells := 0, slots := 0, locals := 22 } 0 0 g [.ref a, .int p0, .long p1] L f (fun r L1 f1 => none = r ∧ L = L1 ∧ va_up f (zws x) (.inl (g.2 1, n, .inr (.inl (vp_updL ct (Int32.toNatClampNeg (zwr x + p0)) (zcut (zwk x) p1))))) = f1) zNo := by
  refine z_ofW (cc := cX0_changeAt) (maxL := 4) (ret := none) (by decide) rfl (Nat.le_of_ble_eq_true rfl) ?_
  intro p e s m args below meth c ls A hx hb hr hts hown hlocks hml htab hin hw hX hl
  have hl : lv_has ls 4 [(0, .ref a), (1, .int p0), (2, .long p1)] := hl
  have hown : s.vm.findClass RX0 = some m.cls := hown
  refine lv_aload_n hx hb dX0_changeAt_0 rfl (lv_at hl 0 rfl) ?_
  refine zr_get (C := RX0) (T := TX0) (N := 8) (v := .ref (zws x)) hx hb hts hi_X0_changeAt_X0 hown hw hc rfl 2 (by decide) hf_X0_changeAt_15 rfl dX0_changeAt_1 ?_
  refine lv_aload_n hx hb dX0_changeAt_4 rfl (lv_at hl 0 rfl) ?_
  refine zr_get (C := RX0) (T := TX0) (N := 8) (v := .int (zwr x)) hx hb hts hi_X0_changeAt_X0 hown hw hc rfl 3 (by decide) hf_X0_changeAt_32 rfl dX0_changeAt_5 ?_
  refine lv_iload_n hx hb dX0_changeAt_8 rfl (lv_at hl 1 rfl) ?_
  refine lv_iadd hx hb dX0_changeAt_9 ?_
  refine lv_aload_n hx hb dX0_changeAt_10 rfl (lv_at hl 0 rfl) ?_
  refine lv_lload_n hx hb dX0_changeAt_11 rfl (lv_at hl 2 rfl) ?_
  refine z_callV (As := [.long p1]) (rest := [.int ((zwr x) + p0), .ref (zws x)]) ⟨hx, hb, hml, hown, hts⟩ hw hX hc rfl (c_X0_cut l g L f a ((zwk x), (zwo x), (zws x), (zwr x), (zwc x), (zwp x), (zwe x), (zwm x)) p1 hc) (cwV 1 hts gX0_changeAt_X0_cut rfl rfl rfl (by decide +kernel) ⟨(Nat.le_of_ble_eq_true rfl), (Nat.le_of_ble_eq_true rfl)⟩) rfl hl.1 rfl (Nat.le_of_ble_eq_true rfl) dX0_changeAt_12 ⟨(Nat.le_of_ble_eq_true rfl), (Nat.le_of_ble_eq_true rfl)⟩ (fun _ _ _ _ _ _ _ hp => False.elim hp) (fun r9 L9 f9 H locs hp hw => ?_)
  obtain ⟨rfl, rfl, rfl⟩ := hp
  refine W.eq (g2 := F0 m 15 ls [.long (zcut (zwk x) p1), .int ((zwr x) + p0), .ref (zws x)]) rfl ?_
  refine zr_last hx hb hw hs hi dX0_changeAt_15 (fun H locs hw => ?_)
  obtain ⟨f_1, hf_1⟩ : ∃ z, va_up f (zws x) (.inl (g.2 1, n, .inr (.inl (vp_updL ct (Int32.toNatClampNeg ((zwr x) + p0)) (zcut (zwk x) p1))))) = z := ⟨_, rfl⟩
  rw [hf_1] at hw
  have hc_2 := zu_o hf_1 hc (zc.dj hc hs (by intro h; cases h))
  have hc_3 := zu_c (hs).1 hf_1
  exact z_vret hx hb hr hlocks hw (Nat.le_of_ble_eq_true rfl) (Nat.le_of_ble_eq_true rfl) dX0_changeAt_16 ⟨rfl, rfl, hf_1⟩

theorem hi_X0_takeNext_X0 : ∀ w ∈ wsX00, w ∈ wsX0_takeNext := by decide +kernel
theorem hf_X0_takeNext_26 : Cond.fieldLink RX0 26 (TX0 5).1 (TX0 5).2.1 (TX0 5).2.2.1 ∈ wsX0_takeNext := by decide +kernel
set_option maxRecDepth 100000 in
set_option maxHeartbeats 4000000 in
theorem c_X0_takeNext (l : Launch) (g : zG) (L : List Nat) (f : Nat → va_E) (a : Nat) (x : ZW) {n : Nat} {ct : Nat → Int64} (hc : zc L f a (.inr (0, zwf x))) (hs : zc L f (zws x) (.inl (g.2 1, n, .inr (.inl ct)))) (hi : vp_in (zwr x + zwp x) n) : zC l yX0_takeNext wsX0_takeNext { frames := 1, cells := 0, slots := 0, locals := 21 } 0 0 g [.ref a] L f (fun r L1 f1 => some (.long (ct (Int32.toNatClampNeg (zwr x + zwp x)))) = r ∧ L = L1 ∧ va_up f a (.inr (0, zwf ((zwk x), (zwo x), (zws x), (zwr x), (zwc x), zwp x + 1, (zwe x), (zwm x)))) = f1) zNo := by
  refine z_ofW (cc := cX0_takeNext) (maxL := 3) (ret := (some .long)) (by decide) rfl (Nat.le_of_ble_eq_true rfl) ?_
  intro p e s m args below meth c ls A hx hb hr hts hown hlocks hml htab hin hw hX hl
  have hl : lv_has ls 3 [(0, .ref a)] := hl
  have hown : s.vm.findClass RX0 = some m.cls := hown
  refine lv_aload_n hx hb dX0_takeNext_0 rfl (lv_at hl 0 rfl) ?_
  refine lv_aload_n hx hb dX0_takeNext_1 rfl (lv_at hl 0 rfl) ?_
  refine zr_get (C := RX0) (T := TX0) (N := 8) (v := .int (zwp x)) hx hb hts hi_X0_takeNext_X0 hown hw hc rfl 5 (by decide) hf_X0_takeNext_26 rfl dX0_takeNext_2 ?_
  refine z_callV (As := [.int (zwp x)]) (rest := []) ⟨hx, hb, hml, hown, hts⟩ hw hX hc rfl (c_X0_valueAt l g L f a ((zwk x), (zwo x), (zws x), (zwr x), (zwc x), (zwp x), (zwe x), (zwm x)) (zwp x) hc hs hi) (cwV 1 hts gX0_takeNext_X0_valueAt rfl rfl rfl (by decide +kernel) ⟨(Nat.le_of_ble_eq_true rfl), (Nat.le_of_ble_eq_true rfl)⟩) rfl hl.1 rfl (Nat.le_of_ble_eq_true rfl) dX0_takeNext_5 ⟨(Nat.le_of_ble_eq_true rfl), (Nat.le_of_ble_eq_true rfl)⟩ (fun _ _ _ _ _ _ _ hp => False.elim hp) (fun r9 L9 f9 H locs hp hw => ?_)
  obtain ⟨rfl, rfl, rfl⟩ := hp
  refine W.eq (g2 := F0 m 8 ls [.long (ct (Int32.toNatClampNeg ((zwr x) + (zwp x))))]) rfl ?_
  refine lv_lstore_n (lv' := [(1, .long (ct (Int32.toNatClampNeg ((zwr x) + (zwp x))))), (0, .ref a)]) hx hb dX0_takeNext_8 rfl hl (by decide) rfl (fun ls hl => ?_)
  refine lv_aload_n hx hb dX0_takeNext_9 rfl (lv_at hl 1 rfl) ?_
  refine lv_dup hx hb dX0_takeNext_10 rfl ?_
  refine zr_get (C := RX0) (T := TX0) (N := 8) (v := .int (zwp x)) hx hb hts hi_X0_takeNext_X0 hown hw hc rfl 5 (by decide) hf_X0_takeNext_26 rfl dX0_takeNext_11 ?_
  refine lv_iconst (v := 1) hx hb dX0_takeNext_14 (by decide) ?_
  refine lv_iadd hx hb dX0_takeNext_15 ?_
  have hu := zu_id (hc).2
  refine zw_put (X1 := ((zwk x), (zwo x), (zws x), (zwr x), (zwc x), ((zwp x) + 1), (zwe x), (zwm x))) (ty := .int) hx hb hts hi_X0_takeNext_X0 hown hw (hc).1 hu 5 (by decide) hf_X0_takeNext_26 rfl rfl rfl rfl rfl dX0_takeNext_16 (fun f_1 H locs hu hw => ?_)
  refine lv_lload_n hx hb dX0_takeNext_19 rfl (lv_at hl 0 rfl) ?_
  exact z_lret hx hb hr hlocks hw (Nat.le_of_ble_eq_true rfl) (Nat.le_of_ble_eq_true rfl) dX0_takeNext_20 ⟨rfl, rfl, hu⟩

theorem hi_X0_putNext_X0 : ∀ w ∈ wsX00, w ∈ wsX0_putNext := by decide +kernel
theorem hf_X0_putNext_26 : Cond.fieldLink RX0 26 (TX0 5).1 (TX0 5).2.1 (TX0 5).2.2.1 ∈ wsX0_putNext := by decide +kernel
set_option maxRecDepth 100000 in
set_option maxHeartbeats 4000000 in
theorem c_X0_putNext (l : Launch) (g : zG) (L : List Nat) (f : Nat → va_E) (a : Nat) (x : ZW) (p0 : Int64) {n : Nat} {ct : Nat → Int64} (hc : zc L f a (.inr (0, zwf x))) (hs : zc L f (zws x) (.inl (g.2 1, n, .inr (.inl ct)))) (hi : vp_in (zwr x + zwp x) n) : zC l yX0_putNext wsX0_putNext { frames := 2, cells := 0, slots := 0, locals := 45 } 0 0 g [.ref a, .long p0] L f (fun r L1 f1 => none = r ∧ L = L1 ∧ va_up (va_up f (zws x) (.inl (g.2 1, n, .inr (.inl (vp_updL ct (Int32.toNatClampNeg (zwr x + zwp x)) (zcut (zwk x) p0)))))) a (.inr (0, zwf ((zwk x), (zwo x), (zws x), (zwr x), (zwc x), zwp x + 1, (zwe x), (zwm x)))) = f1) zNo := by
  refine z_ofW (cc := cX0_putNext) (maxL := 3) (ret := none) (by decide) rfl (Nat.le_of_ble_eq_true rfl) ?_
  intro p e s m args below meth c ls A hx hb hr hts hown hlocks hml htab hin hw hX hl
  have hl : lv_has ls 3 [(0, .ref a), (1, .long p0)] := hl
  have hown : s.vm.findClass RX0 = some m.cls := hown
  refine lv_aload_n hx hb dX0_putNext_0 rfl (lv_at hl 0 rfl) ?_
  refine lv_aload_n hx hb dX0_putNext_1 rfl (lv_at hl 0 rfl) ?_
  refine zr_get (C := RX0) (T := TX0) (N := 8) (v := .int (zwp x)) hx hb hts hi_X0_putNext_X0 hown hw hc rfl 5 (by decide) hf_X0_putNext_26 rfl dX0_putNext_2 ?_
  refine lv_lload_n hx hb dX0_putNext_5 rfl (lv_at hl 1 rfl) ?_
  refine z_callV (As := [.int (zwp x), .long p0]) (rest := []) ⟨hx, hb, hml, hown, hts⟩ hw hX hc rfl (c_X0_changeAt l g L f a ((zwk x), (zwo x), (zws x), (zwr x), (zwc x), (zwp x), (zwe x), (zwm x)) (zwp x) p0 hc hs hi) (cwV 2 hts gX0_putNext_X0_changeAt rfl rfl rfl (by decide +kernel) ⟨(Nat.le_of_ble_eq_true rfl), (Nat.le_of_ble_eq_true rfl)⟩) rfl hl.1 rfl (Nat.le_of_ble_eq_true rfl) dX0_putNext_6 ⟨(Nat.le_of_ble_eq_true rfl), (Nat.le_of_ble_eq_true rfl)⟩ (fun _ _ _ _ _ _ _ hp => False.elim hp) (fun r9 L9 f9 H locs hp hw => ?_)
  obtain ⟨rfl, rfl, he_2⟩ := hp
  refine W.eq (g2 := F0 m 9 ls []) rfl ?_
  obtain ⟨f_1, rfl⟩ : ∃ z, z = f9 := ⟨_, rfl⟩
  have hc_3 := zu_o he_2 hc (zc.dj hc hs (by intro h; cases h))
  have hc_4 := zu_c (hs).1 he_2
  refine lv_aload_n hx hb dX0_putNext_9 rfl (lv_at hl 0 rfl) ?_
  refine lv_dup hx hb dX0_putNext_10 rfl ?_
  refine zr_get (C := RX0) (T := TX0) (N := 8) (v := .int (zwp x)) hx hb hts hi_X0_putNext_X0 hown hw hc_3 rfl 5 (by decide) hf_X0_putNext_26 rfl dX0_putNext_11 ?_
  refine lv_iconst (v := 1) hx hb dX0_putNext_14 (by decide) ?_
  refine lv_iadd hx hb dX0_putNext_15 ?_
  have hu := zu_id (hc_3).2
  refine zw_put (X1 := ((zwk x), (zwo x), (zws x), (zwr x), (zwc x), ((zwp x) + 1), (zwe x), (zwm x))) (ty := .int) hx hb hts hi_X0_putNext_X0 hown hw (hc_3).1 hu 5 (by decide) hf_X0_putNext_26 rfl rfl rfl rfl rfl dX0_putNext_16 (fun f_5 H locs hu hw => ?_)
  exact z_vret hx hb hr hlocks hw (Nat.le_of_ble_eq_true rfl) (Nat.le_of_ble_eq_true rfl) dX0_putNext_19 ⟨rfl, rfl, by rw [he_2]; exact hu⟩

set_option maxRecDepth 100000 in
set_option maxHeartbeats 4000000 in
theorem c_X1_summed (l : Launch) (g : zG) (L : List Nat) (f : Nat → va_E) (p0 p1 : Int64) : zC l yX1_summed wsX1_summed { frames := 0, cells := 0, slots := 0, locals := 0 } 0 0 g [.long p0, .long p1] L f (fun r L1 f1 => some (.long (31 * p0 + p1)) = r ∧ L = L1 ∧ f = f1) zNo := by
  refine z_ofW (cc := cX1_summed) (maxL := 4) (ret := (some .long)) (by decide) rfl (Nat.le_of_ble_eq_true rfl) ?_
  intro p e s m args below meth c ls A hx hb hr hts hown hlocks hml htab hin hw hX hl
  have hl : lv_has ls 4 [(0, .long p0), (2, .long p1)] := hl
  have hown : s.vm.findClass RX1 = some m.cls := hown
  refine lv_ldc2 (v := 31) hx hb hown (hts (.constantLong RX1 214 31) (by decide +kernel)) dX1_summed_0 ?_
  refine lv_lload_n hx hb dX1_summed_3 rfl (lv_at hl 0 rfl) ?_
  refine lv_lmul hx hb dX1_summed_4 ?_
  refine lv_lload_n hx hb dX1_summed_5 rfl (lv_at hl 1 rfl) ?_
  refine lv_ladd hx hb dX1_summed_6 ?_
  exact z_lret hx hb hr hlocks hw (Nat.le_of_ble_eq_true rfl) (Nat.le_of_ble_eq_true rfl) dX1_summed_7 ⟨rfl, rfl, rfl⟩

