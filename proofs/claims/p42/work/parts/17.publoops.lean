theorem hi_X1_fill_X0 : ∀ w ∈ wsX00, w ∈ wsX1_fill := by decide +kernel
theorem hf_X1_fill_63 : Cond.fieldLink RX1 63 (TX0 5).1 (TX0 5).2.1 (TX0 5).2.2.1 ∈ wsX1_fill := by decide +kernel
set_option maxRecDepth 100000 in
set_option maxHeartbeats 4000000 in
theorem c_X1_fill (l : Launch) (hl0 : l.stackTraces = false) (g : zG) (L : List Nat) (f : Nat → va_E) (h : Nat) (P : Nat → Prop) (σ : ZS) (p0 : Int32) (p1 : Int32) (p2 : Int64) (p3 : Int64) (hH : zHC g h P σ L f) : zC l yX1_fill wsX1_fill { frames := 9, cells := 5, slots := 30, locals := 146 } 5 30 g [.ref h, .int p0, .int p1, .long p2, .long p3] L f (fun r L1 f1 => (o_fill σ p0 p1 p2 p3).1 = 0 ∧ some (.int (o_fill σ p0 p1 p2 p3).2.1) = r ∧ zHC g h P (o_fill σ p0 p1 p2 p3).2.2 L1 f1 ∧ ∀ b, P b → f1 b = f b) (fun E L1 f1 => zXe ["java/lang/IndexOutOfBoundsException", "java/lang/IllegalArgumentException", "java/lang/UnsupportedOperationException", "java/lang/IllegalStateException"] (o_fill σ p0 p1 p2 p3).1 E ∧ L = L1 ∧ f = f1 ∧ (o_fill σ p0 p1 p2 p3).2.2 = σ) := by
  obtain ⟨ah, G, Rw, rs, wn, ad, ln, kd, ct, rfl, HR⟩ := hH
  obtain ⟨hE, hG, hRw, -⟩ := id HR
  refine z_ofW (cc := cX1_fill) (maxL := 11) (ret := (some .int)) (by decide) rfl (Nat.le_of_ble_eq_true rfl) ?_
  intro p e s m args below meth c ls A hx hb hr hts hown hlocks hml htab hin hw hX hl
  have hl : lv_has ls 11 [(0, .ref (ah 0)), (1, .int p0), (2, .int p1), (3, .long p2), (5, .long p3)] := hl
  have hown : s.vm.findClass RX1 = some m.cls := hown
  refine lv_aload_n hx hb dX1_fill_0 rfl (lv_at hl 0 rfl) ?_
  refine lv_iload_n hx hb dX1_fill_1 rfl (lv_at hl 1 rfl) ?_
  refine z_callV (As := [.int p0]) (rest := []) ⟨hx, hb, hml, hown, hts⟩ hw hX (hE.1 0 (by decide)) rfl (c_X1_windowOf l hl0 g L f ah G Rw rs wn p0 hE hG hRw) (cwV 1 hts gX1_fill_X1_windowOf rfl rfl rfl (by decide +kernel) ⟨(Nat.le_of_ble_eq_true rfl), (Nat.le_of_ble_eq_true rfl)⟩) rfl hl.1 rfl (Nat.le_of_ble_eq_true rfl) dX1_fill_2 ⟨(Nat.le_of_ble_eq_true rfl), (Nat.le_of_ble_eq_true rfl)⟩ (fun E ce q9 L9 f9 H locs hp hw hce hcv hcl => ?_) (fun r9 L9 f9 H locs hp hw => ?_)
  · obtain ⟨ck_1, rfl, rfl, rfl⟩ := hp
    have gz : ¬ zis σ p0 = true := fun q => ck_1 ((zH_is HR).mpr q)
    have ho : (o_fill σ p0 p1 p2 p3) = (1, 0, σ) := by unfold o_fill; first | exact if_neg (show ¬ (zis σ p0 = true) from by assumption)
    exact z_out htab hlocks hw hce hcv hcl (Nat.le_of_ble_eq_true rfl) (Nat.le_of_ble_eq_true rfl) ⟨⟨0, rfl, by rw [ho]; rfl⟩, rfl, rfl, by rw [ho]⟩
  obtain ⟨ck_1, rfl, rfl, rfl⟩ := hp
  refine W.eq (g2 := F0 m 5 ls [.ref (ah ((Int32.toNatClampNeg p0) + 3))]) rfl ?_
  have hc_2 : zc L f (ah ((Int32.toNatClampNeg p0) + 3)) (.inr (0, zwf (wn (Int32.toNatClampNeg p0)))) := hE.1 ((Int32.toNatClampNeg p0) + 3) (by have := vp_lt ck_1.1; omega)
  have gz0 : zis σ p0 = true := (zH_is HR).mp ck_1
  have gw0 := zI_win HR.I gz0
  obtain ⟨hk0, ho0, hr0, hc0, hp0, he0, hm0⟩ := zH_win HR gz0
  obtain ⟨d0, hd0, hs0, hw0, hlv0, hst0, hct0, hkd0⟩ := zH_st HR gz0
  rw [← hw0] at hst0
  refine lv_astore (lv' := [(7, .ref (ah ((Int32.toNatClampNeg p0) + 3))), (0, .ref (ah 0)), (1, .int p0), (2, .int p1), (3, .long p2), (5, .long p3)]) hx hb dX1_fill_5 hl (by decide) rfl (fun ls hl => ?_)
  refine lv_iload_n hx hb dX1_fill_7 rfl (lv_at hl 3 rfl) ?_
  refine z_callS (As := [.int p1]) (rest := []) ⟨hx, hb, hml, hown, hts⟩ hw hX (c_X1_checkMany l hl0 g L f p1) (va_cwS 1 hts gX1_fill_X1_checkMany rfl rfl rfl (by decide +kernel) ⟨(Nat.le_of_ble_eq_true rfl), (Nat.le_of_ble_eq_true rfl)⟩) rfl hl.1 rfl (Nat.le_of_ble_eq_true rfl) dX1_fill_8 ⟨(Nat.le_of_ble_eq_true rfl), (Nat.le_of_ble_eq_true rfl)⟩ (fun E ce q9 L9 f9 H locs hp hw hce hcv hcl => ?_) (fun r9 L9 f9 H locs hp hw => ?_)
  · obtain ⟨rfl, rfl, rfl, ck_3⟩ := hp
    have gm : ¬ 0 ≤ p1 := ck_3
    have ho : (o_fill σ p0 p1 p2 p3) = (2, 0, σ) := by unfold o_fill; first | exact (if_pos (show (zis σ p0 = true) from by assumption)).trans (if_neg (show ¬ (0 ≤ p1) from by assumption))
    exact z_out htab hlocks hw hce hcv hcl (Nat.le_of_ble_eq_true rfl) (Nat.le_of_ble_eq_true rfl) ⟨⟨1, rfl, by rw [ho]; rfl⟩, rfl, rfl, by rw [ho]⟩
  obtain ⟨rfl, rfl, rfl, ck_3⟩ := hp
  refine W.eq (g2 := F0 m 11 ls []) rfl ?_
  have gm : 0 ≤ p1 := ck_3
  refine lv_aload hx hb dX1_fill_11 (lv_at hl 0 rfl) ?_
  refine z_callS (As := [.ref (ah ((Int32.toNatClampNeg p0) + 3))]) (rest := []) ⟨hx, hb, hml, hown, hts⟩ hw hX (c_X1_checkWritable l hl0 g L f (ah ((Int32.toNatClampNeg p0) + 3)) ((zwk (wn (Int32.toNatClampNeg p0))), (zwo (wn (Int32.toNatClampNeg p0))), (zws (wn (Int32.toNatClampNeg p0))), (zwr (wn (Int32.toNatClampNeg p0))), (zwc (wn (Int32.toNatClampNeg p0))), (zwp (wn (Int32.toNatClampNeg p0))), (zwe (wn (Int32.toNatClampNeg p0))), (zwm (wn (Int32.toNatClampNeg p0))))  hc_2) (va_cwS 1 hts gX1_fill_X1_checkWritable rfl rfl rfl (by decide +kernel) ⟨(Nat.le_of_ble_eq_true rfl), (Nat.le_of_ble_eq_true rfl)⟩) rfl hl.1 rfl (Nat.le_of_ble_eq_true rfl) dX1_fill_13 ⟨(Nat.le_of_ble_eq_true rfl), (Nat.le_of_ble_eq_true rfl)⟩ (fun E ce q9 L9 f9 H locs hp hw hce hcv hcl => ?_) (fun r9 L9 f9 H locs hp hw => ?_)
  · obtain ⟨rfl, rfl, rfl, ck_4⟩ := hp
    have gr : ¬ zRD σ (Int32.toNatClampNeg p0) = 0 := by rw [← ho0]; exact ck_4
    have ho : (o_fill σ p0 p1 p2 p3) = (3, 0, σ) := by unfold o_fill; first | exact (if_pos (show (zis σ p0 = true) from by assumption)).trans ((if_pos (show (0 ≤ p1) from by assumption)).trans (if_neg (show ¬ (zRD σ (Int32.toNatClampNeg p0) = 0) from by assumption)))
    exact z_out htab hlocks hw hce hcv hcl (Nat.le_of_ble_eq_true rfl) (Nat.le_of_ble_eq_true rfl) ⟨⟨2, rfl, by rw [ho]; rfl⟩, rfl, rfl, by rw [ho]⟩
  obtain ⟨rfl, rfl, rfl, ck_4⟩ := hp
  refine W.eq (g2 := F0 m 16 ls []) rfl ?_
  have gr : zRD σ (Int32.toNatClampNeg p0) = 0 := by rw [← ho0]; exact ck_4
  refine lv_aload hx hb dX1_fill_16 (lv_at hl 0 rfl) ?_
  refine lv_iload_n hx hb dX1_fill_18 rfl (lv_at hl 3 rfl) ?_
  refine z_callS (As := [.ref (ah ((Int32.toNatClampNeg p0) + 3)), .int p1]) (rest := []) ⟨hx, hb, hml, hown, hts⟩ hw hX (c_X1_checkEnoughToPut l hl0 g L f (ah ((Int32.toNatClampNeg p0) + 3)) ((zwk (wn (Int32.toNatClampNeg p0))), (zwo (wn (Int32.toNatClampNeg p0))), (zws (wn (Int32.toNatClampNeg p0))), (zwr (wn (Int32.toNatClampNeg p0))), (zwc (wn (Int32.toNatClampNeg p0))), (zwp (wn (Int32.toNatClampNeg p0))), (zwe (wn (Int32.toNatClampNeg p0))), (zwm (wn (Int32.toNatClampNeg p0)))) p1 hc_2) (va_cwS 2 hts gX1_fill_X1_checkEnoughToPut rfl rfl rfl (by decide +kernel) ⟨(Nat.le_of_ble_eq_true rfl), (Nat.le_of_ble_eq_true rfl)⟩) rfl hl.1 rfl (Nat.le_of_ble_eq_true rfl) dX1_fill_19 ⟨(Nat.le_of_ble_eq_true rfl), (Nat.le_of_ble_eq_true rfl)⟩ (fun E ce q9 L9 f9 H locs hp hw hce hcv hcl => ?_) (fun r9 L9 f9 H locs hp hw => ?_)
  · obtain ⟨rfl, rfl, rfl, ck_5⟩ := hp
    have ge : ¬ p1 ≤ zEN σ (Int32.toNatClampNeg p0) - zPL σ (Int32.toNatClampNeg p0) := by rw [← he0, ← hp0]; exact ck_5
    have ho : (o_fill σ p0 p1 p2 p3) = (4, 0, σ) := by unfold o_fill; first | exact (if_pos (show (zis σ p0 = true) from by assumption)).trans ((if_pos (show (0 ≤ p1) from by assumption)).trans ((if_pos (show (zRD σ (Int32.toNatClampNeg p0) = 0) from by assumption)).trans (if_neg (show ¬ (p1 ≤ (zEN σ (Int32.toNatClampNeg p0) - zPL σ (Int32.toNatClampNeg p0))) from by assumption))))
    exact z_out htab hlocks hw hce hcv hcl (Nat.le_of_ble_eq_true rfl) (Nat.le_of_ble_eq_true rfl) ⟨⟨3, rfl, by rw [ho]; rfl⟩, rfl, rfl, by rw [ho]⟩
  obtain ⟨rfl, rfl, rfl, ck_5⟩ := hp
  refine W.eq (g2 := F0 m 22 ls []) rfl ?_
  have ge0 : p1 ≤ zEN σ (Int32.toNatClampNeg p0) - zPL σ (Int32.toNatClampNeg p0) := by rw [← he0, ← hp0]; exact ck_5
  refine lv_lload_n hx hb dX1_fill_22 rfl (lv_at hl 4 rfl) ?_
  refine lv_lstore (lv' := [(8, .long p2), (7, .ref (ah ((Int32.toNatClampNeg p0) + 3))), (0, .ref (ah 0)), (1, .int p0), (2, .int p1), (3, .long p2), (5, .long p3)]) hx hb dX1_fill_23 hl (by decide) rfl (fun ls hl => ?_)
  refine lv_iconst (v := 0) hx hb dX1_fill_25 (by decide) ?_
  refine lv_istore (lv' := [(10, .int 0), (8, .long p2), (7, .ref (ah ((Int32.toNatClampNeg p0) + 3))), (0, .ref (ah 0)), (1, .int p0), (2, .int p1), (3, .long p2), (5, .long p3)]) hx hb dX1_fill_26 hl (by decide) rfl (fun ls hl => ?_)
  obtain ⟨n, hn0, hpn⟩ := nI_of (Int32.not_lt.mpr gm)
  have hc9n : nI n ≤ zEN σ (Int32.toNatClampNeg p0) - zPL σ (Int32.toNatClampNeg p0) := by rw [← hpn]; exact ge0
  have loop_28 : ∀ (n9 : Nat) (k : Nat) (wn8 : Nat → ZW) (ct8 : Nat → Nat → Int64) (f8 : Nat → va_E) (H : Heap) (locs : List Loc) (ls : Array Slot), (k ≤ n) → (n + 1 ≤ k + n9) → (zHR g P (zFill σ (Int32.toNatClampNeg p0) p2 p3 k) L f8 ah G Rw rs wn8 ad ln kd ct8) → (∀ b, P b → f8 b = f b) → zW g A s L f8 H locs → lv_has ls 11 [(0, .ref (ah 0)), (1, .int p0), (2, .int p1), (3, .long p2), (5, .long p3), (7, .ref (ah ((Int32.toNatClampNeg p0) + 3))), (8, .long (p2 + (nI k).toInt64 * p3)), (10, .int (nI k))] → W p l e { frames := 9, cells := 5, slots := 30, locals := 146 } s m args below meth c H locs 5 30 (vx_MQ below (zQ g A (fun r L1 f1 => (o_fill σ p0 p1 p2 p3).1 = 0 ∧ some (.int (o_fill σ p0 p1 p2 p3).2.1) = r ∧ zHC g (ah 0) P (o_fill σ p0 p1 p2 p3).2.2 L1 f1 ∧ ∀ b, P b → f1 b = f b)) (zXC g A (fun E L1 f1 => zXe ["java/lang/IndexOutOfBoundsException", "java/lang/IllegalArgumentException", "java/lang/UnsupportedOperationException", "java/lang/IllegalStateException"] (o_fill σ p0 p1 p2 p3).1 E ∧ L = L1 ∧ f = f1 ∧ (o_fill σ p0 p1 p2 p3).2.2 = σ)) args s 5 30 A) (F0 m 28 ls []) := by
    intro n9
    induction n9 with
    | zero => intro k wn8 ct8 f8 H locs ls hk hn hR8 hfr8 hw hl; exact absurd hn (by omega)
    | succ n9 ih_28 =>
      intro k wn8 ct8 f8 H locs ls hk hn hR8 hfr8 hw hl
      have gz8 : zis (zFill σ (Int32.toNatClampNeg p0) p2 p3 k) p0 = true := (zis_K (zFill_f σ (Int32.toNatClampNeg p0) p2 p3 k).2.2.2.2.2 p0).trans gz0
      obtain ⟨d8, hd8, hs8, hw8, hlv8, hst8, hct8, hkd8⟩ := zH_st hR8 gz8
      rw [← hw8] at hst8
      have hc8 : zc L f8 (ah ((Int32.toNatClampNeg p0) + 3)) (.inr (0, zwf (wn8 (Int32.toNatClampNeg p0)))) := hR8.1.1 ((Int32.toNatClampNeg p0) + 3) (by have := vp_lt (zis_7 gz0); omega)
      obtain ⟨hk8, ho8, hr8, hc9, hp8, he8, hm8⟩ := zH_win hR8 gz8
      refine lv_iload hx hb dX1_fill_28 (lv_at hl 7 rfl) ?_
      refine lv_iload_n hx hb dX1_fill_30 rfl (lv_at hl 2 rfl) ?_
      refine lv_icmp_ge (tgt := 54) hx hb dX1_fill_31 (by decide) (fun c_6 => ?_) (fun c_6 => ?_)
      · have hke : k = n := zn_ge (n := n) (by rw [← hpn]; exact c_6) hk hn0
        refine lv_aload hx hb dX1_fill_54 (lv_at hl 5 rfl) ?_
        refine zr_get (C := RX0) (T := TX0) (N := 8) (v := .int (zwp (wn8 (Int32.toNatClampNeg p0)))) hx hb hts hi_X1_fill_X0 hown hw hc8 rfl 5 (by decide) hf_X1_fill_63 rfl dX1_fill_56 ?_
        have hz9 : Int32.toNatClampNeg p1 = k := by rw [hpn, nI_clamp hn0]; exact hke.symm
        have ho : (o_fill σ p0 p1 p2 p3) = (0, zPL (zFill σ (Int32.toNatClampNeg p0) p2 p3 k) (Int32.toNatClampNeg p0), (zFill σ (Int32.toNatClampNeg p0) p2 p3 k)) := by unfold o_fill; rw [if_pos gz0, if_pos gm, if_pos gr, if_pos ge0, hz9]
        exact z_iret hx hb hr hlocks hw (Nat.le_of_ble_eq_true rfl) (Nat.le_of_ble_eq_true rfl) dX1_fill_59 ⟨by rw [ho], congrArg (fun z => some (Value.int z)) ((congrArg (fun q => q.2.1) ho).trans (show (zPL (zFill σ (Int32.toNatClampNeg p0) p2 p3 k) (Int32.toNatClampNeg p0) : Int32) = (zwp (wn8 (Int32.toNatClampNeg p0))) from hp8.symm)), by rw [ho]; exact ⟨_, _, _, _, _, _, _, _, _, rfl, hR8⟩, hfr8⟩
      · have hlt : k < n := zn_lt (n := n) (by rw [← hpn]; exact c_6) hk hn0
        obtain ⟨gn8, gk65⟩ := zFill_ne (v := p2) (st := p3) gw0 hc9n hn0 hlt
        have gx8 := zH_pl hR8 gz8 gn8
        refine lv_aload hx hb dX1_fill_34 (lv_at hl 5 rfl) ?_
        refine lv_lload hx hb dX1_fill_36 (lv_at hl 6 rfl) ?_
        refine z_callV (As := [.long (p2 + (nI k).toInt64 * p3)]) (rest := []) ⟨hx, hb, hml, hown, hts⟩ hw hX hc8 rfl (c_X0_putNext l g L f8 (ah ((Int32.toNatClampNeg p0) + 3)) (wn8 (Int32.toNatClampNeg p0)) (p2 + (nI k).toInt64 * p3) hc8 hst8 (zH_val hR8 gz8 hs8 hd8 gx8.1 gx8.2).1) (cwV 1 hts gX1_fill_X0_putNext rfl rfl rfl (by decide +kernel) ⟨(Nat.le_of_ble_eq_true rfl), (Nat.le_of_ble_eq_true rfl)⟩) rfl hl.1 rfl (Nat.le_of_ble_eq_true rfl) dX1_fill_38 ⟨(Nat.le_of_ble_eq_true rfl), (Nat.le_of_ble_eq_true rfl)⟩ (fun _ _ _ _ _ _ _ hp => False.elim hp) (fun r9 L9 f9 H locs hp hw => ?_)
        obtain ⟨rfl, rfl, hu9⟩ := hp
        refine W.eq (g2 := F0 m 41 ls []) rfl ?_
        obtain ⟨f_8, he_9⟩ : ∃ z, va_up f8 (zws (wn8 (Int32.toNatClampNeg p0))) (.inl (g.2 1, (ln d8), .inr (.inl (vp_updL (ct8 d8) (Int32.toNatClampNeg ((zwr (wn8 (Int32.toNatClampNeg p0))) + (zwp (wn8 (Int32.toNatClampNeg p0))))) (zcut (zwk (wn8 (Int32.toNatClampNeg p0))) (p2 + (nI k).toInt64 * p3)))))) = z := ⟨_, rfl⟩
        have hc_10 := zu_o he_9 hc8 (zc.dj hc8 hst8 (by intro h; cases h))
        have hc_11 := zu_c (hst8).1 he_9
        have hu : va_up f_8 (ah ((Int32.toNatClampNeg p0) + 3)) (.inr (0, zwf ((zwk (wn8 (Int32.toNatClampNeg p0))), (zwo (wn8 (Int32.toNatClampNeg p0))), (zws (wn8 (Int32.toNatClampNeg p0))), (zwr (wn8 (Int32.toNatClampNeg p0))), (zwc (wn8 (Int32.toNatClampNeg p0))), ((zwp (wn8 (Int32.toNatClampNeg p0))) + 1), (zwe (wn8 (Int32.toNatClampNeg p0))), (zwm (wn8 (Int32.toNatClampNeg p0)))))) = f9 := by rw [← he_9]; exact hu9
        obtain ⟨f_7, rfl⟩ : ∃ z, z = f9 := ⟨_, rfl⟩
        refine lv_lload hx hb dX1_fill_41 (lv_at hl 6 rfl) ?_
        refine lv_lload hx hb dX1_fill_43 (lv_at hl 4 rfl) ?_
        refine lv_ladd hx hb dX1_fill_45 ?_
        refine lv_lstore (lv' := [(8, .long ((p2 + (nI k).toInt64 * p3) + p3)), (0, .ref (ah 0)), (1, .int p0), (2, .int p1), (3, .long p2), (5, .long p3), (7, .ref (ah ((Int32.toNatClampNeg p0) + 3))), (10, .int (nI k))]) hx hb dX1_fill_46 hl (by decide) rfl (fun ls hl => ?_)
        refine lv_iinc (v := ((nI k) + 1)) (lv' := [(10, .int ((nI k) + 1)), (8, .long ((p2 + (nI k).toInt64 * p3) + p3)), (0, .ref (ah 0)), (1, .int p0), (2, .int p1), (3, .long p2), (5, .long p3), (7, .ref (ah ((Int32.toNatClampNeg p0) + 3)))]) hx hb dX1_fill_48 hl (k := 7) rfl rfl (by decide) rfl (fun ls hl => ?_)
        refine lv_goto (tgt := 28) hx hb dX1_fill_51 (by decide) ?_
        have HR9 := zHR_f hu9 (zHR_put hR8 gz8 hs8 hd8 gn8 (v := p2 + (nI k).toInt64 * p3))
        have hfr9 : ∀ b, P b → f_7 b = f b := fun b hb => by rw [← hu9]; exact (zfr_put hR8 gz8 b hb).trans (hfr8 b hb)
        refine ih_28 (k + 1) _ _ _ _ _ _ (by omega) (by omega) HR9 hfr9 hw ?_
        have hl := lv_sub hl (l' := [(0, .ref (ah 0)), (1, .int p0), (2, .int p1), (3, .long p2), (5, .long p3), (7, .ref (ah ((Int32.toNatClampNeg p0) + 3))), (8, .long ((p2 + (nI k).toInt64 * p3) + p3)), (10, .int ((nI k) + 1))]) [2, 3, 4, 5, 6, 7, 1, 0] rfl
        rw [← z_next gk65 p2 p3, ← nI_1 k]
        exact hl
  refine loop_28 (n + 1) 0 wn ct _ _ _ _ (Nat.zero_le _) (by omega) HR (fun _ _ => rfl) hw ?_
  have hl := lv_sub hl (l' := [(0, .ref (ah 0)), (1, .int p0), (2, .int p1), (3, .long p2), (5, .long p3), (7, .ref (ah ((Int32.toNatClampNeg p0) + 3))), (8, .long p2), (10, .int 0)]) [3, 4, 5, 6, 7, 2, 1, 0] rfl
  have hz0 : p2 + (nI 0).toInt64 * p3 = p2 := by rw [show (nI 0).toInt64 = 0 from rfl, Int64.zero_mul, Int64.add_zero]
  rw [hz0]
  exact hl

theorem hz1_X1_compact : Cond.methodLink RX1 128 arraycopyName ∈ wsX1_compact := by decide +kernel
theorem hz2_X1_compact : Cond.native arraycopyName ∈ wsX1_compact := by decide +kernel
theorem hz3_X1_compact : Cond.static arraycopyName ∈ wsX1_compact := by decide +kernel
theorem hz4_X1_compact : Cond.initialized "java/lang/System" ∈ wsX1_compact := by decide +kernel
theorem hi_X1_compact_X0 : ∀ w ∈ wsX00, w ∈ wsX1_compact := by decide +kernel
theorem hf_X1_compact_56 : Cond.fieldLink RX1 56 (TX0 4).1 (TX0 4).2.1 (TX0 4).2.2.1 ∈ wsX1_compact := by decide +kernel
theorem hf_X1_compact_63 : Cond.fieldLink RX1 63 (TX0 5).1 (TX0 5).2.1 (TX0 5).2.2.1 ∈ wsX1_compact := by decide +kernel
theorem hf_X1_compact_121 : Cond.fieldLink RX1 121 (TX0 2).1 (TX0 2).2.1 (TX0 2).2.2.1 ∈ wsX1_compact := by decide +kernel
theorem hf_X1_compact_125 : Cond.fieldLink RX1 125 (TX0 3).1 (TX0 3).2.1 (TX0 3).2.2.1 ∈ wsX1_compact := by decide +kernel
set_option maxRecDepth 100000 in
set_option maxHeartbeats 4000000 in
theorem c_X1_compact (l : Launch) (hl0 : l.stackTraces = false) (g : zG) (L : List Nat) (f : Nat → va_E) (h : Nat) (P : Nat → Prop) (σ : ZS) (p0 : Int32) (hH : zHC g h P σ L f) : zC l yX1_compact wsX1_compact { frames := 9, cells := 3, slots := 18, locals := 146 } 3 18 g [.ref h, .int p0] L f (fun r L1 f1 => (o_compact σ p0).1 = 0 ∧ some (.int (o_compact σ p0).2.1) = r ∧ zHC g h P (o_compact σ p0).2.2 L1 f1 ∧ ∀ b, P b → f1 b = f b) (fun E L1 f1 => zXe ["java/lang/IndexOutOfBoundsException", "java/lang/UnsupportedOperationException"] (o_compact σ p0).1 E ∧ L = L1 ∧ f = f1 ∧ (o_compact σ p0).2.2 = σ) := by
  obtain ⟨ah, G, Rw, rs, wn, ad, ln, kd, ct, rfl, HR⟩ := hH
  obtain ⟨hE, hG, hRw, -⟩ := id HR
  refine z_ofW (cc := cX1_compact) (maxL := 4) (ret := (some .int)) (by decide) rfl (Nat.le_of_ble_eq_true rfl) ?_
  intro p e s m args below meth c ls A hx hb hr hts hown hlocks hml htab hin hw hX hl
  have hl : lv_has ls 4 [(0, .ref (ah 0)), (1, .int p0)] := hl
  have hown : s.vm.findClass RX1 = some m.cls := hown
  refine lv_aload_n hx hb dX1_compact_0 rfl (lv_at hl 0 rfl) ?_
  refine lv_iload_n hx hb dX1_compact_1 rfl (lv_at hl 1 rfl) ?_
  refine z_callV (As := [.int p0]) (rest := []) ⟨hx, hb, hml, hown, hts⟩ hw hX (hE.1 0 (by decide)) rfl (c_X1_windowOf l hl0 g L f ah G Rw rs wn p0 hE hG hRw) (cwV 1 hts gX1_compact_X1_windowOf rfl rfl rfl (by decide +kernel) ⟨(Nat.le_of_ble_eq_true rfl), (Nat.le_of_ble_eq_true rfl)⟩) rfl hl.1 rfl (Nat.le_of_ble_eq_true rfl) dX1_compact_2 ⟨(Nat.le_of_ble_eq_true rfl), (Nat.le_of_ble_eq_true rfl)⟩ (fun E ce q9 L9 f9 H locs hp hw hce hcv hcl => ?_) (fun r9 L9 f9 H locs hp hw => ?_)
  · obtain ⟨ck_1, rfl, rfl, rfl⟩ := hp
    have gz : ¬ zis σ p0 = true := fun q => ck_1 ((zH_is HR).mpr q)
    have ho : (o_compact σ p0) = (1, 0, σ) := by unfold o_compact; first | exact if_neg (show ¬ (zis σ p0 = true) from by assumption)
    exact z_out htab hlocks hw hce hcv hcl (Nat.le_of_ble_eq_true rfl) (Nat.le_of_ble_eq_true rfl) ⟨⟨0, rfl, by rw [ho]; rfl⟩, rfl, rfl, by rw [ho]⟩
  obtain ⟨ck_1, rfl, rfl, rfl⟩ := hp
  refine W.eq (g2 := F0 m 5 ls [.ref (ah ((Int32.toNatClampNeg p0) + 3))]) rfl ?_
  have hc_2 : zc L f (ah ((Int32.toNatClampNeg p0) + 3)) (.inr (0, zwf (wn (Int32.toNatClampNeg p0)))) := hE.1 ((Int32.toNatClampNeg p0) + 3) (by have := vp_lt ck_1.1; omega)
  have gz0 : zis σ p0 = true := (zH_is HR).mp ck_1
  have gw0 := zI_win HR.I gz0
  obtain ⟨hk0, ho0, hr0, hc0, hp0, he0, hm0⟩ := zH_win HR gz0
  obtain ⟨d0, hd0, hs0, hw0, hlv0, hst0, hct0, hkd0⟩ := zH_st HR gz0
  rw [← hw0] at hst0
  refine lv_astore_n (lv' := [(2, .ref (ah ((Int32.toNatClampNeg p0) + 3))), (0, .ref (ah 0)), (1, .int p0)]) hx hb dX1_compact_5 rfl hl (by decide) rfl (fun ls hl => ?_)
  refine lv_aload_n hx hb dX1_compact_6 rfl (lv_at hl 0 rfl) ?_
  refine z_callS (As := [.ref (ah ((Int32.toNatClampNeg p0) + 3))]) (rest := []) ⟨hx, hb, hml, hown, hts⟩ hw hX (c_X1_checkWritable l hl0 g L f (ah ((Int32.toNatClampNeg p0) + 3)) ((zwk (wn (Int32.toNatClampNeg p0))), (zwo (wn (Int32.toNatClampNeg p0))), (zws (wn (Int32.toNatClampNeg p0))), (zwr (wn (Int32.toNatClampNeg p0))), (zwc (wn (Int32.toNatClampNeg p0))), (zwp (wn (Int32.toNatClampNeg p0))), (zwe (wn (Int32.toNatClampNeg p0))), (zwm (wn (Int32.toNatClampNeg p0))))  hc_2) (va_cwS 1 hts gX1_compact_X1_checkWritable rfl rfl rfl (by decide +kernel) ⟨(Nat.le_of_ble_eq_true rfl), (Nat.le_of_ble_eq_true rfl)⟩) rfl hl.1 rfl (Nat.le_of_ble_eq_true rfl) dX1_compact_7 ⟨(Nat.le_of_ble_eq_true rfl), (Nat.le_of_ble_eq_true rfl)⟩ (fun E ce q9 L9 f9 H locs hp hw hce hcv hcl => ?_) (fun r9 L9 f9 H locs hp hw => ?_)
  · obtain ⟨rfl, rfl, rfl, ck_3⟩ := hp
    have gr : ¬ zRD σ (Int32.toNatClampNeg p0) = 0 := by rw [← ho0]; exact ck_3
    have ho : (o_compact σ p0) = (2, 0, σ) := by unfold o_compact; first | exact (if_pos (show (zis σ p0 = true) from by assumption)).trans (if_neg (show ¬ (zRD σ (Int32.toNatClampNeg p0) = 0) from by assumption))
    exact z_out htab hlocks hw hce hcv hcl (Nat.le_of_ble_eq_true rfl) (Nat.le_of_ble_eq_true rfl) ⟨⟨1, rfl, by rw [ho]; rfl⟩, rfl, rfl, by rw [ho]⟩
  obtain ⟨rfl, rfl, rfl, ck_3⟩ := hp
  refine W.eq (g2 := F0 m 10 ls []) rfl ?_
  have gr : zRD σ (Int32.toNatClampNeg p0) = 0 := by rw [← ho0]; exact ck_3
  refine lv_aload_n hx hb dX1_compact_10 rfl (lv_at hl 0 rfl) ?_
  refine z_callV (As := []) (rest := []) ⟨hx, hb, hml, hown, hts⟩ hw hX hc_2 rfl (c_X0_rest l g L f (ah ((Int32.toNatClampNeg p0) + 3)) ((zwk (wn (Int32.toNatClampNeg p0))), (zwo (wn (Int32.toNatClampNeg p0))), (zws (wn (Int32.toNatClampNeg p0))), (zwr (wn (Int32.toNatClampNeg p0))), (zwc (wn (Int32.toNatClampNeg p0))), (zwp (wn (Int32.toNatClampNeg p0))), (zwe (wn (Int32.toNatClampNeg p0))), (zwm (wn (Int32.toNatClampNeg p0)))) hc_2) (cwV 0 hts gX1_compact_X0_rest rfl rfl rfl (by decide +kernel) ⟨(Nat.le_of_ble_eq_true rfl), (Nat.le_of_ble_eq_true rfl)⟩) rfl hl.1 rfl (Nat.le_of_ble_eq_true rfl) dX1_compact_11 ⟨(Nat.le_of_ble_eq_true rfl), (Nat.le_of_ble_eq_true rfl)⟩ (fun _ _ _ _ _ _ _ hp => False.elim hp) (fun r9 L9 f9 H locs hp hw => ?_)
  obtain ⟨rfl, rfl, rfl⟩ := hp
  refine W.eq (g2 := F0 m 14 ls [.int ((zwe (wn (Int32.toNatClampNeg p0))) - (zwp (wn (Int32.toNatClampNeg p0))))]) rfl ?_
  refine lv_istore_n (lv' := [(3, .int ((zwe (wn (Int32.toNatClampNeg p0))) - (zwp (wn (Int32.toNatClampNeg p0))))), (2, .ref (ah ((Int32.toNatClampNeg p0) + 3))), (0, .ref (ah 0)), (1, .int p0)]) hx hb dX1_compact_14 rfl hl (by decide) rfl (fun ls hl => ?_)
  refine lv_aload_n hx hb dX1_compact_15 rfl (lv_at hl 1 rfl) ?_
  refine zr_get (C := RX0) (T := TX0) (N := 8) (v := .ref (zws (wn (Int32.toNatClampNeg p0)))) hx hb hts hi_X1_compact_X0 hown hw hc_2 rfl 2 (by decide) hf_X1_compact_121 rfl dX1_compact_16 ?_
  refine lv_aload_n hx hb dX1_compact_19 rfl (lv_at hl 1 rfl) ?_
  refine zr_get (C := RX0) (T := TX0) (N := 8) (v := .int (zwr (wn (Int32.toNatClampNeg p0)))) hx hb hts hi_X1_compact_X0 hown hw hc_2 rfl 3 (by decide) hf_X1_compact_125 rfl dX1_compact_20 ?_
  refine lv_aload_n hx hb dX1_compact_23 rfl (lv_at hl 1 rfl) ?_
  refine zr_get (C := RX0) (T := TX0) (N := 8) (v := .int (zwp (wn (Int32.toNatClampNeg p0)))) hx hb hts hi_X1_compact_X0 hown hw hc_2 rfl 5 (by decide) hf_X1_compact_63 rfl dX1_compact_24 ?_
  refine lv_iadd hx hb dX1_compact_27 ?_
  refine lv_aload_n hx hb dX1_compact_28 rfl (lv_at hl 1 rfl) ?_
  refine zr_get (C := RX0) (T := TX0) (N := 8) (v := .ref (zws (wn (Int32.toNatClampNeg p0)))) hx hb hts hi_X1_compact_X0 hown hw hc_2 rfl 2 (by decide) hf_X1_compact_121 rfl dX1_compact_29 ?_
  refine lv_aload_n hx hb dX1_compact_32 rfl (lv_at hl 1 rfl) ?_
  refine zr_get (C := RX0) (T := TX0) (N := 8) (v := .int (zwr (wn (Int32.toNatClampNeg p0)))) hx hb hts hi_X1_compact_X0 hown hw hc_2 rfl 3 (by decide) hf_X1_compact_125 rfl dX1_compact_33 ?_
  refine lv_iload_n hx hb dX1_compact_36 rfl (lv_at hl 0 rfl) ?_
  obtain ⟨d9, n9, gd9, gs9, gw9, gn9, gn64, gc9, gp0, gp1, gp2, gp3, ⟨s9, e9, ge9, hs9, hns9, hs64⟩, hfr9, HRc⟩ := zHR_comp HR gz0
  have gnw : zwe (wn (Int32.toNatClampNeg p0)) - zwp (wn (Int32.toNatClampNeg p0)) = nI n9 := by rw [he0, hp0]; exact gn9
  have gnc : Int32.toNatClampNeg (nI n9) = n9 := nI_clamp (by omega)
  rw [← gw9] at gc9
  rw [gnw] at hl ⊢
  refine zr_copyl (sp := ((zwr (wn (Int32.toNatClampNeg p0))) + (zwp (wn (Int32.toNatClampNeg p0))))) (dp := (zwr (wn (Int32.toNatClampNeg p0)))) (n := nI n9) hx hb (hml.trans hl.1.symm) hts hown hz1_X1_compact hz2_X1_compact hz3_X1_compact hz4_X1_compact hw gc9 (by rw [hr0, hp0]; exact gp0) (by rw [hr0]; exact gp1) (nI_pos (by omega)) (by rw [hr0, hp0, gnc]; exact gp2) (by rw [hr0, gnc]; exact gp3) (Nat.le_of_ble_eq_true rfl) (Nat.le_of_ble_eq_true rfl) dX1_compact_37 (fun H locs hw => ?_)
  rw [gnc] at hw
  rw [← hr0, ← hp0, ← gw9] at HRc
  obtain ⟨f_4, hf_4⟩ : ∃ z, va_up f (zws (wn (Int32.toNatClampNeg p0))) (.inl (g.2 1, ln d9, .inr (.inl (va_cpy (ct d9) (ct d9) (Int32.toNatClampNeg ((zwr (wn (Int32.toNatClampNeg p0))) + (zwp (wn (Int32.toNatClampNeg p0))))) (Int32.toNatClampNeg (zwr (wn (Int32.toNatClampNeg p0)))) n9)))) = z := ⟨_, rfl⟩
  rw [hf_4] at hw HRc
  have hfr0 : ∀ b, P b → f_4 b = f b := by rw [← hf_4, gw9]; exact hfr9 _
  have hc_5 : zc L f_4 (ah ((Int32.toNatClampNeg p0) + 3)) (.inr (0, zwf (wn (Int32.toNatClampNeg p0)))) := HRc.1.1 ((Int32.toNatClampNeg p0) + 3) (by have := vp_lt (zis_7 gz0); omega)
  refine lv_aload_n hx hb dX1_compact_40 rfl (lv_at hl 1 rfl) ?_
  refine lv_iload_n hx hb dX1_compact_41 rfl (lv_at hl 0 rfl) ?_
  refine lv_aload_n hx hb dX1_compact_42 rfl (lv_at hl 1 rfl) ?_
  refine zr_get (C := RX0) (T := TX0) (N := 8) (v := .int (zwc (wn (Int32.toNatClampNeg p0)))) hx hb hts hi_X1_compact_X0 hown hw hc_5 rfl 4 (by decide) hf_X1_compact_56 rfl dX1_compact_43 ?_
  refine z_callV (As := [.int (nI n9), .int (zwc (wn (Int32.toNatClampNeg p0)))]) (rest := []) ⟨hx, hb, hml, hown, hts⟩ hw hX hc_5 rfl (c_X0_moveTo l g L f_4 (ah ((Int32.toNatClampNeg p0) + 3)) ((zwk (wn (Int32.toNatClampNeg p0))), (zwo (wn (Int32.toNatClampNeg p0))), (zws (wn (Int32.toNatClampNeg p0))), (zwr (wn (Int32.toNatClampNeg p0))), (zwc (wn (Int32.toNatClampNeg p0))), (zwp (wn (Int32.toNatClampNeg p0))), (zwe (wn (Int32.toNatClampNeg p0))), (zwm (wn (Int32.toNatClampNeg p0)))) (nI n9) (zwc (wn (Int32.toNatClampNeg p0))) hc_5) (cwV 2 hts gX1_compact_X0_moveTo rfl rfl rfl (by decide +kernel) ⟨(Nat.le_of_ble_eq_true rfl), (Nat.le_of_ble_eq_true rfl)⟩) rfl hl.1 rfl (Nat.le_of_ble_eq_true rfl) dX1_compact_46 ⟨(Nat.le_of_ble_eq_true rfl), (Nat.le_of_ble_eq_true rfl)⟩ (fun _ _ _ _ _ _ _ hp => False.elim hp) (fun r9 L9 f9 H locs hp hw => ?_)
  obtain ⟨rfl, rfl, hu9⟩ := hp
  refine W.eq (g2 := F0 m 49 ls []) rfl ?_
  have hu := hu9
  obtain ⟨f_6, rfl⟩ : ∃ z, z = f9 := ⟨_, rfl⟩
  refine lv_aload_n hx hb dX1_compact_49 rfl (lv_at hl 1 rfl) ?_
  refine zr_get (C := RX0) (T := TX0) (N := 8) (v := .int (nI n9)) hx hb hts hi_X1_compact_X0 hown hw (zu_c (hc_5).1 hu) rfl 5 (by decide) hf_X1_compact_63 rfl dX1_compact_50 ?_
  have gzc : zis (zComp σ (Int32.toNatClampNeg p0) n9) p0 = true := (zis_K (zComp_f σ (Int32.toNatClampNeg p0) n9).2.2.2.2.2 p0).trans gz0
  obtain ⟨hk8, ho8, hr8, hc8, hp8, he8, hm8⟩ := zH_win HRc gzc
  have hsz8 : zSZ (zComp σ (Int32.toNatClampNeg p0) n9) (Int32.toNatClampNeg p0) = zSZ σ (Int32.toNatClampNeg p0) := by rw [(zComp_f σ (Int32.toNatClampNeg p0) n9).2.2.2.2.1]
  have HR2 := zHR_f hu (zHR_pem HRc gzc (x1 := ((zwk (wn (Int32.toNatClampNeg p0))), (zwo (wn (Int32.toNatClampNeg p0))), (zws (wn (Int32.toNatClampNeg p0))), (zwr (wn (Int32.toNatClampNeg p0))), (zwc (wn (Int32.toNatClampNeg p0))), (nI n9), (zwc (wn (Int32.toNatClampNeg p0))), (-1))) (pl := nI n9) (en := zSZ σ (Int32.toNatClampNeg p0)) (mk := -1) (by simp only [hk8, ho8, hr8, hc8, hsz8]) ⟨n9, s9, s9, rfl, hs9, by rw [hsz8]; exact hs9, hns9, Nat.le_refl _, hs64, Or.inl rfl⟩)
  have hfr : ∀ b, P b → f_6 b = f b := fun b hb => by rw [← hu]; exact (zfr_win HRc (by have := vp_lt (zis_7 gz0); omega) b hb).trans (hfr0 b hb)
  have ho : (o_compact σ p0) = (0, nI n9, zPem (zComp σ (Int32.toNatClampNeg p0) n9) (Int32.toNatClampNeg p0) (nI n9) (zSZ σ (Int32.toNatClampNeg p0)) (-1)) := oz_compact gz0 gr gn9 gn64
  exact z_iret hx hb hr hlocks hw (Nat.le_of_ble_eq_true rfl) (Nat.le_of_ble_eq_true rfl) dX1_compact_53 ⟨by rw [ho], congrArg (fun z => some (Value.int z)) ((congrArg (fun q => q.2.1) ho).trans (show (nI n9 : Int32) = (nI n9) from rfl)), by rw [ho]; exact ⟨_, _, _, _, _, _, _, _, _, rfl, HR2⟩, hfr⟩

theorem hi_X1_isAlike_X0 : ∀ w ∈ wsX00, w ∈ wsX1_isAlike := by decide +kernel
theorem hf_X1_isAlike_63 : Cond.fieldLink RX1 63 (TX0 5).1 (TX0 5).2.1 (TX0 5).2.2.1 ∈ wsX1_isAlike := by decide +kernel
set_option maxRecDepth 100000 in
set_option maxHeartbeats 4000000 in
theorem c_X1_isAlike (l : Launch) (hl0 : l.stackTraces = false) (g : zG) (L : List Nat) (f : Nat → va_E) (h : Nat) (P : Nat → Prop) (σ : ZS) (p0 : Int32) (p1 : Int32) (hH : zHC g h P σ L f) : zC l yX1_isAlike wsX1_isAlike { frames := 9, cells := 4, slots := 24, locals := 146 } 4 24 g [.ref h, .int p0, .int p1] L f (fun r L1 f1 => (o_isAlike σ p0 p1).1 = 0 ∧ some (.int (o_isAlike σ p0 p1).2.1) = r ∧ zHC g h P (o_isAlike σ p0 p1).2.2 L1 f1 ∧ ∀ b, P b → f1 b = f b) (fun E L1 f1 => zXe ["java/lang/IndexOutOfBoundsException"] (o_isAlike σ p0 p1).1 E ∧ L = L1 ∧ f = f1 ∧ (o_isAlike σ p0 p1).2.2 = σ) := by
  obtain ⟨ah, G, Rw, rs, wn, ad, ln, kd, ct, rfl, HR⟩ := hH
  obtain ⟨hE, hG, hRw, -⟩ := id HR
  refine z_ofW (cc := cX1_isAlike) (maxL := 7) (ret := (some .boolean)) (by decide) rfl (Nat.le_of_ble_eq_true rfl) ?_
  intro p e s m args below meth c ls A hx hb hr hts hown hlocks hml htab hin hw hX hl
  have hl : lv_has ls 7 [(0, .ref (ah 0)), (1, .int p0), (2, .int p1)] := hl
  have hown : s.vm.findClass RX1 = some m.cls := hown
  refine lv_aload_n hx hb dX1_isAlike_0 rfl (lv_at hl 0 rfl) ?_
  refine lv_iload_n hx hb dX1_isAlike_1 rfl (lv_at hl 1 rfl) ?_
  refine z_callV (As := [.int p0]) (rest := []) ⟨hx, hb, hml, hown, hts⟩ hw hX (hE.1 0 (by decide)) rfl (c_X1_windowOf l hl0 g L f ah G Rw rs wn p0 hE hG hRw) (cwV 1 hts gX1_isAlike_X1_windowOf rfl rfl rfl (by decide +kernel) ⟨(Nat.le_of_ble_eq_true rfl), (Nat.le_of_ble_eq_true rfl)⟩) rfl hl.1 rfl (Nat.le_of_ble_eq_true rfl) dX1_isAlike_2 ⟨(Nat.le_of_ble_eq_true rfl), (Nat.le_of_ble_eq_true rfl)⟩ (fun E ce q9 L9 f9 H locs hp hw hce hcv hcl => ?_) (fun r9 L9 f9 H locs hp hw => ?_)
  · obtain ⟨ck_1, rfl, rfl, rfl⟩ := hp
    have gz : ¬ zis σ p0 = true := fun q => ck_1 ((zH_is HR).mpr q)
    have ho : (o_isAlike σ p0 p1) = (1, 0, σ) := by unfold o_isAlike; first | exact (if_pos (show (zis σ p0 = true) from by assumption)).trans (if_neg (show ¬ (zis σ p1 = true) from by assumption)) | exact if_neg (show ¬ (zis σ p0 = true) from by assumption)
    exact z_out htab hlocks hw hce hcv hcl (Nat.le_of_ble_eq_true rfl) (Nat.le_of_ble_eq_true rfl) ⟨⟨0, rfl, by rw [ho]; rfl⟩, rfl, rfl, by rw [ho]⟩
  obtain ⟨ck_1, rfl, rfl, rfl⟩ := hp
  refine W.eq (g2 := F0 m 5 ls [.ref (ah ((Int32.toNatClampNeg p0) + 3))]) rfl ?_
  have hc_2 : zc L f (ah ((Int32.toNatClampNeg p0) + 3)) (.inr (0, zwf (wn (Int32.toNatClampNeg p0)))) := hE.1 ((Int32.toNatClampNeg p0) + 3) (by have := vp_lt ck_1.1; omega)
  have gz0 : zis σ p0 = true := (zH_is HR).mp ck_1
  have gw0 := zI_win HR.I gz0
  obtain ⟨hk0, ho0, hr0, hc0, hp0, he0, hm0⟩ := zH_win HR gz0
  obtain ⟨d0, hd0, hs0, hw0, hlv0, hst0, hct0, hkd0⟩ := zH_st HR gz0
  rw [← hw0] at hst0
  refine lv_astore_n (lv' := [(3, .ref (ah ((Int32.toNatClampNeg p0) + 3))), (0, .ref (ah 0)), (1, .int p0), (2, .int p1)]) hx hb dX1_isAlike_5 rfl hl (by decide) rfl (fun ls hl => ?_)
  refine lv_aload_n hx hb dX1_isAlike_6 rfl (lv_at hl 1 rfl) ?_
  refine lv_iload_n hx hb dX1_isAlike_7 rfl (lv_at hl 3 rfl) ?_
  refine z_callV (As := [.int p1]) (rest := []) ⟨hx, hb, hml, hown, hts⟩ hw hX (hE.1 0 (by decide)) rfl (c_X1_windowOf l hl0 g L f ah G Rw rs wn p1 hE hG hRw) (cwV 1 hts gX1_isAlike_X1_windowOf rfl rfl rfl (by decide +kernel) ⟨(Nat.le_of_ble_eq_true rfl), (Nat.le_of_ble_eq_true rfl)⟩) rfl hl.1 rfl (Nat.le_of_ble_eq_true rfl) dX1_isAlike_8 ⟨(Nat.le_of_ble_eq_true rfl), (Nat.le_of_ble_eq_true rfl)⟩ (fun E ce q9 L9 f9 H locs hp hw hce hcv hcl => ?_) (fun r9 L9 f9 H locs hp hw => ?_)
  · obtain ⟨ck_3, rfl, rfl, rfl⟩ := hp
    have gz : ¬ zis σ p1 = true := fun q => ck_3 ((zH_is HR).mpr q)
    have ho : (o_isAlike σ p0 p1) = (1, 0, σ) := by unfold o_isAlike; first | exact (if_pos (show (zis σ p0 = true) from by assumption)).trans (if_neg (show ¬ (zis σ p1 = true) from by assumption)) | exact if_neg (show ¬ (zis σ p0 = true) from by assumption)
    exact z_out htab hlocks hw hce hcv hcl (Nat.le_of_ble_eq_true rfl) (Nat.le_of_ble_eq_true rfl) ⟨⟨0, rfl, by rw [ho]; rfl⟩, rfl, rfl, by rw [ho]⟩
  obtain ⟨ck_3, rfl, rfl, rfl⟩ := hp
  refine W.eq (g2 := F0 m 11 ls [.ref (ah ((Int32.toNatClampNeg p1) + 3))]) rfl ?_
  have hc_4 : zc L f (ah ((Int32.toNatClampNeg p1) + 3)) (.inr (0, zwf (wn (Int32.toNatClampNeg p1)))) := hE.1 ((Int32.toNatClampNeg p1) + 3) (by have := vp_lt ck_3.1; omega)
  have gz1 : zis σ p1 = true := (zH_is HR).mp ck_3
  have gw1 := zI_win HR.I gz1
  obtain ⟨hk1, ho1, hr1, hc1, hp1, he1, hm1⟩ := zH_win HR gz1
  obtain ⟨d1, hd1, hs1, hw1, hlv1, hst1, hct1, hkd1⟩ := zH_st HR gz1
  rw [← hw1] at hst1
  refine lv_astore (lv' := [(4, .ref (ah ((Int32.toNatClampNeg p1) + 3))), (3, .ref (ah ((Int32.toNatClampNeg p0) + 3))), (0, .ref (ah 0)), (1, .int p0), (2, .int p1)]) hx hb dX1_isAlike_11 hl (by decide) rfl (fun ls hl => ?_)
  refine lv_aload_n hx hb dX1_isAlike_13 rfl (lv_at hl 1 rfl) ?_
  refine z_callV (As := []) (rest := []) ⟨hx, hb, hml, hown, hts⟩ hw hX hc_2 rfl (c_X0_rest l g L f (ah ((Int32.toNatClampNeg p0) + 3)) ((zwk (wn (Int32.toNatClampNeg p0))), (zwo (wn (Int32.toNatClampNeg p0))), (zws (wn (Int32.toNatClampNeg p0))), (zwr (wn (Int32.toNatClampNeg p0))), (zwc (wn (Int32.toNatClampNeg p0))), (zwp (wn (Int32.toNatClampNeg p0))), (zwe (wn (Int32.toNatClampNeg p0))), (zwm (wn (Int32.toNatClampNeg p0)))) hc_2) (cwV 0 hts gX1_isAlike_X0_rest rfl rfl rfl (by decide +kernel) ⟨(Nat.le_of_ble_eq_true rfl), (Nat.le_of_ble_eq_true rfl)⟩) rfl hl.1 rfl (Nat.le_of_ble_eq_true rfl) dX1_isAlike_14 ⟨(Nat.le_of_ble_eq_true rfl), (Nat.le_of_ble_eq_true rfl)⟩ (fun _ _ _ _ _ _ _ hp => False.elim hp) (fun r9 L9 f9 H locs hp hw => ?_)
  obtain ⟨rfl, rfl, rfl⟩ := hp
  refine W.eq (g2 := F0 m 17 ls [.int ((zwe (wn (Int32.toNatClampNeg p0))) - (zwp (wn (Int32.toNatClampNeg p0))))]) rfl ?_
  refine lv_istore (lv' := [(5, .int ((zwe (wn (Int32.toNatClampNeg p0))) - (zwp (wn (Int32.toNatClampNeg p0))))), (4, .ref (ah ((Int32.toNatClampNeg p1) + 3))), (3, .ref (ah ((Int32.toNatClampNeg p0) + 3))), (0, .ref (ah 0)), (1, .int p0), (2, .int p1)]) hx hb dX1_isAlike_17 hl (by decide) rfl (fun ls hl => ?_)
  obtain ⟨n, hn64, hnn⟩ := zWin_n gw0
  have hz0 : Int32.toNatClampNeg (zEN σ (Int32.toNatClampNeg p0) - zPL σ (Int32.toNatClampNeg p0)) = n := by rw [hnn, nI_clamp (by omega)]
  have hnw : zwe (wn (Int32.toNatClampNeg p0)) - zwp (wn (Int32.toNatClampNeg p0)) = nI n := by rw [he0, hp0]; exact hnn
  refine lv_iload hx hb dX1_isAlike_19 (lv_at hl 0 rfl) ?_
  refine lv_aload hx hb dX1_isAlike_21 (lv_at hl 1 rfl) ?_
  refine z_callV (As := []) (rest := [.int ((zwe (wn (Int32.toNatClampNeg p0))) - (zwp (wn (Int32.toNatClampNeg p0))))]) ⟨hx, hb, hml, hown, hts⟩ hw hX hc_4 rfl (c_X0_rest l g L f (ah ((Int32.toNatClampNeg p1) + 3)) ((zwk (wn (Int32.toNatClampNeg p1))), (zwo (wn (Int32.toNatClampNeg p1))), (zws (wn (Int32.toNatClampNeg p1))), (zwr (wn (Int32.toNatClampNeg p1))), (zwc (wn (Int32.toNatClampNeg p1))), (zwp (wn (Int32.toNatClampNeg p1))), (zwe (wn (Int32.toNatClampNeg p1))), (zwm (wn (Int32.toNatClampNeg p1)))) hc_4) (cwV 0 hts gX1_isAlike_X0_rest rfl rfl rfl (by decide +kernel) ⟨(Nat.le_of_ble_eq_true rfl), (Nat.le_of_ble_eq_true rfl)⟩) rfl hl.1 rfl (Nat.le_of_ble_eq_true rfl) dX1_isAlike_23 ⟨(Nat.le_of_ble_eq_true rfl), (Nat.le_of_ble_eq_true rfl)⟩ (fun _ _ _ _ _ _ _ hp => False.elim hp) (fun r9 L9 f9 H locs hp hw => ?_)
  obtain ⟨rfl, rfl, rfl⟩ := hp
  refine W.eq (g2 := F0 m 26 ls [.int ((zwe (wn (Int32.toNatClampNeg p1))) - (zwp (wn (Int32.toNatClampNeg p1)))), .int ((zwe (wn (Int32.toNatClampNeg p0))) - (zwp (wn (Int32.toNatClampNeg p0))))]) rfl ?_
  refine lv_icmp_eq (tgt := 31) hx hb dX1_isAlike_26 (by decide) (fun c_5 => ?_) (fun c_5 => ?_)
  · refine lv_iconst (v := 0) hx hb dX1_isAlike_31 (by decide) ?_
    refine lv_istore (lv' := [(6, .int 0), (5, .int ((zwe (wn (Int32.toNatClampNeg p0))) - (zwp (wn (Int32.toNatClampNeg p0))))), (4, .ref (ah ((Int32.toNatClampNeg p1) + 3))), (3, .ref (ah ((Int32.toNatClampNeg p0) + 3))), (0, .ref (ah 0)), (1, .int p0), (2, .int p1)]) hx hb dX1_isAlike_32 hl (by decide) rfl (fun ls hl => ?_)
    have hnm : zEN σ (Int32.toNatClampNeg p1) - zPL σ (Int32.toNatClampNeg p1) = nI n := by rw [← hnn, ← he0, ← hp0, ← he1, ← hp1]; exact c_5.symm
    have hal0 : zAlk σ (Int32.toNatClampNeg p0) (Int32.toNatClampNeg p1) 0 = true := decide_eq_true (hnn.trans hnm.symm)
    have loop_34 : ∀ (n9 : Nat) (k : Nat) (H : Heap) (locs : List Loc) (ls : Array Slot), (k ≤ n) → (n + 1 ≤ k + n9) → (zAlk σ (Int32.toNatClampNeg p0) (Int32.toNatClampNeg p1) k = true) → zW g A s L f H locs → lv_has ls 7 [(0, .ref (ah 0)), (1, .int p0), (2, .int p1), (3, .ref (ah ((Int32.toNatClampNeg p0) + 3))), (4, .ref (ah ((Int32.toNatClampNeg p1) + 3))), (5, .int ((zwe (wn (Int32.toNatClampNeg p0))) - (zwp (wn (Int32.toNatClampNeg p0))))), (6, .int (nI k))] → W p l e { frames := 9, cells := 4, slots := 24, locals := 146 } s m args below meth c H locs 4 24 (vx_MQ below (zQ g A (fun r L1 f1 => (o_isAlike σ p0 p1).1 = 0 ∧ some (.int (o_isAlike σ p0 p1).2.1) = r ∧ zHC g (ah 0) P (o_isAlike σ p0 p1).2.2 L1 f1 ∧ ∀ b, P b → f1 b = f b)) (zXC g A (fun E L1 f1 => zXe ["java/lang/IndexOutOfBoundsException"] (o_isAlike σ p0 p1).1 E ∧ L = L1 ∧ f = f1 ∧ (o_isAlike σ p0 p1).2.2 = σ)) args s 4 24 A) (F0 m 34 ls []) := by
      intro n9
      induction n9 with
      | zero => intro k H locs ls hk hn hal hw hl; exact absurd hn (by omega)
      | succ n9 ih_34 =>
        intro k H locs ls hk hn hal hw hl
        refine lv_iload hx hb dX1_isAlike_34 (lv_at hl 6 rfl) ?_
        refine lv_iload hx hb dX1_isAlike_36 (lv_at hl 5 rfl) ?_
        refine lv_icmp_ge (tgt := 77) hx hb dX1_isAlike_38 (by decide) (fun c_6 => ?_) (fun c_6 => ?_)
        · have hke : k = n := zn_ge (n := n) (by rw [← hnw]; exact c_6) hk (by omega)
          refine lv_iconst (v := 1) hx hb dX1_isAlike_77 (by decide) ?_
          have hz : zAlk σ (Int32.toNatClampNeg p0) (Int32.toNatClampNeg p1) n = true := hke ▸ hal
          have ho : (o_isAlike σ p0 p1) = (0, (zb (zAlk σ (Int32.toNatClampNeg p0) (Int32.toNatClampNeg p1) (Int32.toNatClampNeg (zEN σ (Int32.toNatClampNeg p0) - zPL σ (Int32.toNatClampNeg p0))))), σ) := by unfold o_isAlike; exact (if_pos (show (zis σ p0 = true) from by assumption)).trans (if_pos (show (zis σ p1 = true) from by assumption))
          exact z_zret hx hb hr hlocks rfl hw (Nat.le_of_ble_eq_true rfl) (Nat.le_of_ble_eq_true rfl) dX1_isAlike_78 ⟨by rw [ho], congrArg (fun z => some (Value.int z)) ((congrArg (fun q => q.2.1) ho).trans (show ((zb (zAlk σ (Int32.toNatClampNeg p0) (Int32.toNatClampNeg p1) (Int32.toNatClampNeg (zEN σ (Int32.toNatClampNeg p0) - zPL σ (Int32.toNatClampNeg p0))))) : Int32) = 1 from by rw [hz0, hz]; rfl)), by rw [ho]; exact ⟨_, _, _, _, _, _, _, _, _, rfl, HR⟩, fun _ _ => rfl⟩
        · have hlt : k < n := zn_lt (n := n) (by rw [← hnw]; exact c_6) hk (by omega)
          have gy0 : ¬ zwp (wn (Int32.toNatClampNeg p0)) + nI k < 0 ∧ zwp (wn (Int32.toNatClampNeg p0)) + nI k < zEN σ (Int32.toNatClampNeg p0) := by rw [hp0]; exact (zWin_run gw0 (by rw [hnn]; exact Int32.le_refl _) (by omega) hlt).2
          have gv0 := (zH_val HR gz0 hs0 hd0 gy0.1 gy0.2).2
          have gy1 : ¬ zwp (wn (Int32.toNatClampNeg p1)) + nI k < 0 ∧ zwp (wn (Int32.toNatClampNeg p1)) + nI k < zEN σ (Int32.toNatClampNeg p1) := by rw [hp1]; exact (zWin_run gw1 (by rw [hnm]; exact Int32.le_refl _) (by omega) hlt).2
          have gv1 := (zH_val HR gz1 hs1 hd1 gy1.1 gy1.2).2
          rw [hp0] at gv0
          rw [hp1] at gv1
          refine lv_aload_n hx hb dX1_isAlike_41 rfl (lv_at hl 3 rfl) ?_
          refine lv_aload_n hx hb dX1_isAlike_42 rfl (lv_at hl 3 rfl) ?_
          refine zr_get (C := RX0) (T := TX0) (N := 8) (v := .int (zwp (wn (Int32.toNatClampNeg p0)))) hx hb hts hi_X1_isAlike_X0 hown hw hc_2 rfl 5 (by decide) hf_X1_isAlike_63 rfl dX1_isAlike_43 ?_
          refine lv_iload hx hb dX1_isAlike_46 (lv_at hl 6 rfl) ?_
          refine lv_iadd hx hb dX1_isAlike_48 ?_
          refine z_callV (As := [.int ((zwp (wn (Int32.toNatClampNeg p0))) + (nI k))]) (rest := []) ⟨hx, hb, hml, hown, hts⟩ hw hX hc_2 rfl (c_X0_valueAt l g L f (ah ((Int32.toNatClampNeg p0) + 3)) ((zwk (wn (Int32.toNatClampNeg p0))), (zwo (wn (Int32.toNatClampNeg p0))), (zws (wn (Int32.toNatClampNeg p0))), (zwr (wn (Int32.toNatClampNeg p0))), (zwc (wn (Int32.toNatClampNeg p0))), (zwp (wn (Int32.toNatClampNeg p0))), (zwe (wn (Int32.toNatClampNeg p0))), (zwm (wn (Int32.toNatClampNeg p0)))) ((zwp (wn (Int32.toNatClampNeg p0))) + (nI k)) hc_2 hst0 (zH_val HR gz0 hs0 hd0 gy0.1 gy0.2).1) (cwV 1 hts gX1_isAlike_X0_valueAt rfl rfl rfl (by decide +kernel) ⟨(Nat.le_of_ble_eq_true rfl), (Nat.le_of_ble_eq_true rfl)⟩) rfl hl.1 rfl (Nat.le_of_ble_eq_true rfl) dX1_isAlike_49 ⟨(Nat.le_of_ble_eq_true rfl), (Nat.le_of_ble_eq_true rfl)⟩ (fun _ _ _ _ _ _ _ hp => False.elim hp) (fun r9 L9 f9 H locs hp hw => ?_)
          obtain ⟨rfl, rfl, rfl⟩ := hp
          refine W.eq (g2 := F0 m 52 ls [.long ((ct d0) (Int32.toNatClampNeg ((zwr (wn (Int32.toNatClampNeg p0))) + ((zwp (wn (Int32.toNatClampNeg p0))) + (nI k)))))]) rfl ?_
          refine lv_aload hx hb dX1_isAlike_52 (lv_at hl 4 rfl) ?_
          refine lv_aload hx hb dX1_isAlike_54 (lv_at hl 4 rfl) ?_
          refine zr_get (C := RX0) (T := TX0) (N := 8) (v := .int (zwp (wn (Int32.toNatClampNeg p1)))) hx hb hts hi_X1_isAlike_X0 hown hw hc_4 rfl 5 (by decide) hf_X1_isAlike_63 rfl dX1_isAlike_56 ?_
          refine lv_iload hx hb dX1_isAlike_59 (lv_at hl 6 rfl) ?_
          refine lv_iadd hx hb dX1_isAlike_61 ?_
          refine z_callV (As := [.int ((zwp (wn (Int32.toNatClampNeg p1))) + (nI k))]) (rest := [.long ((ct d0) (Int32.toNatClampNeg ((zwr (wn (Int32.toNatClampNeg p0))) + ((zwp (wn (Int32.toNatClampNeg p0))) + (nI k)))))]) ⟨hx, hb, hml, hown, hts⟩ hw hX hc_4 rfl (c_X0_valueAt l g L f (ah ((Int32.toNatClampNeg p1) + 3)) ((zwk (wn (Int32.toNatClampNeg p1))), (zwo (wn (Int32.toNatClampNeg p1))), (zws (wn (Int32.toNatClampNeg p1))), (zwr (wn (Int32.toNatClampNeg p1))), (zwc (wn (Int32.toNatClampNeg p1))), (zwp (wn (Int32.toNatClampNeg p1))), (zwe (wn (Int32.toNatClampNeg p1))), (zwm (wn (Int32.toNatClampNeg p1)))) ((zwp (wn (Int32.toNatClampNeg p1))) + (nI k)) hc_4 hst1 (zH_val HR gz1 hs1 hd1 gy1.1 gy1.2).1) (cwV 1 hts gX1_isAlike_X0_valueAt rfl rfl rfl (by decide +kernel) ⟨(Nat.le_of_ble_eq_true rfl), (Nat.le_of_ble_eq_true rfl)⟩) rfl hl.1 rfl (Nat.le_of_ble_eq_true rfl) dX1_isAlike_62 ⟨(Nat.le_of_ble_eq_true rfl), (Nat.le_of_ble_eq_true rfl)⟩ (fun _ _ _ _ _ _ _ hp => False.elim hp) (fun r9 L9 f9 H locs hp hw => ?_)
          obtain ⟨rfl, rfl, rfl⟩ := hp
          refine W.eq (g2 := F0 m 65 ls [.long ((ct d1) (Int32.toNatClampNeg ((zwr (wn (Int32.toNatClampNeg p1))) + ((zwp (wn (Int32.toNatClampNeg p1))) + (nI k))))), .long ((ct d0) (Int32.toNatClampNeg ((zwr (wn (Int32.toNatClampNeg p0))) + ((zwp (wn (Int32.toNatClampNeg p0))) + (nI k)))))]) rfl ?_
          refine W.lcmp hx hb dX1_isAlike_65 ?_
          refine lv_if_eq (tgt := 71) hx hb dX1_isAlike_66 (by decide) (fun c_7 => ?_) (fun c_7 => ?_)
          · refine lv_iinc (v := ((nI k) + 1)) (lv' := [(6, .int ((nI k) + 1)), (0, .ref (ah 0)), (1, .int p0), (2, .int p1), (3, .ref (ah ((Int32.toNatClampNeg p0) + 3))), (4, .ref (ah ((Int32.toNatClampNeg p1) + 3))), (5, .int ((zwe (wn (Int32.toNatClampNeg p0))) - (zwp (wn (Int32.toNatClampNeg p0)))))]) hx hb dX1_isAlike_71 hl (k := 6) rfl rfl (by decide) rfl (fun ls hl => ?_)
            refine lv_goto (tgt := 34) hx hb dX1_isAlike_74 (by decide) ?_
            have heq : zVal σ (Int32.toNatClampNeg p0) (zPL σ (Int32.toNatClampNeg p0) + nI k) = zVal σ (Int32.toNatClampNeg p1) (zPL σ (Int32.toNatClampNeg p1) + nI k) := by rw [← gv0, ← gv1, ← hp0, ← hp1]; exact zcmp0.mp c_7
            have hal9 : zAlk σ (Int32.toNatClampNeg p0) (Int32.toNatClampNeg p1) (k + 1) = true := by rw [zAlk, hal, decide_eq_true heq]; rfl
            refine ih_34 (k + 1) _ _ _ (by omega) (by omega) hal9 hw ?_
            have hl := lv_sub hl (l' := [(0, .ref (ah 0)), (1, .int p0), (2, .int p1), (3, .ref (ah ((Int32.toNatClampNeg p0) + 3))), (4, .ref (ah ((Int32.toNatClampNeg p1) + 3))), (5, .int ((zwe (wn (Int32.toNatClampNeg p0))) - (zwp (wn (Int32.toNatClampNeg p0))))), (6, .int ((nI k) + 1))]) [1, 2, 3, 4, 5, 6, 0] rfl
            rw [← nI_1 k]
            exact hl
          · refine lv_iconst (v := 0) hx hb dX1_isAlike_69 (by decide) ?_
            have hnq : ¬ zVal σ (Int32.toNatClampNeg p0) (zPL σ (Int32.toNatClampNeg p0) + nI k) = zVal σ (Int32.toNatClampNeg p1) (zPL σ (Int32.toNatClampNeg p1) + nI k) := fun q => c_7 (zcmp0.mpr (by rw [hp0, hp1]; exact gv0.trans (q.trans gv1.symm)))
            have hz : zAlk σ (Int32.toNatClampNeg p0) (Int32.toNatClampNeg p1) n = false := z_al_mono (k := k + 1) (by omega) (by rw [zAlk, decide_eq_false hnq, Bool.and_false])
            have ho : (o_isAlike σ p0 p1) = (0, (zb (zAlk σ (Int32.toNatClampNeg p0) (Int32.toNatClampNeg p1) (Int32.toNatClampNeg (zEN σ (Int32.toNatClampNeg p0) - zPL σ (Int32.toNatClampNeg p0))))), σ) := by unfold o_isAlike; exact (if_pos (show (zis σ p0 = true) from by assumption)).trans (if_pos (show (zis σ p1 = true) from by assumption))
            exact z_zret hx hb hr hlocks rfl hw (Nat.le_of_ble_eq_true rfl) (Nat.le_of_ble_eq_true rfl) dX1_isAlike_70 ⟨by rw [ho], congrArg (fun z => some (Value.int z)) ((congrArg (fun q => q.2.1) ho).trans (show ((zb (zAlk σ (Int32.toNatClampNeg p0) (Int32.toNatClampNeg p1) (Int32.toNatClampNeg (zEN σ (Int32.toNatClampNeg p0) - zPL σ (Int32.toNatClampNeg p0))))) : Int32) = 0 from by rw [hz0, hz]; rfl)), by rw [ho]; exact ⟨_, _, _, _, _, _, _, _, _, rfl, HR⟩, fun _ _ => rfl⟩
    refine loop_34 (n + 1) 0 _ _ _ (Nat.zero_le _) (by omega) hal0 hw ?_
    have hl := lv_sub hl (l' := [(0, .ref (ah 0)), (1, .int p0), (2, .int p1), (3, .ref (ah ((Int32.toNatClampNeg p0) + 3))), (4, .ref (ah ((Int32.toNatClampNeg p1) + 3))), (5, .int ((zwe (wn (Int32.toNatClampNeg p0))) - (zwp (wn (Int32.toNatClampNeg p0))))), (6, .int 0)]) [4, 5, 6, 3, 2, 1, 0] rfl
    exact hl
  · refine lv_iconst (v := 0) hx hb dX1_isAlike_29 (by decide) ?_
    have hz : zAlk σ (Int32.toNatClampNeg p0) (Int32.toNatClampNeg p1) n = false := z_al_mono (Nat.zero_le n) (decide_eq_false (fun q => c_5 (by rw [he0, hp0, he1, hp1]; exact q)))
    have ho : (o_isAlike σ p0 p1) = (0, (zb (zAlk σ (Int32.toNatClampNeg p0) (Int32.toNatClampNeg p1) (Int32.toNatClampNeg (zEN σ (Int32.toNatClampNeg p0) - zPL σ (Int32.toNatClampNeg p0))))), σ) := by unfold o_isAlike; exact (if_pos (show (zis σ p0 = true) from by assumption)).trans (if_pos (show (zis σ p1 = true) from by assumption))
    exact z_zret hx hb hr hlocks rfl hw (Nat.le_of_ble_eq_true rfl) (Nat.le_of_ble_eq_true rfl) dX1_isAlike_30 ⟨by rw [ho], congrArg (fun z => some (Value.int z)) ((congrArg (fun q => q.2.1) ho).trans (show ((zb (zAlk σ (Int32.toNatClampNeg p0) (Int32.toNatClampNeg p1) (Int32.toNatClampNeg (zEN σ (Int32.toNatClampNeg p0) - zPL σ (Int32.toNatClampNeg p0))))) : Int32) = 0 from by rw [hz0, hz]; rfl)), by rw [ho]; exact ⟨_, _, _, _, _, _, _, _, _, rfl, HR⟩, fun _ _ => rfl⟩

theorem hi_X1_checksum_X1 : ∀ w ∈ wsX10, w ∈ wsX1_checksum := by decide +kernel
theorem hf_X1_checksum_11 : Cond.fieldLink RX1 11 (TX1 1).1 (TX1 1).2.1 (TX1 1).2.2.1 ∈ wsX1_checksum := by decide +kernel
theorem hf_X1_checksum_16 : Cond.fieldLink RX1 16 (TX1 0).1 (TX1 0).2.1 (TX1 0).2.2.1 ∈ wsX1_checksum := by decide +kernel
set_option maxRecDepth 100000 in
set_option maxHeartbeats 4000000 in
theorem c_X1_checksum (l : Launch) (g : zG) (L : List Nat) (f : Nat → va_E) (h : Nat) (P : Nat → Prop) (σ : ZS)  (hH : zHC g h P σ L f) : zC l yX1_checksum wsX1_checksum { frames := 3, cells := 0, slots := 0, locals := 73 } 0 0 g [.ref h] L f (fun r L1 f1 => (o_checksum σ).1 = 0 ∧ some (.long (o_checksum σ).2.1) = r ∧ zHC g h P (o_checksum σ).2.2 L1 f1 ∧ ∀ b, P b → f1 b = f b) zNo := by
  obtain ⟨ah, G, Rw, rs, wn, ad, ln, kd, ct, rfl, HR⟩ := hH
  obtain ⟨hE, hG, hRw, -⟩ := id HR
  refine z_ofW (cc := cX1_checksum) (maxL := 4) (ret := (some .long)) (by decide) rfl (Nat.le_of_ble_eq_true rfl) ?_
  intro p e s m args below meth c ls A hx hb hr hts hown hlocks hml htab hin hw hX hl
  have hl : lv_has ls 4 [(0, .ref (ah 0))] := hl
  have hown : s.vm.findClass RX1 = some m.cls := hown
  refine lv_ldc2 (v := 7) hx hb hown (hts (.constantLong RX1 173 7) (by decide +kernel)) dX1_checksum_0 ?_
  refine lv_lstore_n (lv' := [(1, .long 7), (0, .ref (ah 0))]) hx hb dX1_checksum_3 rfl hl (by decide) rfl (fun ls hl => ?_)
  refine lv_iconst (v := 0) hx hb dX1_checksum_4 (by decide) ?_
  refine lv_istore_n (lv' := [(3, .int 0), (1, .long 7), (0, .ref (ah 0))]) hx hb dX1_checksum_5 rfl hl (by decide) rfl (fun ls hl => ?_)
  have loop_6 : ∀ (n9 : Nat) (w : Nat) (H : Heap) (locs : List Loc) (ls : Array Slot), (w ≤ 8) → (9 ≤ w + n9) → zW g A s L f H locs → lv_has ls 4 [(0, .ref (ah 0)), (1, .long (zCks σ w)), (3, .int (nI w))] → W p l e { frames := 3, cells := 0, slots := 0, locals := 73 } s m args below meth c H locs 0 0 (vx_MQ below (zQ g A (fun r L1 f1 => (o_checksum σ).1 = 0 ∧ some (.long (o_checksum σ).2.1) = r ∧ zHC g (ah 0) P (o_checksum σ).2.2 L1 f1 ∧ ∀ b, P b → f1 b = f b)) (zXC g A zNo) args s 0 0 A) (F0 m 6 ls []) := by
    intro n9
    induction n9 with
    | zero => intro w H locs ls hk hn hw hl; exact absurd hn (by omega)
    | succ n9 ih_6 =>
      intro w H locs ls hk hn hw hl
      refine lv_iload_n hx hb dX1_checksum_6 rfl (lv_at hl 2 rfl) ?_
      refine lv_bipush (v := 8) hx hb dX1_checksum_7 (by decide) ?_
      refine lv_icmp_ge (tgt := 29) hx hb dX1_checksum_9 (by decide) (fun c_1 => ?_) (fun c_1 => ?_)
      · have hke : w = 8 := zn_ge (n := 8) c_1 hk (by decide)
        subst hke
        refine lv_iconst (v := 0) hx hb dX1_checksum_29 (by decide) ?_
        refine lv_istore_n (lv' := [(3, .int 0), (0, .ref (ah 0)), (1, .long (zCks σ 8))]) hx hb dX1_checksum_30 rfl hl (by decide) rfl (fun ls hl => ?_)
        have loop_31 : ∀ (n9 : Nat) (r : Nat) (H : Heap) (locs : List Loc) (ls : Array Slot), (r ≤ 2) → (3 ≤ r + n9) → zW g A s L f H locs → lv_has ls 4 [(0, .ref (ah 0)), (1, .long (zCkrs σ r)), (3, .int (nI r))] → W p l e { frames := 3, cells := 0, slots := 0, locals := 73 } s m args below meth c H locs 0 0 (vx_MQ below (zQ g A (fun r L1 f1 => (o_checksum σ).1 = 0 ∧ some (.long (o_checksum σ).2.1) = r ∧ zHC g (ah 0) P (o_checksum σ).2.2 L1 f1 ∧ ∀ b, P b → f1 b = f b)) (zXC g A zNo) args s 0 0 A) (F0 m 31 ls []) := by
          intro n9
          induction n9 with
          | zero => intro r H locs ls hkr hnr hw hl; exact absurd hnr (by omega)
          | succ n9 ih_31 =>
            intro r H locs ls hkr hnr hw hl
            refine lv_iload_n hx hb dX1_checksum_31 rfl (lv_at hl 2 rfl) ?_
            refine lv_iconst (v := 2) hx hb dX1_checksum_32 (by decide) ?_
            refine lv_icmp_ge (tgt := 53) hx hb dX1_checksum_33 (by decide) (fun c_2 => ?_) (fun c_2 => ?_)
            · have hker : r = 2 := zn_ge (n := 2) c_2 hkr (by decide)
              subst hker
              refine lv_lload_n hx hb dX1_checksum_53 rfl (lv_at hl 1 rfl) ?_
              have ho : (o_checksum σ) = (0, zCkrs σ 2, σ) := rfl
              exact z_lret hx hb hr hlocks hw (Nat.le_of_ble_eq_true rfl) (Nat.le_of_ble_eq_true rfl) dX1_checksum_54 ⟨by rw [ho], congrArg (fun z => some (Value.long z)) ((congrArg (fun q => q.2.1) ho).trans (show (zCkrs σ 2 : Int64) = (zCkrs σ 2) from rfl)), by rw [ho]; exact ⟨_, _, _, _, _, _, _, _, _, rfl, HR⟩, fun _ _ => rfl⟩
            · have hltr : r < 2 := zn_lt (n := 2) c_2 hkr (by decide)
              obtain ⟨dr, hdr, hrs, hstr, hrl, hr64, hsm⟩ := zH_rows HR (r := (Int32.toNatClampNeg (nI r))) (by rw [nI_clamp (by omega)]; exact hltr)
              refine lv_lload_n hx hb dX1_checksum_36 rfl (lv_at hl 1 rfl) ?_
              refine lv_aload_n hx hb dX1_checksum_37 rfl (lv_at hl 0 rfl) ?_
              refine zr_get (C := RX1) (T := TX1) (N := 4) (v := .ref (ah 2)) hx hb hts hi_X1_checksum_X1 hown hw (hE.1 0 (by decide)) rfl 1 (by decide) hf_X1_checksum_11 rfl dX1_checksum_38 ?_
              refine lv_iload_n hx hb dX1_checksum_41 rfl (lv_at hl 2 rfl) ?_
              refine zr_gald (v := rs (Int32.toNatClampNeg (nI r))) hx hb hw (hE.1 2 (by decide)) (vp_in_nI hltr (by decide)) (hRw _ (vp_lt (vp_in_nI hltr (by decide)))) dX1_checksum_42 ?_
              refine z_callS (As := [.long (zCkrs σ r), .ref (rs (Int32.toNatClampNeg (nI r)))]) (rest := []) ⟨hx, hb, hml, hown, hts⟩ hw hX (c_X1_sumOfRow l g L f (zCkrs σ r) (rs (Int32.toNatClampNeg (nI r))) hstr hr64) (va_cwS 2 hts gX1_checksum_X1_sumOfRow rfl rfl rfl (by decide +kernel) ⟨(Nat.le_of_ble_eq_true rfl), (Nat.le_of_ble_eq_true rfl)⟩) rfl hl.1 rfl (Nat.le_of_ble_eq_true rfl) dX1_checksum_43 ⟨(Nat.le_of_ble_eq_true rfl), (Nat.le_of_ble_eq_true rfl)⟩ (fun _ _ _ _ _ _ _ hp => False.elim hp) (fun r9 L9 f9 H locs hp hw => ?_)
              obtain ⟨rfl, rfl, rfl⟩ := hp
              refine W.eq (g2 := F0 m 46 ls [.long (zSm (ct dr) (zCkrs σ r) (ln dr))]) rfl ?_
              refine lv_lstore_n (lv' := [(1, .long (zSm (ct dr) (zCkrs σ r) (ln dr))), (0, .ref (ah 0)), (3, .int (nI r))]) hx hb dX1_checksum_46 rfl hl (by decide) rfl (fun ls hl => ?_)
              refine lv_iinc (v := ((nI r) + 1)) (lv' := [(3, .int ((nI r) + 1)), (1, .long (zSm (ct dr) (zCkrs σ r) (ln dr))), (0, .ref (ah 0))]) hx hb dX1_checksum_47 hl (k := 2) rfl rfl (by decide) rfl (fun ls hl => ?_)
              refine lv_goto (tgt := 31) hx hb dX1_checksum_50 (by decide) ?_
              refine ih_31 (r + 1) _ _ _ (by omega) (by omega) hw ?_
              have hl := lv_sub hl (l' := [(0, .ref (ah 0)), (1, .long (zSm (ct dr) (zCkrs σ r) (ln dr))), (3, .int ((nI r) + 1))]) [2, 1, 0] rfl
              rw [show zCkrs σ (r + 1) = zSm (ct dr) (zCkrs σ r) (ln dr) from (hsm _).symm, ← nI_1 r]
              exact hl
        refine loop_31 (3) 0 _ _ _ (by decide) (by decide) hw ?_
        have hl := lv_sub hl (l' := [(0, .ref (ah 0)), (1, .long (zCks σ 8)), (3, .int 0)]) [1, 2, 0] rfl
        exact hl
      · have hlt : w < 8 := zn_lt (n := 8) c_1 hk (by decide)
        refine lv_aload_n hx hb dX1_checksum_12 rfl (lv_at hl 0 rfl) ?_
        refine zr_get (C := RX1) (T := TX1) (N := 4) (v := .ref (ah 1)) hx hb hts hi_X1_checksum_X1 hown hw (hE.1 0 (by decide)) rfl 0 (by decide) hf_X1_checksum_16 rfl dX1_checksum_13 ?_
        refine lv_iload_n hx hb dX1_checksum_16 rfl (lv_at hl 2 rfl) ?_
        refine zr_aald (v := ah ((Int32.toNatClampNeg (nI w)) + 3)) hx hb hw (hE.1 1 (by decide)) (vp_in_nI hlt (by decide)) (hG _ (vp_lt (vp_in_nI hlt (by decide)))) dX1_checksum_17 ?_
        have hc_3 : zc L f (ah ((Int32.toNatClampNeg (nI w)) + 3)) (.inr (0, zwf (wn (Int32.toNatClampNeg (nI w))))) := hE.1 ((Int32.toNatClampNeg (nI w)) + 3) (by have := vp_lt (vp_in_nI hlt (by decide)); omega)
        refine lv_lload_n hx hb dX1_checksum_18 rfl (lv_at hl 1 rfl) ?_
        refine z_callV (As := [.long (zCks σ w)]) (rest := []) ⟨hx, hb, hml, hown, hts⟩ hw hX hc_3 rfl (c_X0_sumOfAll l HR (i := (Int32.toNatClampNeg (nI w))) (by rw [nI_clamp (by omega)]; exact hlt) (zCks σ w)) (cwV 1 hts gX1_checksum_X0_sumOfAll rfl rfl rfl (by decide +kernel) ⟨(Nat.le_of_ble_eq_true rfl), (Nat.le_of_ble_eq_true rfl)⟩) rfl hl.1 rfl (Nat.le_of_ble_eq_true rfl) dX1_checksum_19 ⟨(Nat.le_of_ble_eq_true rfl), (Nat.le_of_ble_eq_true rfl)⟩ (fun _ _ _ _ _ _ _ hp => False.elim hp) (fun r9 L9 f9 H locs hp hw => ?_)
        obtain ⟨rfl, rfl, rfl⟩ := hp
        refine W.eq (g2 := F0 m 22 ls [.long (zCkw σ (Int32.toNatClampNeg (nI w)) (zCks σ w))]) rfl ?_
        refine lv_lstore_n (lv' := [(1, .long (zCkw σ (Int32.toNatClampNeg (nI w)) (zCks σ w))), (0, .ref (ah 0)), (3, .int (nI w))]) hx hb dX1_checksum_22 rfl hl (by decide) rfl (fun ls hl => ?_)
        refine lv_iinc (v := ((nI w) + 1)) (lv' := [(3, .int ((nI w) + 1)), (1, .long (zCkw σ (Int32.toNatClampNeg (nI w)) (zCks σ w))), (0, .ref (ah 0))]) hx hb dX1_checksum_23 hl (k := 2) rfl rfl (by decide) rfl (fun ls hl => ?_)
        refine lv_goto (tgt := 6) hx hb dX1_checksum_26 (by decide) ?_
        refine ih_6 (w + 1) _ _ _ (by omega) (by omega) hw ?_
        have hl := lv_sub hl (l' := [(0, .ref (ah 0)), (1, .long (zCkw σ (Int32.toNatClampNeg (nI w)) (zCks σ w))), (3, .int ((nI w) + 1))]) [2, 1, 0] rfl
        rw [← nI_1 w]
        exact hl
  refine loop_6 (9) 0 _ _ _ (by decide) (by decide) hw ?_
  have hl := lv_sub hl (l' := [(0, .ref (ah 0)), (1, .long 7), (3, .int 0)]) [2, 1, 0] rfl
  exact hl

