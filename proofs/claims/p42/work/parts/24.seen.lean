theorem hi_L_isSeen_L : ∀ w ∈ wsL0, w ∈ wsL_isSeen := by decide +kernel
theorem hf_L_isSeen_10 : Cond.fieldLink RL 10 (TL 3).1 (TL 3).2.1 (TL 3).2.2.1 ∈ wsL_isSeen := by decide +kernel
set_option maxRecDepth 100000 in
set_option maxHeartbeats 4000000 in
theorem c_L_isSeen (l : Launch) (hl0 : l.stackTraces = false) (g : zG) (L : List Nat) (f : Nat → va_E) (b n : Nat) (xs : Nat → Int32) (hN : n ≤ 260) (a h : Nat) (σ : ZS) (T : Nat) (hT : T < 5000) (hS : zLs T g b a h σ L f) : zCL l yL_isSeen wsL_isSeen { frames := 11, cells := 450, slots := 2800, locals := 195 } 450 2800 g b n xs [.ref a] L f (fun r L1 f1 => some (.int 1) = r ∧ ∃ σ1, zLs (T + 20) g b a h σ1 L1 f1) zNo := by
  refine z_ofWL (cc := cL_isSeen) (maxL := 11) (ret := (some .boolean)) (by decide) rfl (Nat.le_of_ble_eq_true rfl) ?_
  intro p e s m args below meth c ls A hx hb hr hts hown hlocks hml htab hw hX hXs hbl hbA hl
  have hl : lv_has ls 11 [(0, .ref a)] := hl
  have hown : s.vm.findClass RL = some m.cls := hown
  refine lv_aload_n hx hb dL_isSeen_0 rfl (lv_at hl 0 rfl) ?_
  refine z_callVL (As := []) (rest := []) ⟨hx, hb, hml, hown, hts⟩ hw hX hXs hbl hbA hS.cell.choose_spec rfl (c_L_anyKind l g _ _ b n xs hN a h _ _ (by omega) hS) (cwV 0 hts gL_isSeen_L_anyKind rfl rfl rfl (by decide +kernel) ⟨(Nat.le_of_ble_eq_true rfl), (Nat.le_of_ble_eq_true rfl)⟩) rfl hl.1 rfl (Nat.le_of_ble_eq_true rfl) dL_isSeen_1 ⟨by show _ ≤ (450 : Nat); omega, by show _ ≤ (2800 : Nat); omega⟩ (fun r9 L9 f9 H locs hp hw => ?_)
  obtain ⟨k9, hk9, rfl, hS⟩ := hp
  have hk := zkd hk9
  refine W.eq (g2 := F0 m 4 ls [.int k9]) rfl ?_
  refine lv_istore_n (lv' := [(1, .int k9), (0, .ref a)]) hx hb dL_isSeen_4 rfl hl (by decide) rfl (fun ls hl => ?_)
  refine lv_iconst (v := 4) hx hb dL_isSeen_5 (by decide) ?_
  refine lv_aload_n hx hb dL_isSeen_6 rfl (lv_at hl 1 rfl) ?_
  refine lv_bipush (v := 20) hx hb dL_isSeen_7 (by decide) ?_
  refine z_callVL (As := [.int 20]) (rest := [.int 4]) ⟨hx, hb, hml, hown, hts⟩ hw hX hXs hbl hbA hS.cell.choose_spec rfl (c_L_draw l g _ _ b n xs hN a h _ _ (by omega) 20 (by omega) (by omega) hS) (cwV 1 hts gL_isSeen_L_draw rfl rfl rfl (by decide +kernel) ⟨(Nat.le_of_ble_eq_true rfl), (Nat.le_of_ble_eq_true rfl)⟩) rfl hl.1 rfl (Nat.le_of_ble_eq_true rfl) dL_isSeen_9 ⟨by show _ ≤ (450 : Nat); omega, by show _ ≤ (2800 : Nat); omega⟩ (fun r9 L9 f9 H locs hp hw => ?_)
  obtain ⟨v1, hv1, rfl, hS⟩ := hp
  refine W.eq (g2 := F0 m 12 ls [.int (nI v1), .int 4]) rfl ?_
  refine lv_iadd hx hb dL_isSeen_12 ?_
  refine lv_topi (fun y9 hy9 => ?_)
  obtain rfl : y9 = (nI (4 + v1)) := hy9.trans (nI_add 4 v1)
  refine lv_istore_n (lv' := [(2, .int (nI (4 + v1))), (1, .int k9), (0, .ref a)]) hx hb dL_isSeen_13 rfl hl (by decide) rfl (fun ls hl => ?_)
  refine lv_aload_n hx hb dL_isSeen_14 rfl (lv_at hl 2 rfl) ?_
  refine zs_x hx hb hts hi_L_isSeen_L hown hw hS hf_L_isSeen_10 dL_isSeen_15 ?_
  refine lv_iconst (v := 0) hx hb dL_isSeen_18 (by decide) ?_
  refine lv_iload_n hx hb dL_isSeen_19 rfl (lv_at hl 1 rfl) ?_
  refine lv_iload_n hx hb dL_isSeen_20 rfl (lv_at hl 0 rfl) ?_
  obtain ⟨ln, kd, hI⟩ := zs_I hS
  obtain ⟨σ1, w1, d, hd, ho, hV0⟩ := v_allocate (i := 0) (n := 4 + v1) hI (by decide) hk9 (by omega)
  refine zs_call (α := Int32) Value.int (As := [.int 0, .int k9, .int (nI (4 + v1))]) (rest := []) ho ⟨hx, hb, hml, hown, hts⟩ hw hX hS (c_X1_allocate l hl0 g _ _ h _ _ 0 k9 (nI (4 + v1)) (zs_H hS)) (by decide) (cwV 3 hts gL_isSeen_X1_allocate rfl rfl rfl (by decide +kernel) ⟨(Nat.le_of_ble_eq_true rfl), (Nat.le_of_ble_eq_true rfl)⟩) rfl hl.1 rfl (Nat.le_of_ble_eq_true rfl) dL_isSeen_21 ⟨by show _ ≤ (450 : Nat); omega, by show _ ≤ (2800 : Nat); omega⟩ (fun L f H locs hS hw => ?_)
  refine W.eq (g2 := F0 m 24 ls [.int w1]) rfl ?_
  refine lv_pop hx hb dL_isSeen_24 rfl ?_
  refine lv_aload_n hx hb dL_isSeen_25 rfl (lv_at hl 2 rfl) ?_
  refine zs_x hx hb hts hi_L_isSeen_L hown hw hS hf_L_isSeen_10 dL_isSeen_26 ?_
  refine lv_iconst (v := 0) hx hb dL_isSeen_29 (by decide) ?_
  refine lv_iload_n hx hb dL_isSeen_30 rfl (lv_at hl 0 rfl) ?_
  refine lv_aload_n hx hb dL_isSeen_31 rfl (lv_at hl 2 rfl) ?_
  refine lv_bipush (v := 100) hx hb dL_isSeen_32 (by decide) ?_
  refine z_callVL (As := [.int 100]) (rest := [.int (nI (4 + v1)), .int 0, .ref h]) ⟨hx, hb, hml, hown, hts⟩ hw hX hXs hbl hbA hS.cell.choose_spec rfl (c_L_draw l g _ _ b n xs hN a h _ _ (by omega) 100 (by omega) (by omega) hS) (cwV 1 hts gL_isSeen_L_draw rfl rfl rfl (by decide +kernel) ⟨(Nat.le_of_ble_eq_true rfl), (Nat.le_of_ble_eq_true rfl)⟩) rfl hl.1 rfl (Nat.le_of_ble_eq_true rfl) dL_isSeen_34 ⟨by show _ ≤ (450 : Nat); omega, by show _ ≤ (2800 : Nat); omega⟩ (fun r9 L9 f9 H locs hp hw => ?_)
  obtain ⟨v2, hv2, rfl, hS⟩ := hp
  refine W.eq (g2 := F0 m 37 ls [.int (nI v2), .int (nI (4 + v1)), .int 0, .ref h]) rfl ?_
  refine lv_i2l (v := (nI v2).toInt64) hx hb dL_isSeen_37 rfl ?_
  refine lv_iconst (v := 1) hx hb dL_isSeen_38 (by decide) ?_
  refine lv_aload_n hx hb dL_isSeen_39 rfl (lv_at hl 2 rfl) ?_
  refine lv_iconst (v := 5) hx hb dL_isSeen_40 (by decide) ?_
  refine z_callVL (As := [.int 5]) (rest := [.int 1, .long (nI v2).toInt64, .int (nI (4 + v1)), .int 0, .ref h]) ⟨hx, hb, hml, hown, hts⟩ hw hX hXs hbl hbA hS.cell.choose_spec rfl (c_L_draw l g _ _ b n xs hN a h _ _ (by omega) 5 (by omega) (by omega) hS) (cwV 1 hts gL_isSeen_L_draw rfl rfl rfl (by decide +kernel) ⟨(Nat.le_of_ble_eq_true rfl), (Nat.le_of_ble_eq_true rfl)⟩) rfl hl.1 rfl (Nat.le_of_ble_eq_true rfl) dL_isSeen_41 ⟨by show _ ≤ (450 : Nat); omega, by show _ ≤ (2800 : Nat); omega⟩ (fun r9 L9 f9 H locs hp hw => ?_)
  obtain ⟨v3, hv3, rfl, hS⟩ := hp
  refine W.eq (g2 := F0 m 44 ls [.int (nI v3), .int 1, .long (nI v2).toInt64, .int (nI (4 + v1)), .int 0, .ref h]) rfl ?_
  refine lv_iadd hx hb dL_isSeen_44 ?_
  refine lv_topi (fun y9 hy9 => ?_)
  obtain rfl : y9 = (nI (1 + v3)) := hy9.trans (nI_add 1 v3)
  refine lv_i2l (v := (nI (1 + v3)).toInt64) hx hb dL_isSeen_45 rfl ?_
  obtain ⟨σ2, ho, hV0, -, -⟩ := v_fill (n := 4 + v1) hV0 (by decide) hk hd (by omega) (by omega) ((nI v2).toInt64) ((nI (1 + v3)).toInt64)
  simp only [Nat.zero_add, Nat.add_zero, Nat.sub_zero] at ho hV0
  refine zs_call (α := Int32) Value.int (As := [.int 0, .int (nI (4 + v1)), .long (nI v2).toInt64, .long (nI (1 + v3)).toInt64]) (rest := []) ho ⟨hx, hb, hml, hown, hts⟩ hw hX hS (c_X1_fill l hl0 g _ _ h _ _ 0 (nI (4 + v1)) ((nI v2).toInt64) ((nI (1 + v3)).toInt64) (zs_H hS)) (by decide) (cwV 4 hts gL_isSeen_X1_fill rfl rfl rfl (by decide +kernel) ⟨(Nat.le_of_ble_eq_true rfl), (Nat.le_of_ble_eq_true rfl)⟩) rfl hl.1 rfl (Nat.le_of_ble_eq_true rfl) dL_isSeen_46 ⟨by show _ ≤ (450 : Nat); omega, by show _ ≤ (2800 : Nat); omega⟩ (fun L f H locs hS hw => ?_)
  refine W.eq (g2 := F0 m 49 ls [.int (nI (4 + v1))]) rfl ?_
  refine lv_iload_n hx hb dL_isSeen_49 rfl (lv_at hl 0 rfl) ?_
  refine lv_icmp_ne (tgt := 69) hx hb dL_isSeen_50 (by decide) (fun c9 => absurd (rfl) c9) (fun _ => ?_)
  refine lv_aload_n hx hb dL_isSeen_53 rfl (lv_at hl 2 rfl) ?_
  refine zs_x hx hb hts hi_L_isSeen_L hown hw hS hf_L_isSeen_10 dL_isSeen_54 ?_
  refine lv_iconst (v := 0) hx hb dL_isSeen_57 (by decide) ?_
  obtain ⟨σ3, ho, hV0, -, -⟩ := v_flip hV0 (by decide) hk
  refine zs_call (α := Int32) Value.int (As := [.int 0]) (rest := []) ho ⟨hx, hb, hml, hown, hts⟩ hw hX hS (c_X1_flip l hl0 g _ _ h _ _ 0 (zs_H hS)) (by decide) (cwV 1 hts gL_isSeen_X1_flip rfl rfl rfl (by decide +kernel) ⟨(Nat.le_of_ble_eq_true rfl), (Nat.le_of_ble_eq_true rfl)⟩) rfl hl.1 rfl (Nat.le_of_ble_eq_true rfl) dL_isSeen_58 ⟨by show _ ≤ (450 : Nat); omega, by show _ ≤ (2800 : Nat); omega⟩ (fun L f H locs hS hw => ?_)
  refine W.eq (g2 := F0 m 61 ls [.int (nI (4 + v1))]) rfl ?_
  refine lv_iload_n hx hb dL_isSeen_61 rfl (lv_at hl 0 rfl) ?_
  refine lv_icmp_ne (tgt := 69) hx hb dL_isSeen_62 (by decide) (fun c9 => absurd (rfl) c9) (fun _ => ?_)
  refine lv_iconst (v := 1) hx hb dL_isSeen_65 (by decide) ?_
  refine lv_goto (tgt := 70) hx hb dL_isSeen_66 (by decide) ?_
  refine lv_istore_n (lv' := [(3, .int 1), (2, .int (nI (4 + v1))), (1, .int k9), (0, .ref a)]) hx hb dL_isSeen_70 rfl hl (by decide) rfl (fun ls hl => ?_)
  refine lv_aload_n hx hb dL_isSeen_71 rfl (lv_at hl 3 rfl) ?_
  refine lv_iload_n hx hb dL_isSeen_72 rfl (lv_at hl 1 rfl) ?_
  refine z_callVL (As := [.int (nI (4 + v1))]) (rest := []) ⟨hx, hb, hml, hown, hts⟩ hw hX hXs hbl hbA hS.cell.choose_spec rfl (c_L_draw l g _ _ b n xs hN a h _ _ (by omega) (4 + v1) (by omega) (by omega) hS) (cwV 1 hts gL_isSeen_L_draw rfl rfl rfl (by decide +kernel) ⟨(Nat.le_of_ble_eq_true rfl), (Nat.le_of_ble_eq_true rfl)⟩) rfl hl.1 rfl (Nat.le_of_ble_eq_true rfl) dL_isSeen_73 ⟨by show _ ≤ (450 : Nat); omega, by show _ ≤ (2800 : Nat); omega⟩ (fun r9 L9 f9 H locs hp hw => ?_)
  obtain ⟨v4, hv4, rfl, hS⟩ := hp
  refine W.eq (g2 := F0 m 76 ls [.int (nI v4)]) rfl ?_
  refine lv_istore (lv' := [(4, .int (nI v4)), (3, .int 1), (2, .int (nI (4 + v1))), (1, .int k9), (0, .ref a)]) hx hb dL_isSeen_76 hl (by decide) rfl (fun ls hl => ?_)
  refine lv_iload_n hx hb dL_isSeen_78 rfl (lv_at hl 1 rfl) ?_
  refine lv_if_eq (tgt := 165) hx hb dL_isSeen_79 (by decide) (fun c_1 => absurd c_1 (by decide)) (fun c_1 => ?_)
  refine lv_aload_n hx hb dL_isSeen_82 rfl (lv_at hl 4 rfl) ?_
  refine zs_x hx hb hts hi_L_isSeen_L hown hw hS hf_L_isSeen_10 dL_isSeen_83 ?_
  refine lv_iconst (v := 0) hx hb dL_isSeen_86 (by decide) ?_
  refine lv_iconst (v := 1) hx hb dL_isSeen_87 (by decide) ?_
  obtain ⟨σ4, ho, hV1, hO, -⟩ := v_duplicate (j := 1) hV0 (by decide) hk (by decide) (by omega)
  simp only [Nat.zero_add, Nat.add_zero, Nat.sub_zero] at ho
  have hV0 := hV0.ot hO (by decide)
  refine zs_call (α := Int32) Value.int (As := [.int 0, .int 1]) (rest := []) ho ⟨hx, hb, hml, hown, hts⟩ hw hX hS (c_X1_duplicate l hl0 g _ _ h _ _ 0 1 (zs_H hS)) (by decide) (cwV 2 hts gL_isSeen_X1_duplicate rfl rfl rfl (by decide +kernel) ⟨(Nat.le_of_ble_eq_true rfl), (Nat.le_of_ble_eq_true rfl)⟩) rfl hl.1 rfl (Nat.le_of_ble_eq_true rfl) dL_isSeen_88 ⟨by show _ ≤ (450 : Nat); omega, by show _ ≤ (2800 : Nat); omega⟩ (fun L f H locs hS hw => ?_)
  refine W.eq (g2 := F0 m 91 ls [.int (nI (4 + v1))]) rfl ?_
  refine lv_iload_n hx hb dL_isSeen_91 rfl (lv_at hl 2 rfl) ?_
  refine lv_icmp_ne (tgt := 165) hx hb dL_isSeen_92 (by decide) (fun c9 => absurd (rfl) c9) (fun _ => ?_)
  refine lv_aload_n hx hb dL_isSeen_95 rfl (lv_at hl 4 rfl) ?_
  refine zs_x hx hb hts hi_L_isSeen_L hown hw hS hf_L_isSeen_10 dL_isSeen_96 ?_
  refine lv_iconst (v := 0) hx hb dL_isSeen_99 (by decide) ?_
  refine lv_iconst (v := 2) hx hb dL_isSeen_100 (by decide) ?_
  obtain ⟨σ5, ho, hV2, hO, -⟩ := v_readOnly (j := 2) hV0 (by decide) hk (by decide) (by omega)
  simp only [Nat.zero_add, Nat.add_zero, Nat.sub_zero] at ho
  have hV0 := hV0.ot hO (by decide)
  have hV1 := hV1.ot hO (by decide)
  refine zs_call (α := Int32) Value.int (As := [.int 0, .int 2]) (rest := []) ho ⟨hx, hb, hml, hown, hts⟩ hw hX hS (c_X1_readOnly l hl0 g _ _ h _ _ 0 2 (zs_H hS)) (by decide) (cwV 2 hts gL_isSeen_X1_readOnly rfl rfl rfl (by decide +kernel) ⟨(Nat.le_of_ble_eq_true rfl), (Nat.le_of_ble_eq_true rfl)⟩) rfl hl.1 rfl (Nat.le_of_ble_eq_true rfl) dL_isSeen_101 ⟨by show _ ≤ (450 : Nat); omega, by show _ ≤ (2800 : Nat); omega⟩ (fun L f H locs hS hw => ?_)
  refine W.eq (g2 := F0 m 104 ls [.int (nI (4 + v1))]) rfl ?_
  refine lv_iload_n hx hb dL_isSeen_104 rfl (lv_at hl 2 rfl) ?_
  refine lv_icmp_ne (tgt := 165) hx hb dL_isSeen_105 (by decide) (fun c9 => absurd (rfl) c9) (fun _ => ?_)
  refine lv_aload_n hx hb dL_isSeen_108 rfl (lv_at hl 4 rfl) ?_
  refine zs_x hx hb hts hi_L_isSeen_L hown hw hS hf_L_isSeen_10 dL_isSeen_109 ?_
  refine lv_iconst (v := 1) hx hb dL_isSeen_112 (by decide) ?_
  refine lv_iload hx hb dL_isSeen_113 (lv_at hl 0 rfl) ?_
  obtain ⟨σ6, mk6, ho, hV1, hO, -⟩ := v_placeAt (q := v4) hV1 (by decide) hk (by omega) (by omega)
  have hV0 := hV0.ot hO (by decide)
  have hV2 := hV2.ot hO (by decide)
  refine zs_call (α := Int32) Value.int (As := [.int 1, .int (nI v4)]) (rest := []) ho ⟨hx, hb, hml, hown, hts⟩ hw hX hS (c_X1_placeAt l hl0 g _ _ h _ _ 1 (nI v4) (zs_H hS)) (by decide) (cwV 2 hts gL_isSeen_X1_placeAt rfl rfl rfl (by decide +kernel) ⟨(Nat.le_of_ble_eq_true rfl), (Nat.le_of_ble_eq_true rfl)⟩) rfl hl.1 rfl (Nat.le_of_ble_eq_true rfl) dL_isSeen_115 ⟨by show _ ≤ (450 : Nat); omega, by show _ ≤ (2800 : Nat); omega⟩ (fun L f H locs hS hw => ?_)
  refine W.eq (g2 := F0 m 118 ls [.int (nI 0)]) rfl ?_
  refine lv_if_ne (tgt := 165) hx hb dL_isSeen_118 (by decide) (fun c9 => absurd (nI_0) c9) (fun _ => ?_)
  refine lv_aload_n hx hb dL_isSeen_121 rfl (lv_at hl 4 rfl) ?_
  refine zs_x hx hb hts hi_L_isSeen_L hown hw hS hf_L_isSeen_10 dL_isSeen_122 ?_
  refine lv_iconst (v := 1) hx hb dL_isSeen_125 (by decide) ?_
  refine lv_iconst (v := 3) hx hb dL_isSeen_126 (by decide) ?_
  obtain ⟨σ7, ho, hV3, hO, -⟩ := v_slice (j := 3) hV1 (by decide) hk (by decide) (by omega) (Or.inl rfl)
  simp only [Nat.zero_add, Nat.add_zero, Nat.sub_zero] at hV3
  have hV0 := hV0.ot hO (by decide)
  have hV1 := hV1.ot hO (by decide)
  have hV2 := hV2.ot hO (by decide)
  refine zs_call (α := Int32) Value.int (As := [.int 1, .int 3]) (rest := []) ho ⟨hx, hb, hml, hown, hts⟩ hw hX hS (c_X1_slice l hl0 g _ _ h _ _ 1 3 (zs_H hS)) (by decide) (cwV 2 hts gL_isSeen_X1_slice rfl rfl rfl (by decide +kernel) ⟨(Nat.le_of_ble_eq_true rfl), (Nat.le_of_ble_eq_true rfl)⟩) rfl hl.1 rfl (Nat.le_of_ble_eq_true rfl) dL_isSeen_127 ⟨by show _ ≤ (450 : Nat); omega, by show _ ≤ (2800 : Nat); omega⟩ (fun L f H locs hS hw => ?_)
  refine W.eq (g2 := F0 m 130 ls [.int (nI (4 + v1 - v4))]) rfl ?_
  refine lv_iload_n hx hb dL_isSeen_130 rfl (lv_at hl 2 rfl) ?_
  refine lv_iload hx hb dL_isSeen_131 (lv_at hl 0 rfl) ?_
  refine lv_isub hx hb dL_isSeen_133 ?_
  refine lv_topi (fun y9 hy9 => ?_)
  obtain rfl : y9 = (nI ((4 + v1) - v4)) := hy9.trans (pk_sub (a := (4 + v1)) (b := v4) (by omega))
  refine lv_icmp_ne (tgt := 165) hx hb dL_isSeen_134 (by decide) (fun c9 => absurd (rfl) c9) (fun _ => ?_)
  refine lv_aload_n hx hb dL_isSeen_137 rfl (lv_at hl 4 rfl) ?_
  refine zs_x hx hb hts hi_L_isSeen_L hown hw hS hf_L_isSeen_10 dL_isSeen_138 ?_
  refine lv_iconst (v := 0) hx hb dL_isSeen_141 (by decide) ?_
  refine lv_iload hx hb dL_isSeen_142 (lv_at hl 0 rfl) ?_
  refine lv_iconst (v := 2) hx hb dL_isSeen_144 (by decide) ?_
  refine lv_idiv hx hb dL_isSeen_145 (by decide) ?_
  refine lv_topi (fun y9 hy9 => ?_)
  obtain rfl : y9 = (nI (v4 / 2)) := hy9.trans (pk_div (a := v4) (d := 2) (by omega) (by omega) (by omega))
  refine lv_iload_n hx hb dL_isSeen_146 rfl (lv_at hl 2 rfl) ?_
  refine lv_iload hx hb dL_isSeen_147 (lv_at hl 0 rfl) ?_
  refine lv_isub hx hb dL_isSeen_149 ?_
  refine lv_topi (fun y9 hy9 => ?_)
  obtain rfl : y9 = (nI ((4 + v1) - v4)) := hy9.trans (pk_sub (a := (4 + v1)) (b := v4) (by omega))
  refine lv_iconst (v := 4) hx hb dL_isSeen_150 (by decide) ?_
  obtain ⟨σ8, ho, hV4, hO, -⟩ := v_sliceAt (j := 4) (q := v4 / 2) (n := 4 + v1 - v4) hV0 (by decide) hk (by decide) (by omega) (by omega) (Or.inl rfl)
  simp only [Nat.zero_add, Nat.add_zero, Nat.sub_zero] at hV4
  have hV0 := hV0.ot hO (by decide)
  have hV1 := hV1.ot hO (by decide)
  have hV2 := hV2.ot hO (by decide)
  have hV3 := hV3.ot hO (by decide)
  refine zs_call (α := Int32) Value.int (As := [.int 0, .int (nI (v4 / 2)), .int (nI ((4 + v1) - v4)), .int 4]) (rest := []) ho ⟨hx, hb, hml, hown, hts⟩ hw hX hS (c_X1_sliceAt l hl0 g _ _ h _ _ 0 (nI (v4 / 2)) (nI ((4 + v1) - v4)) 4 (zs_H hS)) (by decide) (cwV 4 hts gL_isSeen_X1_sliceAt rfl rfl rfl (by decide +kernel) ⟨(Nat.le_of_ble_eq_true rfl), (Nat.le_of_ble_eq_true rfl)⟩) rfl hl.1 rfl (Nat.le_of_ble_eq_true rfl) dL_isSeen_151 ⟨by show _ ≤ (450 : Nat); omega, by show _ ≤ (2800 : Nat); omega⟩ (fun L f H locs hS hw => ?_)
  refine W.eq (g2 := F0 m 154 ls [.int (nI (4 + v1 - v4))]) rfl ?_
  refine lv_iload_n hx hb dL_isSeen_154 rfl (lv_at hl 2 rfl) ?_
  refine lv_iload hx hb dL_isSeen_155 (lv_at hl 0 rfl) ?_
  refine lv_isub hx hb dL_isSeen_157 ?_
  refine lv_topi (fun y9 hy9 => ?_)
  obtain rfl : y9 = (nI ((4 + v1) - v4)) := hy9.trans (pk_sub (a := (4 + v1)) (b := v4) (by omega))
  refine lv_icmp_ne (tgt := 165) hx hb dL_isSeen_158 (by decide) (fun c9 => absurd (rfl) c9) (fun _ => ?_)
  refine lv_iconst (v := 1) hx hb dL_isSeen_161 (by decide) ?_
  refine lv_goto (tgt := 166) hx hb dL_isSeen_162 (by decide) ?_
  refine lv_istore_n (lv' := [(3, .int 1), (4, .int (nI v4)), (2, .int (nI (4 + v1))), (1, .int k9), (0, .ref a)]) hx hb dL_isSeen_166 rfl hl (by decide) rfl (fun ls hl => ?_)
  refine lv_aload_n hx hb dL_isSeen_167 rfl (lv_at hl 4 rfl) ?_
  refine lv_iload_n hx hb dL_isSeen_168 rfl (lv_at hl 2 rfl) ?_
  refine z_callVL (As := [.int (nI (4 + v1))]) (rest := []) ⟨hx, hb, hml, hown, hts⟩ hw hX hXs hbl hbA hS.cell.choose_spec rfl (c_L_draw l g _ _ b n xs hN a h _ _ (by omega) (4 + v1) (by omega) (by omega) hS) (cwV 1 hts gL_isSeen_L_draw rfl rfl rfl (by decide +kernel) ⟨(Nat.le_of_ble_eq_true rfl), (Nat.le_of_ble_eq_true rfl)⟩) rfl hl.1 rfl (Nat.le_of_ble_eq_true rfl) dL_isSeen_169 ⟨by show _ ≤ (450 : Nat); omega, by show _ ≤ (2800 : Nat); omega⟩ (fun r9 L9 f9 H locs hp hw => ?_)
  obtain ⟨v5, hv5, rfl, hS⟩ := hp
  refine W.eq (g2 := F0 m 172 ls [.int (nI v5)]) rfl ?_
  refine lv_istore (lv' := [(5, .int (nI v5)), (3, .int 1), (4, .int (nI v4)), (2, .int (nI (4 + v1))), (1, .int k9), (0, .ref a)]) hx hb dL_isSeen_172 hl (by decide) rfl (fun ls hl => ?_)
  refine lv_aload_n hx hb dL_isSeen_174 rfl (lv_at hl 5 rfl) ?_
  refine lv_ldc (v := 1073741824) hx hb hown (hts (.constant RL 82 1073741824) (by decide +kernel)) dL_isSeen_175 ?_
  refine z_callVL (As := [.int 1073741824]) (rest := []) ⟨hx, hb, hml, hown, hts⟩ hw hX hXs hbl hbA hS.cell.choose_spec rfl (c_L_draw l g _ _ b n xs hN a h _ _ (by omega) 1073741824 (by omega) (by omega) hS) (cwV 1 hts gL_isSeen_L_draw rfl rfl rfl (by decide +kernel) ⟨(Nat.le_of_ble_eq_true rfl), (Nat.le_of_ble_eq_true rfl)⟩) rfl hl.1 rfl (Nat.le_of_ble_eq_true rfl) dL_isSeen_177 ⟨by show _ ≤ (450 : Nat); omega, by show _ ≤ (2800 : Nat); omega⟩ (fun r9 L9 f9 H locs hp hw => ?_)
  obtain ⟨v6, hv6, rfl, hS⟩ := hp
  refine W.eq (g2 := F0 m 180 ls [.int (nI v6)]) rfl ?_
  refine lv_i2l (v := (nI v6).toInt64) hx hb dL_isSeen_180 rfl ?_
  refine lv_ldc2 (v := 70001) hx hb hown (hts (.constantLong RL 83 70001) (by decide +kernel)) dL_isSeen_181 ?_
  refine lv_lmul hx hb dL_isSeen_184 ?_
  refine lv_lstore (lv' := [(6, .long ((nI v6).toInt64 * 70001)), (5, .int (nI v5)), (3, .int 1), (4, .int (nI v4)), (2, .int (nI (4 + v1))), (1, .int k9), (0, .ref a)]) hx hb dL_isSeen_185 hl (by decide) rfl (fun ls hl => ?_)
  refine lv_aload_n hx hb dL_isSeen_187 rfl (lv_at hl 6 rfl) ?_
  refine zs_x hx hb hts hi_L_isSeen_L hown hw hS hf_L_isSeen_10 dL_isSeen_188 ?_
  refine lv_iconst (v := 0) hx hb dL_isSeen_191 (by decide) ?_
  refine lv_iload hx hb dL_isSeen_192 (lv_at hl 1 rfl) ?_
  refine zs_call (α := Int64) Value.long (As := [.int 0, .int (nI v5)]) (rest := []) (v_getAt (q := v5) hV0 (by decide) hk hd (by omega) (by omega)) ⟨hx, hb, hml, hown, hts⟩ hw hX hS (c_X1_getAt l hl0 g _ _ h _ _ 0 (nI v5) (zs_H hS)) (by decide) (cwV 2 hts gL_isSeen_X1_getAt rfl rfl rfl (by decide +kernel) ⟨(Nat.le_of_ble_eq_true rfl), (Nat.le_of_ble_eq_true rfl)⟩) rfl hl.1 rfl (Nat.le_of_ble_eq_true rfl) dL_isSeen_194 ⟨by show _ ≤ (450 : Nat); omega, by show _ ≤ (2800 : Nat); omega⟩ (fun L f H locs hS hw => ?_)
  refine W.eq (g2 := F0 m 197 ls [.long (zST σ8 (64 * d + (0 + v5)))]) rfl ?_
  refine lv_lstore (lv' := [(8, .long (zST σ8 (64 * d + (0 + v5)))), (6, .long ((nI v6).toInt64 * 70001)), (5, .int (nI v5)), (3, .int 1), (4, .int (nI v4)), (2, .int (nI (4 + v1))), (1, .int k9), (0, .ref a)]) hx hb dL_isSeen_197 hl (by decide) rfl (fun ls hl => ?_)
  refine lv_iload_n hx hb dL_isSeen_199 rfl (lv_at hl 3 rfl) ?_
  refine lv_if_eq (tgt := 265) hx hb dL_isSeen_200 (by decide) (fun c_2 => absurd c_2 (by decide)) (fun c_2 => ?_)
  refine lv_aload_n hx hb dL_isSeen_203 rfl (lv_at hl 7 rfl) ?_
  refine zs_x hx hb hts hi_L_isSeen_L hown hw hS hf_L_isSeen_10 dL_isSeen_204 ?_
  refine lv_iconst (v := 1) hx hb dL_isSeen_207 (by decide) ?_
  refine lv_iload hx hb dL_isSeen_208 (lv_at hl 2 rfl) ?_
  refine lv_lload hx hb dL_isSeen_210 (lv_at hl 1 rfl) ?_
  obtain ⟨σ9, ho, hst, hsm, -, -⟩ := v_putAt (q := v5) hV1 (by decide) hk hd (by omega) (by omega) ((nI v6).toInt64 * 70001)
  have hV0 := hV0.sm hsm
  have hV1 := hV1.sm hsm
  have hV2 := hV2.sm hsm
  have hV3 := hV3.sm hsm
  have hV4 := hV4.sm hsm
  have hget : zST σ9 (64 * d + (0 + v5)) = zcut k9 ((nI v6).toInt64 * 70001) := by
    rw [hst]
    exact pk_uLs
  refine zs_call (α := Int64) Value.long (As := [.int 1, .int (nI v5), .long ((nI v6).toInt64 * 70001)]) (rest := []) ho ⟨hx, hb, hml, hown, hts⟩ hw hX hS (c_X1_putAt l hl0 g _ _ h _ _ 1 (nI v5) ((nI v6).toInt64 * 70001) (zs_H hS)) (by decide) (cwV 3 hts gL_isSeen_X1_putAt rfl rfl rfl (by decide +kernel) ⟨(Nat.le_of_ble_eq_true rfl), (Nat.le_of_ble_eq_true rfl)⟩) rfl hl.1 rfl (Nat.le_of_ble_eq_true rfl) dL_isSeen_212 ⟨by show _ ≤ (450 : Nat); omega, by show _ ≤ (2800 : Nat); omega⟩ (fun L f H locs hS hw => ?_)
  refine W.eq (g2 := F0 m 215 ls [.long (zST σ8 (64 * d + (0 + v5)))]) rfl ?_
  refine lv_lload hx hb dL_isSeen_215 (lv_at hl 0 rfl) ?_
  refine W.lcmp hx hb dL_isSeen_217 ?_
  refine lv_if_ne (tgt := 265) hx hb dL_isSeen_218 (by decide) (fun c9 => absurd (zcmp0.mpr rfl) c9) (fun _ => ?_)
  refine lv_aload_n hx hb dL_isSeen_221 rfl (lv_at hl 7 rfl) ?_
  refine zs_x hx hb hts hi_L_isSeen_L hown hw hS hf_L_isSeen_10 dL_isSeen_222 ?_
  refine lv_iconst (v := 0) hx hb dL_isSeen_225 (by decide) ?_
  refine lv_iload hx hb dL_isSeen_226 (lv_at hl 2 rfl) ?_
  refine zs_call (α := Int64) Value.long (As := [.int 0, .int (nI v5)]) (rest := []) (v_getAt (q := v5) hV0 (by decide) hk hd (by omega) (by omega)) ⟨hx, hb, hml, hown, hts⟩ hw hX hS (c_X1_getAt l hl0 g _ _ h _ _ 0 (nI v5) (zs_H hS)) (by decide) (cwV 2 hts gL_isSeen_X1_getAt rfl rfl rfl (by decide +kernel) ⟨(Nat.le_of_ble_eq_true rfl), (Nat.le_of_ble_eq_true rfl)⟩) rfl hl.1 rfl (Nat.le_of_ble_eq_true rfl) dL_isSeen_228 ⟨by show _ ≤ (450 : Nat); omega, by show _ ≤ (2800 : Nat); omega⟩ (fun L f H locs hS hw => ?_)
  refine W.eq (g2 := F0 m 231 ls [.long (zST σ9 (64 * d + (0 + v5)))]) rfl ?_
  refine lv_iload_n hx hb dL_isSeen_231 rfl (lv_at hl 6 rfl) ?_
  refine lv_lload hx hb dL_isSeen_232 (lv_at hl 1 rfl) ?_
  refine z_callS (As := [.int k9, .long ((nI v6).toInt64 * 70001)]) (rest := [.long (zST σ9 (64 * d + (0 + v5)))]) ⟨hx, hb, hml, hown, hts⟩ hw hX (c_L_cut l g _ _ k9 ((nI v6).toInt64 * 70001)) (va_cwS 2 hts gL_isSeen_L_cut rfl rfl rfl (by decide +kernel) ⟨(Nat.le_of_ble_eq_true rfl), (Nat.le_of_ble_eq_true rfl)⟩) rfl hl.1 rfl (Nat.le_of_ble_eq_true rfl) dL_isSeen_234 ⟨by show _ ≤ (450 : Nat); omega, by show _ ≤ (2800 : Nat); omega⟩ (fun _ _ _ _ _ _ _ hp => False.elim hp) (fun r9 L9 f9 H locs hp hw => ?_)
  obtain ⟨rfl, rfl, rfl⟩ := hp
  refine W.eq (g2 := F0 m 237 ls [.long (zcut k9 ((nI v6).toInt64 * 70001)), .long (zST σ9 (64 * d + (0 + v5)))]) rfl ?_
  refine W.lcmp hx hb dL_isSeen_237 ?_
  refine lv_if_ne (tgt := 265) hx hb dL_isSeen_238 (by decide) (fun c9 => absurd (zcmp0.mpr (hget)) c9) (fun _ => ?_)
  refine lv_aload_n hx hb dL_isSeen_241 rfl (lv_at hl 7 rfl) ?_
  refine zs_x hx hb hts hi_L_isSeen_L hown hw hS hf_L_isSeen_10 dL_isSeen_242 ?_
  refine lv_iconst (v := 2) hx hb dL_isSeen_245 (by decide) ?_
  refine lv_iload hx hb dL_isSeen_246 (lv_at hl 2 rfl) ?_
  refine zs_call (α := Int64) Value.long (As := [.int 2, .int (nI v5)]) (rest := []) (v_getAt (q := v5) hV2 (by decide) hk hd (by omega) (by omega)) ⟨hx, hb, hml, hown, hts⟩ hw hX hS (c_X1_getAt l hl0 g _ _ h _ _ 2 (nI v5) (zs_H hS)) (by decide) (cwV 2 hts gL_isSeen_X1_getAt rfl rfl rfl (by decide +kernel) ⟨(Nat.le_of_ble_eq_true rfl), (Nat.le_of_ble_eq_true rfl)⟩) rfl hl.1 rfl (Nat.le_of_ble_eq_true rfl) dL_isSeen_248 ⟨by show _ ≤ (450 : Nat); omega, by show _ ≤ (2800 : Nat); omega⟩ (fun L f H locs hS hw => ?_)
  refine W.eq (g2 := F0 m 251 ls [.long (zST σ9 (64 * d + (0 + v5)))]) rfl ?_
  refine lv_iload_n hx hb dL_isSeen_251 rfl (lv_at hl 6 rfl) ?_
  refine lv_lload hx hb dL_isSeen_252 (lv_at hl 1 rfl) ?_
  refine z_callS (As := [.int k9, .long ((nI v6).toInt64 * 70001)]) (rest := [.long (zST σ9 (64 * d + (0 + v5)))]) ⟨hx, hb, hml, hown, hts⟩ hw hX (c_L_cut l g _ _ k9 ((nI v6).toInt64 * 70001)) (va_cwS 2 hts gL_isSeen_L_cut rfl rfl rfl (by decide +kernel) ⟨(Nat.le_of_ble_eq_true rfl), (Nat.le_of_ble_eq_true rfl)⟩) rfl hl.1 rfl (Nat.le_of_ble_eq_true rfl) dL_isSeen_254 ⟨by show _ ≤ (450 : Nat); omega, by show _ ≤ (2800 : Nat); omega⟩ (fun _ _ _ _ _ _ _ hp => False.elim hp) (fun r9 L9 f9 H locs hp hw => ?_)
  obtain ⟨rfl, rfl, rfl⟩ := hp
  refine W.eq (g2 := F0 m 257 ls [.long (zcut k9 ((nI v6).toInt64 * 70001)), .long (zST σ9 (64 * d + (0 + v5)))]) rfl ?_
  refine W.lcmp hx hb dL_isSeen_257 ?_
  refine lv_if_ne (tgt := 265) hx hb dL_isSeen_258 (by decide) (fun c9 => absurd (zcmp0.mpr (hget)) c9) (fun _ => ?_)
  refine lv_iconst (v := 1) hx hb dL_isSeen_261 (by decide) ?_
  refine lv_goto (tgt := 266) hx hb dL_isSeen_262 (by decide) ?_
  refine lv_istore_n (lv' := [(3, .int 1), (8, .long (zST σ8 (64 * d + (0 + v5)))), (6, .long ((nI v6).toInt64 * 70001)), (5, .int (nI v5)), (4, .int (nI v4)), (2, .int (nI (4 + v1))), (1, .int k9), (0, .ref a)]) hx hb dL_isSeen_266 rfl hl (by decide) rfl (fun ls hl => ?_)
  refine lv_iload_n hx hb dL_isSeen_267 rfl (lv_at hl 0 rfl) ?_
  have join_349 : ∀ (L : List Nat) (f : Nat → va_E) (H : Heap) (locs : List Loc) (ls : Array Slot), zLs (T + 1 + 1 + 1 + 1 + 1 + 1 + 1) g b a h σ9 L f → zW g A s L f H locs → lv_has ls 11 [(0, .ref a), (1, .int k9), (2, .int (nI (4 + v1))), (3, .int 1), (4, .int (nI v4)), (5, .int (nI v5)), (6, .long ((nI v6).toInt64 * 70001))] → W p l e { frames := 11, cells := 450, slots := 2800, locals := 195 } s m args below meth c H locs (56) (380) (vx_MQ below (zQ g A (fun r L1 f1 => some (.int 1) = r ∧ ∃ σ1, zLs (T + 20) g b a h σ1 L1 f1)) (zXC g A zNo) args s 450 2800 A) (F0 m 349 ls []) := by
    intro L f H locs ls hS hw hl
    refine lv_iconst (v := 1) hx hb dL_isSeen_349 (by decide) ?_
    refine lv_goto (tgt := 354) hx hb dL_isSeen_350 (by decide) ?_
    refine lv_istore_n (lv' := [(3, .int 1), (0, .ref a), (1, .int k9), (2, .int (nI (4 + v1))), (4, .int (nI v4)), (5, .int (nI v5)), (6, .long ((nI v6).toInt64 * 70001))]) hx hb dL_isSeen_354 rfl hl (by decide) rfl (fun ls hl => ?_)
    refine lv_iconst (v := 0) hx hb dL_isSeen_355 (by decide) ?_
    refine lv_istore (lv' := [(10, .int 0), (3, .int 1), (0, .ref a), (1, .int k9), (2, .int (nI (4 + v1))), (4, .int (nI v4)), (5, .int (nI v5)), (6, .long ((nI v6).toInt64 * 70001))]) hx hb dL_isSeen_356 hl (by decide) rfl (fun ls hl => ?_)
    refine W.widen (k := 60) (n := 400) (by omega) (by omega) ?_
    have loop_358 : ∀ (n9 : Nat) (j : Nat) (L : List Nat) (f : Nat → va_E) (H : Heap) (locs : List Loc) (ls : Array Slot), (j + n9 = 4 + v1) → zLs (T + 7) g b a h σ9 L f → zW g A s L f H locs → lv_has ls 11 [(0, .ref a), (1, .int k9), (2, .int (nI (4 + v1))), (3, .int 1), (4, .int (nI v4)), (5, .int (nI v5)), (6, .long ((nI v6).toInt64 * 70001)), (10, .int (nI j))] → W p l e { frames := 11, cells := 450, slots := 2800, locals := 195 } s m args below meth c H locs (60 + 12 * j) (400 + 72 * j) (vx_MQ below (zQ g A (fun r L1 f1 => some (.int 1) = r ∧ ∃ σ1, zLs (T + 20) g b a h σ1 L1 f1)) (zXC g A zNo) args s 450 2800 A) (F0 m 358 ls []) := by
      intro n9
      induction n9 with
      | zero =>
        intro j L f H locs ls hj hS hw hl
        refine lv_iload hx hb dL_isSeen_358 (lv_at hl 7 rfl) ?_
        refine lv_iload_n hx hb dL_isSeen_360 rfl (lv_at hl 2 rfl) ?_
        refine lv_icmp_ge (tgt := 438) hx hb dL_isSeen_361 (by decide) (fun _ => ?_) (fun c9 => absurd ((nI_leI (by omega) (by omega)).mpr (by omega)) c9)
        refine lv_iload_n hx hb dL_isSeen_438 rfl (lv_at hl 3 rfl) ?_
        refine lv_if_eq (tgt := 486) hx hb dL_isSeen_439 (by decide) (fun c_3 => absurd c_3 (by decide)) (fun c_3 => ?_)
        refine lv_aload_n hx hb dL_isSeen_442 rfl (lv_at hl 0 rfl) ?_
        refine lv_iconst (v := 2) hx hb dL_isSeen_443 (by decide) ?_
        refine z_callVX (As := [.int 2]) (rest := []) ⟨hx, hb, hml, hown, hts⟩ hw hX hS.cell.choose_spec rfl (c_L_isRefused l hl0 g _ _ b a h _ _ 2 hV2 (by decide) hk hS) (vx_cwVW 1 hts gL_isSeen_L_isRefused rfl rfl rfl (by decide +kernel) ⟨(Nat.le_of_ble_eq_true rfl), (Nat.le_of_ble_eq_true rfl)⟩) rfl hl.1 rfl (Nat.le_of_ble_eq_true rfl) dL_isSeen_444 ⟨by show _ ≤ (450 : Nat); omega, by show _ ≤ (2800 : Nat); omega⟩ (fun r9 L9 f9 H locs hp hw => ?_)
        obtain ⟨rfl, hS⟩ := hp
        refine W.eq (g2 := F0 m 447 ls [.int 1]) rfl ?_
        refine lv_if_eq (tgt := 486) hx hb dL_isSeen_447 (by decide) (fun c_4 => absurd c_4 (by decide)) (fun c_4 => ?_)
        refine lv_aload_n hx hb dL_isSeen_450 rfl (lv_at hl 0 rfl) ?_
        refine zs_x hx hb hts hi_L_isSeen_L hown hw hS hf_L_isSeen_10 dL_isSeen_451 ?_
        refine lv_iconst (v := 2) hx hb dL_isSeen_454 (by decide) ?_
        refine zs_call (α := Int32) Value.int (As := [.int 2]) (rest := []) (v_isReadOnly hV2 (by decide) hk rfl) ⟨hx, hb, hml, hown, hts⟩ hw hX hS (c_X1_isReadOnly l hl0 g _ _ h _ _ 2 (zs_H hS)) (by decide) (cwV 1 hts gL_isSeen_X1_isReadOnly rfl rfl rfl (by decide +kernel) ⟨(Nat.le_of_ble_eq_true rfl), (Nat.le_of_ble_eq_true rfl)⟩) rfl hl.1 rfl (Nat.le_of_ble_eq_true rfl) dL_isSeen_455 ⟨by show _ ≤ (450 : Nat); omega, by show _ ≤ (2800 : Nat); omega⟩ (fun L f H locs hS hw => ?_)
        refine W.eq (g2 := F0 m 458 ls [.int 1]) rfl ?_
        refine lv_if_eq (tgt := 486) hx hb dL_isSeen_458 (by decide) (fun c_5 => absurd c_5 (by decide)) (fun c_5 => ?_)
        refine lv_aload_n hx hb dL_isSeen_461 rfl (lv_at hl 0 rfl) ?_
        refine zs_x hx hb hts hi_L_isSeen_L hown hw hS hf_L_isSeen_10 dL_isSeen_462 ?_
        refine lv_iconst (v := 2) hx hb dL_isSeen_465 (by decide) ?_
        refine lv_iconst (v := 5) hx hb dL_isSeen_466 (by decide) ?_
        obtain ⟨σ10, ho, hV5, hO, -⟩ := v_slice (j := 5) hV2 (by decide) hk (by decide) (by omega) (Or.inr rfl)
        simp only [Nat.zero_add, Nat.add_zero, Nat.sub_zero] at ho
        refine zs_call (α := Int32) Value.int (As := [.int 2, .int 5]) (rest := []) ho ⟨hx, hb, hml, hown, hts⟩ hw hX hS (c_X1_slice l hl0 g _ _ h _ _ 2 5 (zs_H hS)) (by decide) (cwV 2 hts gL_isSeen_X1_slice rfl rfl rfl (by decide +kernel) ⟨(Nat.le_of_ble_eq_true rfl), (Nat.le_of_ble_eq_true rfl)⟩) rfl hl.1 rfl (Nat.le_of_ble_eq_true rfl) dL_isSeen_467 ⟨by show _ ≤ (450 : Nat); omega, by show _ ≤ (2800 : Nat); omega⟩ (fun L f H locs hS hw => ?_)
        refine W.eq (g2 := F0 m 470 ls [.int (nI (4 + v1))]) rfl ?_
        refine lv_iload_n hx hb dL_isSeen_470 rfl (lv_at hl 2 rfl) ?_
        refine lv_icmp_ne (tgt := 486) hx hb dL_isSeen_471 (by decide) (fun c9 => absurd (rfl) c9) (fun _ => ?_)
        refine lv_aload_n hx hb dL_isSeen_474 rfl (lv_at hl 0 rfl) ?_
        refine lv_iconst (v := 5) hx hb dL_isSeen_475 (by decide) ?_
        refine z_callVX (As := [.int 5]) (rest := []) ⟨hx, hb, hml, hown, hts⟩ hw hX hS.cell.choose_spec rfl (c_L_isRefused l hl0 g _ _ b a h _ _ 5 hV5 (by decide) hk hS) (vx_cwVW 1 hts gL_isSeen_L_isRefused rfl rfl rfl (by decide +kernel) ⟨(Nat.le_of_ble_eq_true rfl), (Nat.le_of_ble_eq_true rfl)⟩) rfl hl.1 rfl (Nat.le_of_ble_eq_true rfl) dL_isSeen_476 ⟨by show _ ≤ (450 : Nat); omega, by show _ ≤ (2800 : Nat); omega⟩ (fun r9 L9 f9 H locs hp hw => ?_)
        obtain ⟨rfl, hS⟩ := hp
        refine W.eq (g2 := F0 m 479 ls [.int 1]) rfl ?_
        refine lv_if_eq (tgt := 486) hx hb dL_isSeen_479 (by decide) (fun c_6 => absurd c_6 (by decide)) (fun c_6 => ?_)
        refine lv_iconst (v := 1) hx hb dL_isSeen_482 (by decide) ?_
        refine lv_goto (tgt := 487) hx hb dL_isSeen_483 (by decide) ?_
        exact z_zret hx hb hr hlocks rfl hw (by omega) (by omega) dL_isSeen_487 ⟨rfl, σ10, hS.le (by omega)⟩
      | succ n9 ih_358 =>
        intro j L f H locs ls hj hS hw hl
        refine lv_iload hx hb dL_isSeen_358 (lv_at hl 7 rfl) ?_
        refine lv_iload_n hx hb dL_isSeen_360 rfl (lv_at hl 2 rfl) ?_
        refine lv_icmp_ge (tgt := 438) hx hb dL_isSeen_361 (by decide) (fun c9 => absurd c9 (nI_ge (by omega) (by omega))) (fun _ => ?_)
        refine lv_iload_n hx hb dL_isSeen_364 rfl (lv_at hl 3 rfl) ?_
        refine lv_if_eq (tgt := 438) hx hb dL_isSeen_365 (by decide) (fun c_7 => absurd c_7 (by decide)) (fun c_7 => ?_)
        refine lv_aload_n hx hb dL_isSeen_368 rfl (lv_at hl 0 rfl) ?_
        refine zs_x hx hb hts hi_L_isSeen_L hown hw hS hf_L_isSeen_10 dL_isSeen_369 ?_
        refine lv_iconst (v := 0) hx hb dL_isSeen_372 (by decide) ?_
        refine lv_iload hx hb dL_isSeen_373 (lv_at hl 7 rfl) ?_
        refine zs_call (α := Int64) Value.long (As := [.int 0, .int (nI j)]) (rest := []) (v_getAt (q := j) hV0 (by decide) hk hd (by omega) (by omega)) ⟨hx, hb, hml, hown, hts⟩ hw hX hS (c_X1_getAt l hl0 g _ _ h _ _ 0 (nI j) (zs_H hS)) (by decide) (cwV 2 hts gL_isSeen_X1_getAt rfl rfl rfl (by decide +kernel) ⟨(Nat.le_of_ble_eq_true rfl), (Nat.le_of_ble_eq_true rfl)⟩) rfl hl.1 rfl (Nat.le_of_ble_eq_true rfl) dL_isSeen_375 ⟨by show _ ≤ (450 : Nat); omega, by show _ ≤ (2800 : Nat); omega⟩ (fun L f H locs hS hw => ?_)
        refine W.eq (g2 := F0 m 378 ls [.long (zST σ9 (64 * d + (0 + j)))]) rfl ?_
        refine lv_aload_n hx hb dL_isSeen_378 rfl (lv_at hl 0 rfl) ?_
        refine zs_x hx hb hts hi_L_isSeen_L hown hw hS hf_L_isSeen_10 dL_isSeen_379 ?_
        refine lv_iconst (v := 2) hx hb dL_isSeen_382 (by decide) ?_
        refine lv_iload hx hb dL_isSeen_383 (lv_at hl 7 rfl) ?_
        refine zs_call (α := Int64) Value.long (As := [.int 2, .int (nI j)]) (rest := [.long (zST σ9 (64 * d + (0 + j)))]) (v_getAt (q := j) hV2 (by decide) hk hd (by omega) (by omega)) ⟨hx, hb, hml, hown, hts⟩ hw hX hS (c_X1_getAt l hl0 g _ _ h _ _ 2 (nI j) (zs_H hS)) (by decide) (cwV 2 hts gL_isSeen_X1_getAt rfl rfl rfl (by decide +kernel) ⟨(Nat.le_of_ble_eq_true rfl), (Nat.le_of_ble_eq_true rfl)⟩) rfl hl.1 rfl (Nat.le_of_ble_eq_true rfl) dL_isSeen_385 ⟨by show _ ≤ (450 : Nat); omega, by show _ ≤ (2800 : Nat); omega⟩ (fun L f H locs hS hw => ?_)
        refine W.eq (g2 := F0 m 388 ls [.long (zST σ9 (64 * d + (0 + j))), .long (zST σ9 (64 * d + (0 + j)))]) rfl ?_
        refine W.lcmp hx hb dL_isSeen_388 ?_
        refine lv_if_ne (tgt := 430) hx hb dL_isSeen_389 (by decide) (fun c9 => absurd (zcmp0.mpr rfl) c9) (fun _ => ?_)
        refine lv_iload hx hb dL_isSeen_392 (lv_at hl 7 rfl) ?_
        refine lv_iload hx hb dL_isSeen_394 (lv_at hl 4 rfl) ?_
        refine lv_icmp_lt (tgt := 426) hx hb dL_isSeen_396 (by decide) (fun c_8 => ?_) (fun c_8 => ?_)
        · rw [nI_ltI (by omega) (by omega)] at c_8
          refine lv_iconst (v := 1) hx hb dL_isSeen_426 (by decide) ?_
          refine lv_goto (tgt := 431) hx hb dL_isSeen_427 (by decide) ?_
          refine lv_istore_n (lv' := [(3, .int 1), (0, .ref a), (1, .int k9), (2, .int (nI (4 + v1))), (4, .int (nI v4)), (5, .int (nI v5)), (6, .long ((nI v6).toInt64 * 70001)), (10, .int (nI j))]) hx hb dL_isSeen_431 rfl hl (by decide) rfl (fun ls hl => ?_)
          refine lv_iinc (v := (nI (j + 1))) (lv' := [(10, .int (nI (j + 1))), (3, .int 1), (0, .ref a), (1, .int k9), (2, .int (nI (4 + v1))), (4, .int (nI v4)), (5, .int (nI v5)), (6, .long ((nI v6).toInt64 * 70001))]) hx hb dL_isSeen_432 hl (k := 7) rfl (nI_1 j) (by decide) rfl (fun ls hl => ?_)
          refine lv_goto (tgt := 358) hx hb dL_isSeen_435 (by decide) ?_
          refine W.widen (k := 60 + 12 * (j + 1)) (n := 400 + 72 * (j + 1)) (by omega) (by omega) ?_
          refine ih_358 (j + 1) _ _ _ _ _ (by omega) (hS.le (by omega)) hw ?_
          have hl := lv_sub hl (l' := [(0, .ref a), (1, .int k9), (2, .int (nI (4 + v1))), (3, .int 1), (4, .int (nI v4)), (5, .int (nI v5)), (6, .long ((nI v6).toInt64 * 70001)), (10, .int (nI (j + 1)))]) [2, 3, 4, 1, 5, 6, 7, 0] rfl
          exact hl
        · rw [nI_ltI (by omega) (by omega)] at c_8
          refine lv_aload_n hx hb dL_isSeen_399 rfl (lv_at hl 0 rfl) ?_
          refine zs_x hx hb hts hi_L_isSeen_L hown hw hS hf_L_isSeen_10 dL_isSeen_400 ?_
          refine lv_iconst (v := 0) hx hb dL_isSeen_403 (by decide) ?_
          refine lv_iload hx hb dL_isSeen_404 (lv_at hl 7 rfl) ?_
          refine zs_call (α := Int64) Value.long (As := [.int 0, .int (nI j)]) (rest := []) (v_getAt (q := j) hV0 (by decide) hk hd (by omega) (by omega)) ⟨hx, hb, hml, hown, hts⟩ hw hX hS (c_X1_getAt l hl0 g _ _ h _ _ 0 (nI j) (zs_H hS)) (by decide) (cwV 2 hts gL_isSeen_X1_getAt rfl rfl rfl (by decide +kernel) ⟨(Nat.le_of_ble_eq_true rfl), (Nat.le_of_ble_eq_true rfl)⟩) rfl hl.1 rfl (Nat.le_of_ble_eq_true rfl) dL_isSeen_406 ⟨by show _ ≤ (450 : Nat); omega, by show _ ≤ (2800 : Nat); omega⟩ (fun L f H locs hS hw => ?_)
          refine W.eq (g2 := F0 m 409 ls [.long (zST σ9 (64 * d + (0 + j)))]) rfl ?_
          refine lv_aload_n hx hb dL_isSeen_409 rfl (lv_at hl 0 rfl) ?_
          refine zs_x hx hb hts hi_L_isSeen_L hown hw hS hf_L_isSeen_10 dL_isSeen_410 ?_
          refine lv_iconst (v := 3) hx hb dL_isSeen_413 (by decide) ?_
          refine lv_iload hx hb dL_isSeen_414 (lv_at hl 7 rfl) ?_
          refine lv_iload hx hb dL_isSeen_416 (lv_at hl 4 rfl) ?_
          refine lv_isub hx hb dL_isSeen_418 ?_
          refine lv_topi (fun y9 hy9 => ?_)
          obtain rfl : y9 = (nI (j - v4)) := hy9.trans (pk_sub (a := j) (b := v4) (by omega))
          refine zs_call (α := Int64) Value.long (As := [.int 3, .int (nI (j - v4))]) (rest := [.long (zST σ9 (64 * d + (0 + j)))]) (v_getAt (q := j - v4) hV3 (by decide) hk hd (by omega) (by omega)) ⟨hx, hb, hml, hown, hts⟩ hw hX hS (c_X1_getAt l hl0 g _ _ h _ _ 3 (nI (j - v4)) (zs_H hS)) (by decide) (cwV 2 hts gL_isSeen_X1_getAt rfl rfl rfl (by decide +kernel) ⟨(Nat.le_of_ble_eq_true rfl), (Nat.le_of_ble_eq_true rfl)⟩) rfl hl.1 rfl (Nat.le_of_ble_eq_true rfl) dL_isSeen_419 ⟨by show _ ≤ (450 : Nat); omega, by show _ ≤ (2800 : Nat); omega⟩ (fun L f H locs hS hw => ?_)
          refine W.eq (g2 := F0 m 422 ls [.long (zST σ9 (64 * d + (v4 + (j - v4)))), .long (zST σ9 (64 * d + (0 + j)))]) rfl ?_
          refine W.lcmp hx hb dL_isSeen_422 ?_
          refine lv_if_ne (tgt := 430) hx hb dL_isSeen_423 (by decide) (fun c9 => absurd (zcmp0.mpr (congrArg (fun z => zST σ9 (64 * d + z)) (show 0 + j = v4 + (j - v4) by omega))) c9) (fun _ => ?_)
          refine lv_iconst (v := 1) hx hb dL_isSeen_426 (by decide) ?_
          refine lv_goto (tgt := 431) hx hb dL_isSeen_427 (by decide) ?_
          refine lv_istore_n (lv' := [(3, .int 1), (0, .ref a), (1, .int k9), (2, .int (nI (4 + v1))), (4, .int (nI v4)), (5, .int (nI v5)), (6, .long ((nI v6).toInt64 * 70001)), (10, .int (nI j))]) hx hb dL_isSeen_431 rfl hl (by decide) rfl (fun ls hl => ?_)
          refine lv_iinc (v := (nI (j + 1))) (lv' := [(10, .int (nI (j + 1))), (3, .int 1), (0, .ref a), (1, .int k9), (2, .int (nI (4 + v1))), (4, .int (nI v4)), (5, .int (nI v5)), (6, .long ((nI v6).toInt64 * 70001))]) hx hb dL_isSeen_432 hl (k := 7) rfl (nI_1 j) (by decide) rfl (fun ls hl => ?_)
          refine lv_goto (tgt := 358) hx hb dL_isSeen_435 (by decide) ?_
          refine W.widen (k := 60 + 12 * (j + 1)) (n := 400 + 72 * (j + 1)) (by omega) (by omega) ?_
          refine ih_358 (j + 1) _ _ _ _ _ (by omega) (hS.le (by omega)) hw ?_
          have hl := lv_sub hl (l' := [(0, .ref a), (1, .int k9), (2, .int (nI (4 + v1))), (3, .int 1), (4, .int (nI v4)), (5, .int (nI v5)), (6, .long ((nI v6).toInt64 * 70001)), (10, .int (nI (j + 1)))]) [2, 3, 4, 1, 5, 6, 7, 0] rfl
          exact hl
    refine loop_358 (4 + v1) 0 _ _ _ _ _ (by omega) (hS.le (by omega)) hw ?_
    have hl := lv_sub hl (l' := [(0, .ref a), (1, .int k9), (2, .int (nI (4 + v1))), (3, .int 1), (4, .int (nI v4)), (5, .int (nI v5)), (6, .long ((nI v6).toInt64 * 70001)), (10, .int 0)]) [2, 3, 4, 1, 5, 6, 7, 0] rfl
    exact hl
  refine lv_if_eq (tgt := 353) hx hb dL_isSeen_268 (by decide) (fun c_9 => absurd c_9 (by decide)) (fun c_9 => ?_)
  refine lv_iload hx hb dL_isSeen_271 (lv_at hl 3 rfl) ?_
  refine lv_iload hx hb dL_isSeen_273 (lv_at hl 4 rfl) ?_
  refine lv_icmp_lt (tgt := 301) hx hb dL_isSeen_275 (by decide) (fun c_10 => ?_) (fun c_10 => ?_)
  · rw [nI_ltI (by omega) (by omega)] at c_10
    refine lv_iload hx hb dL_isSeen_301 (lv_at hl 3 rfl) ?_
    refine lv_iload hx hb dL_isSeen_303 (lv_at hl 4 rfl) ?_
    refine lv_iconst (v := 2) hx hb dL_isSeen_305 (by decide) ?_
    refine lv_idiv hx hb dL_isSeen_306 (by decide) ?_
    refine lv_topi (fun y9 hy9 => ?_)
    obtain rfl : y9 = (nI (v4 / 2)) := hy9.trans (pk_div (a := v4) (d := 2) (by omega) (by omega) (by omega))
    refine lv_icmp_lt (tgt := 349) hx hb dL_isSeen_307 (by decide) (fun c_11 => ?_) (fun c_11 => ?_)
    · rw [nI_ltI (by omega) (by omega)] at c_11
      refine W.widen (k := 56) (n := 380) (by omega) (by omega) ?_
      refine join_349 _ _ _ _ _ (hS.le (by omega)) hw ?_
      have hl := lv_sub hl (l' := [(0, .ref a), (1, .int k9), (2, .int (nI (4 + v1))), (3, .int 1), (4, .int (nI v4)), (5, .int (nI v5)), (6, .long ((nI v6).toInt64 * 70001))]) [7, 6, 5, 0, 4, 3, 2] rfl
      exact hl
    · rw [nI_ltI (by omega) (by omega)] at c_11
      refine lv_iload hx hb dL_isSeen_310 (lv_at hl 3 rfl) ?_
      refine lv_iload hx hb dL_isSeen_312 (lv_at hl 4 rfl) ?_
      refine lv_iconst (v := 2) hx hb dL_isSeen_314 (by decide) ?_
      refine lv_idiv hx hb dL_isSeen_315 (by decide) ?_
      refine lv_topi (fun y9 hy9 => ?_)
      obtain rfl : y9 = (nI (v4 / 2)) := hy9.trans (pk_div (a := v4) (d := 2) (by omega) (by omega) (by omega))
      refine lv_iload_n hx hb dL_isSeen_316 rfl (lv_at hl 5 rfl) ?_
      refine lv_iadd hx hb dL_isSeen_317 ?_
      refine lv_topi (fun y9 hy9 => ?_)
      obtain rfl : y9 = (nI ((v4 / 2) + (4 + v1))) := hy9.trans (nI_add (v4 / 2) (4 + v1))
      refine lv_iload hx hb dL_isSeen_318 (lv_at hl 4 rfl) ?_
      refine lv_isub hx hb dL_isSeen_320 ?_
      refine lv_topi (fun y9 hy9 => ?_)
      obtain rfl : y9 = (nI (((v4 / 2) + (4 + v1)) - v4)) := hy9.trans (pk_sub (a := ((v4 / 2) + (4 + v1))) (b := v4) (by omega))
      refine lv_icmp_ge (tgt := 349) hx hb dL_isSeen_321 (by decide) (fun c_12 => ?_) (fun c_12 => ?_)
      · refine W.widen (k := 56) (n := 380) (by omega) (by omega) ?_
        refine join_349 _ _ _ _ _ (hS.le (by omega)) hw ?_
        have hl := lv_sub hl (l' := [(0, .ref a), (1, .int k9), (2, .int (nI (4 + v1))), (3, .int 1), (4, .int (nI v4)), (5, .int (nI v5)), (6, .long ((nI v6).toInt64 * 70001))]) [7, 6, 5, 0, 4, 3, 2] rfl
        exact hl
      · rw [nI_leI (by omega) (by omega)] at c_12
        refine lv_aload_n hx hb dL_isSeen_324 rfl (lv_at hl 7 rfl) ?_
        refine zs_x hx hb hts hi_L_isSeen_L hown hw hS hf_L_isSeen_10 dL_isSeen_325 ?_
        refine lv_iconst (v := 4) hx hb dL_isSeen_328 (by decide) ?_
        refine lv_iload hx hb dL_isSeen_329 (lv_at hl 3 rfl) ?_
        refine lv_iload hx hb dL_isSeen_331 (lv_at hl 4 rfl) ?_
        refine lv_iconst (v := 2) hx hb dL_isSeen_333 (by decide) ?_
        refine lv_idiv hx hb dL_isSeen_334 (by decide) ?_
        refine lv_topi (fun y9 hy9 => ?_)
        obtain rfl : y9 = (nI (v4 / 2)) := hy9.trans (pk_div (a := v4) (d := 2) (by omega) (by omega) (by omega))
        refine lv_isub hx hb dL_isSeen_335 ?_
        refine lv_topi (fun y9 hy9 => ?_)
        obtain rfl : y9 = (nI (v5 - (v4 / 2))) := hy9.trans (pk_sub (a := v5) (b := (v4 / 2)) (by omega))
        refine zs_call (α := Int64) Value.long (As := [.int 4, .int (nI (v5 - (v4 / 2)))]) (rest := []) (v_getAt (q := v5 - v4 / 2) hV4 (by decide) hk hd (by omega) (by omega)) ⟨hx, hb, hml, hown, hts⟩ hw hX hS (c_X1_getAt l hl0 g _ _ h _ _ 4 (nI (v5 - (v4 / 2))) (zs_H hS)) (by decide) (cwV 2 hts gL_isSeen_X1_getAt rfl rfl rfl (by decide +kernel) ⟨(Nat.le_of_ble_eq_true rfl), (Nat.le_of_ble_eq_true rfl)⟩) rfl hl.1 rfl (Nat.le_of_ble_eq_true rfl) dL_isSeen_336 ⟨by show _ ≤ (450 : Nat); omega, by show _ ≤ (2800 : Nat); omega⟩ (fun L f H locs hS hw => ?_)
        refine W.eq (g2 := F0 m 339 ls [.long (zST σ9 (64 * d + (v4 / 2 + (v5 - v4 / 2))))]) rfl ?_
        refine lv_iload_n hx hb dL_isSeen_339 rfl (lv_at hl 6 rfl) ?_
        refine lv_lload hx hb dL_isSeen_340 (lv_at hl 2 rfl) ?_
        refine z_callS (As := [.int k9, .long ((nI v6).toInt64 * 70001)]) (rest := [.long (zST σ9 (64 * d + (v4 / 2 + (v5 - v4 / 2))))]) ⟨hx, hb, hml, hown, hts⟩ hw hX (c_L_cut l g _ _ k9 ((nI v6).toInt64 * 70001)) (va_cwS 2 hts gL_isSeen_L_cut rfl rfl rfl (by decide +kernel) ⟨(Nat.le_of_ble_eq_true rfl), (Nat.le_of_ble_eq_true rfl)⟩) rfl hl.1 rfl (Nat.le_of_ble_eq_true rfl) dL_isSeen_342 ⟨by show _ ≤ (450 : Nat); omega, by show _ ≤ (2800 : Nat); omega⟩ (fun _ _ _ _ _ _ _ hp => False.elim hp) (fun r9 L9 f9 H locs hp hw => ?_)
        obtain ⟨rfl, rfl, rfl⟩ := hp
        refine W.eq (g2 := F0 m 345 ls [.long (zcut k9 ((nI v6).toInt64 * 70001)), .long (zST σ9 (64 * d + (v4 / 2 + (v5 - v4 / 2))))]) rfl ?_
        refine W.lcmp hx hb dL_isSeen_345 ?_
        refine lv_if_ne (tgt := 353) hx hb dL_isSeen_346 (by decide) (fun c9 => absurd (zcmp0.mpr (by rw [show v4 / 2 + (v5 - v4 / 2) = 0 + v5 by omega]; exact hget)) c9) (fun _ => ?_)
        refine W.widen (k := 56) (n := 380) (by omega) (by omega) ?_
        refine join_349 _ _ _ _ _ (hS.le (by omega)) hw ?_
        have hl := lv_sub hl (l' := [(0, .ref a), (1, .int k9), (2, .int (nI (4 + v1))), (3, .int 1), (4, .int (nI v4)), (5, .int (nI v5)), (6, .long ((nI v6).toInt64 * 70001))]) [7, 6, 5, 0, 4, 3, 2] rfl
        exact hl
  · rw [nI_ltI (by omega) (by omega)] at c_10
    refine lv_aload_n hx hb dL_isSeen_278 rfl (lv_at hl 7 rfl) ?_
    refine zs_x hx hb hts hi_L_isSeen_L hown hw hS hf_L_isSeen_10 dL_isSeen_279 ?_
    refine lv_iconst (v := 3) hx hb dL_isSeen_282 (by decide) ?_
    refine lv_iload hx hb dL_isSeen_283 (lv_at hl 3 rfl) ?_
    refine lv_iload hx hb dL_isSeen_285 (lv_at hl 4 rfl) ?_
    refine lv_isub hx hb dL_isSeen_287 ?_
    refine lv_topi (fun y9 hy9 => ?_)
    obtain rfl : y9 = (nI (v5 - v4)) := hy9.trans (pk_sub (a := v5) (b := v4) (by omega))
    refine zs_call (α := Int64) Value.long (As := [.int 3, .int (nI (v5 - v4))]) (rest := []) (v_getAt (q := v5 - v4) hV3 (by decide) hk hd (by omega) (by omega)) ⟨hx, hb, hml, hown, hts⟩ hw hX hS (c_X1_getAt l hl0 g _ _ h _ _ 3 (nI (v5 - v4)) (zs_H hS)) (by decide) (cwV 2 hts gL_isSeen_X1_getAt rfl rfl rfl (by decide +kernel) ⟨(Nat.le_of_ble_eq_true rfl), (Nat.le_of_ble_eq_true rfl)⟩) rfl hl.1 rfl (Nat.le_of_ble_eq_true rfl) dL_isSeen_288 ⟨by show _ ≤ (450 : Nat); omega, by show _ ≤ (2800 : Nat); omega⟩ (fun L f H locs hS hw => ?_)
    refine W.eq (g2 := F0 m 291 ls [.long (zST σ9 (64 * d + (v4 + (v5 - v4))))]) rfl ?_
    refine lv_iload_n hx hb dL_isSeen_291 rfl (lv_at hl 6 rfl) ?_
    refine lv_lload hx hb dL_isSeen_292 (lv_at hl 2 rfl) ?_
    refine z_callS (As := [.int k9, .long ((nI v6).toInt64 * 70001)]) (rest := [.long (zST σ9 (64 * d + (v4 + (v5 - v4))))]) ⟨hx, hb, hml, hown, hts⟩ hw hX (c_L_cut l g _ _ k9 ((nI v6).toInt64 * 70001)) (va_cwS 2 hts gL_isSeen_L_cut rfl rfl rfl (by decide +kernel) ⟨(Nat.le_of_ble_eq_true rfl), (Nat.le_of_ble_eq_true rfl)⟩) rfl hl.1 rfl (Nat.le_of_ble_eq_true rfl) dL_isSeen_294 ⟨by show _ ≤ (450 : Nat); omega, by show _ ≤ (2800 : Nat); omega⟩ (fun _ _ _ _ _ _ _ hp => False.elim hp) (fun r9 L9 f9 H locs hp hw => ?_)
    obtain ⟨rfl, rfl, rfl⟩ := hp
    refine W.eq (g2 := F0 m 297 ls [.long (zcut k9 ((nI v6).toInt64 * 70001)), .long (zST σ9 (64 * d + (v4 + (v5 - v4))))]) rfl ?_
    refine W.lcmp hx hb dL_isSeen_297 ?_
    refine lv_if_ne (tgt := 353) hx hb dL_isSeen_298 (by decide) (fun c9 => absurd (zcmp0.mpr (by rw [show v4 + (v5 - v4) = 0 + v5 by omega]; exact hget)) c9) (fun _ => ?_)
    refine lv_iload hx hb dL_isSeen_301 (lv_at hl 3 rfl) ?_
    refine lv_iload hx hb dL_isSeen_303 (lv_at hl 4 rfl) ?_
    refine lv_iconst (v := 2) hx hb dL_isSeen_305 (by decide) ?_
    refine lv_idiv hx hb dL_isSeen_306 (by decide) ?_
    refine lv_topi (fun y9 hy9 => ?_)
    obtain rfl : y9 = (nI (v4 / 2)) := hy9.trans (pk_div (a := v4) (d := 2) (by omega) (by omega) (by omega))
    refine lv_icmp_lt (tgt := 349) hx hb dL_isSeen_307 (by decide) (fun c_13 => ?_) (fun c_13 => ?_)
    · rw [nI_ltI (by omega) (by omega)] at c_13
      refine W.widen (k := 56) (n := 380) (by omega) (by omega) ?_
      refine join_349 _ _ _ _ _ (hS.le (by omega)) hw ?_
      have hl := lv_sub hl (l' := [(0, .ref a), (1, .int k9), (2, .int (nI (4 + v1))), (3, .int 1), (4, .int (nI v4)), (5, .int (nI v5)), (6, .long ((nI v6).toInt64 * 70001))]) [7, 6, 5, 0, 4, 3, 2] rfl
      exact hl
    · rw [nI_ltI (by omega) (by omega)] at c_13
      refine lv_iload hx hb dL_isSeen_310 (lv_at hl 3 rfl) ?_
      refine lv_iload hx hb dL_isSeen_312 (lv_at hl 4 rfl) ?_
      refine lv_iconst (v := 2) hx hb dL_isSeen_314 (by decide) ?_
      refine lv_idiv hx hb dL_isSeen_315 (by decide) ?_
      refine lv_topi (fun y9 hy9 => ?_)
      obtain rfl : y9 = (nI (v4 / 2)) := hy9.trans (pk_div (a := v4) (d := 2) (by omega) (by omega) (by omega))
      refine lv_iload_n hx hb dL_isSeen_316 rfl (lv_at hl 5 rfl) ?_
      refine lv_iadd hx hb dL_isSeen_317 ?_
      refine lv_topi (fun y9 hy9 => ?_)
      obtain rfl : y9 = (nI ((v4 / 2) + (4 + v1))) := hy9.trans (nI_add (v4 / 2) (4 + v1))
      refine lv_iload hx hb dL_isSeen_318 (lv_at hl 4 rfl) ?_
      refine lv_isub hx hb dL_isSeen_320 ?_
      refine lv_topi (fun y9 hy9 => ?_)
      obtain rfl : y9 = (nI (((v4 / 2) + (4 + v1)) - v4)) := hy9.trans (pk_sub (a := ((v4 / 2) + (4 + v1))) (b := v4) (by omega))
      refine lv_icmp_ge (tgt := 349) hx hb dL_isSeen_321 (by decide) (fun c_14 => ?_) (fun c_14 => ?_)
      · refine W.widen (k := 56) (n := 380) (by omega) (by omega) ?_
        refine join_349 _ _ _ _ _ (hS.le (by omega)) hw ?_
        have hl := lv_sub hl (l' := [(0, .ref a), (1, .int k9), (2, .int (nI (4 + v1))), (3, .int 1), (4, .int (nI v4)), (5, .int (nI v5)), (6, .long ((nI v6).toInt64 * 70001))]) [7, 6, 5, 0, 4, 3, 2] rfl
        exact hl
      · rw [nI_leI (by omega) (by omega)] at c_14
        refine lv_aload_n hx hb dL_isSeen_324 rfl (lv_at hl 7 rfl) ?_
        refine zs_x hx hb hts hi_L_isSeen_L hown hw hS hf_L_isSeen_10 dL_isSeen_325 ?_
        refine lv_iconst (v := 4) hx hb dL_isSeen_328 (by decide) ?_
        refine lv_iload hx hb dL_isSeen_329 (lv_at hl 3 rfl) ?_
        refine lv_iload hx hb dL_isSeen_331 (lv_at hl 4 rfl) ?_
        refine lv_iconst (v := 2) hx hb dL_isSeen_333 (by decide) ?_
        refine lv_idiv hx hb dL_isSeen_334 (by decide) ?_
        refine lv_topi (fun y9 hy9 => ?_)
        obtain rfl : y9 = (nI (v4 / 2)) := hy9.trans (pk_div (a := v4) (d := 2) (by omega) (by omega) (by omega))
        refine lv_isub hx hb dL_isSeen_335 ?_
        refine lv_topi (fun y9 hy9 => ?_)
        obtain rfl : y9 = (nI (v5 - (v4 / 2))) := hy9.trans (pk_sub (a := v5) (b := (v4 / 2)) (by omega))
        refine zs_call (α := Int64) Value.long (As := [.int 4, .int (nI (v5 - (v4 / 2)))]) (rest := []) (v_getAt (q := v5 - v4 / 2) hV4 (by decide) hk hd (by omega) (by omega)) ⟨hx, hb, hml, hown, hts⟩ hw hX hS (c_X1_getAt l hl0 g _ _ h _ _ 4 (nI (v5 - (v4 / 2))) (zs_H hS)) (by decide) (cwV 2 hts gL_isSeen_X1_getAt rfl rfl rfl (by decide +kernel) ⟨(Nat.le_of_ble_eq_true rfl), (Nat.le_of_ble_eq_true rfl)⟩) rfl hl.1 rfl (Nat.le_of_ble_eq_true rfl) dL_isSeen_336 ⟨by show _ ≤ (450 : Nat); omega, by show _ ≤ (2800 : Nat); omega⟩ (fun L f H locs hS hw => ?_)
        refine W.eq (g2 := F0 m 339 ls [.long (zST σ9 (64 * d + (v4 / 2 + (v5 - v4 / 2))))]) rfl ?_
        refine lv_iload_n hx hb dL_isSeen_339 rfl (lv_at hl 6 rfl) ?_
        refine lv_lload hx hb dL_isSeen_340 (lv_at hl 2 rfl) ?_
        refine z_callS (As := [.int k9, .long ((nI v6).toInt64 * 70001)]) (rest := [.long (zST σ9 (64 * d + (v4 / 2 + (v5 - v4 / 2))))]) ⟨hx, hb, hml, hown, hts⟩ hw hX (c_L_cut l g _ _ k9 ((nI v6).toInt64 * 70001)) (va_cwS 2 hts gL_isSeen_L_cut rfl rfl rfl (by decide +kernel) ⟨(Nat.le_of_ble_eq_true rfl), (Nat.le_of_ble_eq_true rfl)⟩) rfl hl.1 rfl (Nat.le_of_ble_eq_true rfl) dL_isSeen_342 ⟨by show _ ≤ (450 : Nat); omega, by show _ ≤ (2800 : Nat); omega⟩ (fun _ _ _ _ _ _ _ hp => False.elim hp) (fun r9 L9 f9 H locs hp hw => ?_)
        obtain ⟨rfl, rfl, rfl⟩ := hp
        refine W.eq (g2 := F0 m 345 ls [.long (zcut k9 ((nI v6).toInt64 * 70001)), .long (zST σ9 (64 * d + (v4 / 2 + (v5 - v4 / 2))))]) rfl ?_
        refine W.lcmp hx hb dL_isSeen_345 ?_
        refine lv_if_ne (tgt := 353) hx hb dL_isSeen_346 (by decide) (fun c9 => absurd (zcmp0.mpr (by rw [show v4 / 2 + (v5 - v4 / 2) = 0 + v5 by omega]; exact hget)) c9) (fun _ => ?_)
        refine W.widen (k := 56) (n := 380) (by omega) (by omega) ?_
        refine join_349 _ _ _ _ _ (hS.le (by omega)) hw ?_
        have hl := lv_sub hl (l' := [(0, .ref a), (1, .int k9), (2, .int (nI (4 + v1))), (3, .int 1), (4, .int (nI v4)), (5, .int (nI v5)), (6, .long ((nI v6).toInt64 * 70001))]) [7, 6, 5, 0, 4, 3, 2] rfl
        exact hl
