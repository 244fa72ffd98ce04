theorem hi_L_isWrapped_L : ∀ w ∈ wsL0, w ∈ wsL_isWrapped := by decide +kernel
theorem hf_L_isWrapped_10 : Cond.fieldLink RL 10 (TL 3).1 (TL 3).2.1 (TL 3).2.2.1 ∈ wsL_isWrapped := by decide +kernel
set_option maxRecDepth 100000 in
set_option maxHeartbeats 4000000 in
theorem c_L_isWrapped (l : Launch) (hl0 : l.stackTraces = false) (g : zG) (L : List Nat) (f : Nat → va_E) (b n : Nat) (xs : Nat → Int32) (hN : n ≤ 260) (a h : Nat) (σ : ZS) (T : Nat) (hT : T < 5000) (hS : zLs T g b a h σ L f) : zCL l yL_isWrapped wsL_isWrapped { frames := 10, cells := 450, slots := 2800, locals := 173 } 450 2800 g b n xs [.ref a] L f (fun r L1 f1 => some (.int 1) = r ∧ ∃ σ1, zLs (T + 20) g b a h σ1 L1 f1) zNo := by
  refine z_ofWL (cc := cL_isWrapped) (maxL := 5) (ret := (some .boolean)) (by decide) rfl (Nat.le_of_ble_eq_true rfl) ?_
  intro p e s m args below meth c ls A hx hb hr hts hown hlocks hml htab hw hX hXs hbl hbA hl
  have hl : lv_has ls 5 [(0, .ref a)] := hl
  have hown : s.vm.findClass RL = some m.cls := hown
  refine lv_iconst (v := 1) hx hb dL_isWrapped_0 (by decide) ?_
  refine lv_aload_n hx hb dL_isWrapped_1 rfl (lv_at hl 0 rfl) ?_
  refine lv_bipush (v := 10) hx hb dL_isWrapped_2 (by decide) ?_
  refine z_callVL (As := [.int 10]) (rest := [.int 1]) ⟨hx, hb, hml, hown, hts⟩ hw hX hXs hbl hbA hS.cell.choose_spec rfl (c_L_draw l g _ _ b n xs hN a h _ _ (by omega) 10 (by omega) (by omega) hS) (cwV 1 hts gL_isWrapped_L_draw rfl rfl rfl (by decide +kernel) ⟨(Nat.le_of_ble_eq_true rfl), (Nat.le_of_ble_eq_true rfl)⟩) rfl hl.1 rfl (Nat.le_of_ble_eq_true rfl) dL_isWrapped_4 ⟨by show _ ≤ (450 : Nat); omega, by show _ ≤ (2800 : Nat); omega⟩ (fun r9 L9 f9 H locs hp hw => ?_)
  obtain ⟨v1, hv1, rfl, hS⟩ := hp
  refine W.eq (g2 := F0 m 7 ls [.int (nI v1), .int 1]) rfl ?_
  refine lv_iadd hx hb dL_isWrapped_7 ?_
  refine lv_topi (fun y9 hy9 => ?_)
  obtain rfl : y9 = (nI (1 + v1)) := hy9.trans (nI_add 1 v1)
  refine lv_istore_n (lv' := [(1, .int (nI (1 + v1))), (0, .ref a)]) hx hb dL_isWrapped_8 rfl hl (by decide) rfl (fun ls hl => ?_)
  refine lv_aload_n hx hb dL_isWrapped_9 rfl (lv_at hl 1 rfl) ?_
  refine zs_x hx hb hts hi_L_isWrapped_L hown hw hS hf_L_isWrapped_10 dL_isWrapped_10 ?_
  refine lv_iconst (v := 0) hx hb dL_isWrapped_13 (by decide) ?_
  refine lv_iload_n hx hb dL_isWrapped_14 rfl (lv_at hl 0 rfl) ?_
  obtain ⟨ln, kd, hI⟩ := zs_I hS
  obtain ⟨σ1, d, hd, ho, hrs, hrl, hz, -, -⟩ := v_make (r := 0) (n := 1 + v1) hI (by decide) (by omega)
  refine zs_call (α := Int32) Value.int (As := [.int 0, .int (nI (1 + v1))]) (rest := []) ho ⟨hx, hb, hml, hown, hts⟩ hw hX hS (c_X1_make l hl0 g _ _ h _ _ 0 (nI (1 + v1)) (zs_H hS)) (by decide) (cwV 2 hts gL_isWrapped_X1_make rfl rfl rfl (by decide +kernel) ⟨(Nat.le_of_ble_eq_true rfl), (Nat.le_of_ble_eq_true rfl)⟩) rfl hl.1 rfl (Nat.le_of_ble_eq_true rfl) dL_isWrapped_15 ⟨by show _ ≤ (450 : Nat); omega, by show _ ≤ (2800 : Nat); omega⟩ (fun L f H locs hS hw => ?_)
  refine W.eq (g2 := F0 m 18 ls [.int (zRL σ 0)]) rfl ?_
  refine lv_pop hx hb dL_isWrapped_18 rfl ?_
  refine lv_aload_n hx hb dL_isWrapped_19 rfl (lv_at hl 1 rfl) ?_
  refine lv_iload_n hx hb dL_isWrapped_20 rfl (lv_at hl 0 rfl) ?_
  refine z_callVL (As := [.int (nI (1 + v1))]) (rest := []) ⟨hx, hb, hml, hown, hts⟩ hw hX hXs hbl hbA hS.cell.choose_spec rfl (c_L_draw l g _ _ b n xs hN a h _ _ (by omega) (1 + v1) (by omega) (by omega) hS) (cwV 1 hts gL_isWrapped_L_draw rfl rfl rfl (by decide +kernel) ⟨(Nat.le_of_ble_eq_true rfl), (Nat.le_of_ble_eq_true rfl)⟩) rfl hl.1 rfl (Nat.le_of_ble_eq_true rfl) dL_isWrapped_21 ⟨by show _ ≤ (450 : Nat); omega, by show _ ≤ (2800 : Nat); omega⟩ (fun r9 L9 f9 H locs hp hw => ?_)
  obtain ⟨v2, hv2, rfl, hS⟩ := hp
  refine W.eq (g2 := F0 m 24 ls [.int (nI v2)]) rfl ?_
  refine lv_istore_n (lv' := [(2, .int (nI v2)), (1, .int (nI (1 + v1))), (0, .ref a)]) hx hb dL_isWrapped_24 rfl hl (by decide) rfl (fun ls hl => ?_)
  refine lv_aload_n hx hb dL_isWrapped_25 rfl (lv_at hl 2 rfl) ?_
  refine lv_ldc (v := 1073741824) hx hb hown (hts (.constant RL 82 1073741824) (by decide +kernel)) dL_isWrapped_26 ?_
  refine z_callVL (As := [.int 1073741824]) (rest := []) ⟨hx, hb, hml, hown, hts⟩ hw hX hXs hbl hbA hS.cell.choose_spec rfl (c_L_draw l g _ _ b n xs hN a h _ _ (by omega) 1073741824 (by omega) (by omega) hS) (cwV 1 hts gL_isWrapped_L_draw rfl rfl rfl (by decide +kernel) ⟨(Nat.le_of_ble_eq_true rfl), (Nat.le_of_ble_eq_true rfl)⟩) rfl hl.1 rfl (Nat.le_of_ble_eq_true rfl) dL_isWrapped_28 ⟨by show _ ≤ (450 : Nat); omega, by show _ ≤ (2800 : Nat); omega⟩ (fun r9 L9 f9 H locs hp hw => ?_)
  obtain ⟨v3, hv3, rfl, hS⟩ := hp
  refine W.eq (g2 := F0 m 31 ls [.int (nI v3)]) rfl ?_
  refine lv_istore_n (lv' := [(3, .int (nI v3)), (2, .int (nI v2)), (1, .int (nI (1 + v1))), (0, .ref a)]) hx hb dL_isWrapped_31 rfl hl (by decide) rfl (fun ls hl => ?_)
  refine lv_aload_n hx hb dL_isWrapped_32 rfl (lv_at hl 3 rfl) ?_
  refine zs_x hx hb hts hi_L_isWrapped_L hown hw hS hf_L_isWrapped_10 dL_isWrapped_33 ?_
  refine lv_iconst (v := 5) hx hb dL_isWrapped_36 (by decide) ?_
  refine lv_iconst (v := 0) hx hb dL_isWrapped_37 (by decide) ?_
  obtain ⟨σ2, ho, hV, hst2, hr2, hrl2⟩ := v_wrap (i := 5) (r := 0) (by decide) (by decide) hrs hrl
  have hrs := (congrFun hr2 0).trans hrs
  have hrl := (congrFun hrl2 0).trans hrl
  have hk := zkd (k := 105) (Or.inl rfl)
  refine zs_call (α := Int32) Value.int (As := [.int 5, .int 0]) (rest := []) ho ⟨hx, hb, hml, hown, hts⟩ hw hX hS (c_X1_wrap l hl0 g _ _ h _ _ 5 0 (zs_H hS)) (by decide) (cwV 2 hts gL_isWrapped_X1_wrap rfl rfl rfl (by decide +kernel) ⟨(Nat.le_of_ble_eq_true rfl), (Nat.le_of_ble_eq_true rfl)⟩) rfl hl.1 rfl (Nat.le_of_ble_eq_true rfl) dL_isWrapped_38 ⟨by show _ ≤ (450 : Nat); omega, by show _ ≤ (2800 : Nat); omega⟩ (fun L f H locs hS hw => ?_)
  refine W.eq (g2 := F0 m 41 ls [.int (nI (1 + v1))]) rfl ?_
  refine lv_iload_n hx hb dL_isWrapped_41 rfl (lv_at hl 2 rfl) ?_
  refine lv_icmp_ne (tgt := 109) hx hb dL_isWrapped_42 (by decide) (fun c9 => absurd (rfl) c9) (fun _ => ?_)
  refine lv_aload_n hx hb dL_isWrapped_45 rfl (lv_at hl 3 rfl) ?_
  refine zs_x hx hb hts hi_L_isWrapped_L hown hw hS hf_L_isWrapped_10 dL_isWrapped_46 ?_
  refine lv_iconst (v := 0) hx hb dL_isWrapped_49 (by decide) ?_
  refine lv_iload_n hx hb dL_isWrapped_50 rfl (lv_at hl 1 rfl) ?_
  refine lv_iload_n hx hb dL_isWrapped_51 rfl (lv_at hl 0 rfl) ?_
  obtain ⟨σ3, ho, hst3, hsm, hr3, hrl3⟩ := v_rowPut (r := 0) (q := v2) (by decide) hd hrs hrl (by omega) (by omega) (nI v3)
  have hV := hV.sm hsm
  have hrs := (congrFun hr3 0).trans hrs
  have hrl := (congrFun hrl3 0).trans hrl
  refine zs_call (α := Int32) Value.int (As := [.int 0, .int (nI v2), .int (nI v3)]) (rest := []) ho ⟨hx, hb, hml, hown, hts⟩ hw hX hS (c_X1_rowPut l hl0 g _ _ h _ _ 0 (nI v2) (nI v3) (zs_H hS)) (by decide) (cwV 3 hts gL_isWrapped_X1_rowPut rfl rfl rfl (by decide +kernel) ⟨(Nat.le_of_ble_eq_true rfl), (Nat.le_of_ble_eq_true rfl)⟩) rfl hl.1 rfl (Nat.le_of_ble_eq_true rfl) dL_isWrapped_52 ⟨by show _ ≤ (450 : Nat); omega, by show _ ≤ (2800 : Nat); omega⟩ (fun L f H locs hS hw => ?_)
  refine W.eq (g2 := F0 m 55 ls [.int ((zST σ2 (64 * d + v2)).toInt32)]) rfl ?_
  refine lv_if_ne (tgt := 109) hx hb dL_isWrapped_55 (by decide) (fun c9 => absurd (by rw [hst2, hz v2 (by omega)]; rfl) c9) (fun _ => ?_)
  refine lv_aload_n hx hb dL_isWrapped_58 rfl (lv_at hl 3 rfl) ?_
  refine zs_x hx hb hts hi_L_isWrapped_L hown hw hS hf_L_isWrapped_10 dL_isWrapped_59 ?_
  refine lv_iconst (v := 5) hx hb dL_isWrapped_62 (by decide) ?_
  refine lv_iload_n hx hb dL_isWrapped_63 rfl (lv_at hl 1 rfl) ?_
  refine zs_call (α := Int64) Value.long (As := [.int 5, .int (nI v2)]) (rest := []) (v_getAt (q := v2) hV (by decide) hk hd (by omega) (by omega)) ⟨hx, hb, hml, hown, hts⟩ hw hX hS (c_X1_getAt l hl0 g _ _ h _ _ 5 (nI v2) (zs_H hS)) (by decide) (cwV 2 hts gL_isWrapped_X1_getAt rfl rfl rfl (by decide +kernel) ⟨(Nat.le_of_ble_eq_true rfl), (Nat.le_of_ble_eq_true rfl)⟩) rfl hl.1 rfl (Nat.le_of_ble_eq_true rfl) dL_isWrapped_64 ⟨by show _ ≤ (450 : Nat); omega, by show _ ≤ (2800 : Nat); omega⟩ (fun L f H locs hS hw => ?_)
  refine W.eq (g2 := F0 m 67 ls [.long (zST σ3 (64 * d + (0 + v2)))]) rfl ?_
  refine lv_iload_n hx hb dL_isWrapped_67 rfl (lv_at hl 0 rfl) ?_
  refine lv_i2l (v := (nI v3).toInt64) hx hb dL_isWrapped_68 rfl ?_
  refine W.lcmp hx hb dL_isWrapped_69 ?_
  refine lv_if_ne (tgt := 109) hx hb dL_isWrapped_70 (by decide) (fun c9 => absurd (zcmp0.mpr (by rw [Nat.zero_add, hst3]; exact pk_uLs)) c9) (fun _ => ?_)
  refine lv_aload_n hx hb dL_isWrapped_73 rfl (lv_at hl 3 rfl) ?_
  refine zs_x hx hb hts hi_L_isWrapped_L hown hw hS hf_L_isWrapped_10 dL_isWrapped_74 ?_
  refine lv_iconst (v := 5) hx hb dL_isWrapped_77 (by decide) ?_
  refine lv_iload_n hx hb dL_isWrapped_78 rfl (lv_at hl 1 rfl) ?_
  refine lv_ldc2 (v := 7) hx hb hown (hts (.constantLong RL 167 7) (by decide +kernel)) dL_isWrapped_79 ?_
  obtain ⟨σ4, ho, hst4, hsm, hr4, hrl4⟩ := v_putAt (q := v2) hV (by decide) hk hd (by omega) (by omega) 7
  have hV := hV.sm hsm
  have hrs := (congrFun hr4 0).trans hrs
  have hrl := (congrFun hrl4 0).trans hrl
  have h7 : zST σ4 (64 * d + (0 + v2)) = 7 := by
    rw [hst4]
    exact pk_uLs
  refine zs_call (α := Int64) Value.long (As := [.int 5, .int (nI v2), .long 7]) (rest := []) ho ⟨hx, hb, hml, hown, hts⟩ hw hX hS (c_X1_putAt l hl0 g _ _ h _ _ 5 (nI v2) 7 (zs_H hS)) (by decide) (cwV 3 hts gL_isWrapped_X1_putAt rfl rfl rfl (by decide +kernel) ⟨(Nat.le_of_ble_eq_true rfl), (Nat.le_of_ble_eq_true rfl)⟩) rfl hl.1 rfl (Nat.le_of_ble_eq_true rfl) dL_isWrapped_82 ⟨by show _ ≤ (450 : Nat); omega, by show _ ≤ (2800 : Nat); omega⟩ (fun L f H locs hS hw => ?_)
  refine W.eq (g2 := F0 m 85 ls [.long (zST σ3 (64 * d + (0 + v2)))]) rfl ?_
  refine lv_iload_n hx hb dL_isWrapped_85 rfl (lv_at hl 0 rfl) ?_
  refine lv_i2l (v := (nI v3).toInt64) hx hb dL_isWrapped_86 rfl ?_
  refine W.lcmp hx hb dL_isWrapped_87 ?_
  refine lv_if_ne (tgt := 109) hx hb dL_isWrapped_88 (by decide) (fun c9 => absurd (zcmp0.mpr (by rw [Nat.zero_add, hst3]; exact pk_uLs)) c9) (fun _ => ?_)
  refine lv_aload_n hx hb dL_isWrapped_91 rfl (lv_at hl 3 rfl) ?_
  refine zs_x hx hb hts hi_L_isWrapped_L hown hw hS hf_L_isWrapped_10 dL_isWrapped_92 ?_
  refine lv_iconst (v := 0) hx hb dL_isWrapped_95 (by decide) ?_
  refine lv_iload_n hx hb dL_isWrapped_96 rfl (lv_at hl 1 rfl) ?_
  refine zs_call (α := Int32) Value.int (As := [.int 0, .int (nI v2)]) (rest := []) (v_rowAt (r := 0) (q := v2) (by decide) hd hrs hrl (by omega) (by omega)) ⟨hx, hb, hml, hown, hts⟩ hw hX hS (c_X1_rowAt l hl0 g _ _ h _ _ 0 (nI v2) (zs_H hS)) (by decide) (cwV 2 hts gL_isWrapped_X1_rowAt rfl rfl rfl (by decide +kernel) ⟨(Nat.le_of_ble_eq_true rfl), (Nat.le_of_ble_eq_true rfl)⟩) rfl hl.1 rfl (Nat.le_of_ble_eq_true rfl) dL_isWrapped_97 ⟨by show _ ≤ (450 : Nat); omega, by show _ ≤ (2800 : Nat); omega⟩ (fun L f H locs hS hw => ?_)
  refine W.eq (g2 := F0 m 100 ls [.int ((zST σ4 (64 * d + v2)).toInt32)]) rfl ?_
  refine lv_bipush (v := 7) hx hb dL_isWrapped_100 (by decide) ?_
  refine lv_icmp_ne (tgt := 109) hx hb dL_isWrapped_102 (by decide) (fun c9 => absurd (by rw [Nat.zero_add] at h7; rw [h7]; rfl) c9) (fun _ => ?_)
  refine lv_iconst (v := 1) hx hb dL_isWrapped_105 (by decide) ?_
  refine lv_goto (tgt := 110) hx hb dL_isWrapped_106 (by decide) ?_
  refine lv_istore (lv' := [(4, .int 1), (3, .int (nI v3)), (2, .int (nI v2)), (1, .int (nI (1 + v1))), (0, .ref a)]) hx hb dL_isWrapped_110 hl (by decide) rfl (fun ls hl => ?_)
  refine lv_iload hx hb dL_isWrapped_112 (lv_at hl 0 rfl) ?_
  refine lv_if_eq (tgt := 162) hx hb dL_isWrapped_114 (by decide) (fun c_1 => absurd c_1 (by decide)) (fun c_1 => ?_)
  refine lv_aload_n hx hb dL_isWrapped_117 rfl (lv_at hl 4 rfl) ?_
  refine zs_x hx hb hts hi_L_isWrapped_L hown hw hS hf_L_isWrapped_10 dL_isWrapped_118 ?_
  refine lv_iconst (v := 0) hx hb dL_isWrapped_121 (by decide) ?_
  refine lv_iload_n hx hb dL_isWrapped_122 rfl (lv_at hl 3 rfl) ?_
  obtain ⟨ln, kd, hI⟩ := zs_I hS
  obtain ⟨σ5, d5, hd5, ho, hr5, hrl5, hz5, hsm, hkp⟩ := v_make (r := 0) (n := 1 + v1) hI (by decide) (by omega)
  have hkd := hkp 5 d (by decide) (by rw [hV.1]; exact hk) hV.2.1 hd
  have hV := hV.sm hsm
  refine zs_call (α := Int32) Value.int (As := [.int 0, .int (nI (1 + v1))]) (rest := []) ho ⟨hx, hb, hml, hown, hts⟩ hw hX hS (c_X1_make l hl0 g _ _ h _ _ 0 (nI (1 + v1)) (zs_H hS)) (by decide) (cwV 2 hts gL_isWrapped_X1_make rfl rfl rfl (by decide +kernel) ⟨(Nat.le_of_ble_eq_true rfl), (Nat.le_of_ble_eq_true rfl)⟩) rfl hl.1 rfl (Nat.le_of_ble_eq_true rfl) dL_isWrapped_123 ⟨by show _ ≤ (450 : Nat); omega, by show _ ≤ (2800 : Nat); omega⟩ (fun L f H locs hS hw => ?_)
  refine W.eq (g2 := F0 m 126 ls [.int (zRL σ4 0)]) rfl ?_
  refine lv_iload_n hx hb dL_isWrapped_126 rfl (lv_at hl 3 rfl) ?_
  refine lv_icmp_ne (tgt := 162) hx hb dL_isWrapped_127 (by decide) (fun c9 => absurd (hrl) c9) (fun _ => ?_)
  refine lv_aload_n hx hb dL_isWrapped_130 rfl (lv_at hl 4 rfl) ?_
  refine zs_x hx hb hts hi_L_isWrapped_L hown hw hS hf_L_isWrapped_10 dL_isWrapped_131 ?_
  refine lv_iconst (v := 5) hx hb dL_isWrapped_134 (by decide) ?_
  refine lv_iload_n hx hb dL_isWrapped_135 rfl (lv_at hl 2 rfl) ?_
  refine zs_call (α := Int64) Value.long (As := [.int 5, .int (nI v2)]) (rest := []) (v_getAt (q := v2) hV (by decide) hk hd (by omega) (by omega)) ⟨hx, hb, hml, hown, hts⟩ hw hX hS (c_X1_getAt l hl0 g _ _ h _ _ 5 (nI v2) (zs_H hS)) (by decide) (cwV 2 hts gL_isWrapped_X1_getAt rfl rfl rfl (by decide +kernel) ⟨(Nat.le_of_ble_eq_true rfl), (Nat.le_of_ble_eq_true rfl)⟩) rfl hl.1 rfl (Nat.le_of_ble_eq_true rfl) dL_isWrapped_136 ⟨by show _ ≤ (450 : Nat); omega, by show _ ≤ (2800 : Nat); omega⟩ (fun L f H locs hS hw => ?_)
  refine W.eq (g2 := F0 m 139 ls [.long (zST σ5 (64 * d + (0 + v2)))]) rfl ?_
  refine lv_ldc2 (v := 7) hx hb hown (hts (.constantLong RL 167 7) (by decide +kernel)) dL_isWrapped_139 ?_
  refine W.lcmp hx hb dL_isWrapped_142 ?_
  refine lv_if_ne (tgt := 162) hx hb dL_isWrapped_143 (by decide) (fun c9 => absurd (zcmp0.mpr (by rw [hkd (0 + v2) (by omega)]; exact h7)) c9) (fun _ => ?_)
  refine lv_aload_n hx hb dL_isWrapped_146 rfl (lv_at hl 4 rfl) ?_
  refine zs_x hx hb hts hi_L_isWrapped_L hown hw hS hf_L_isWrapped_10 dL_isWrapped_147 ?_
  refine lv_iconst (v := 0) hx hb dL_isWrapped_150 (by decide) ?_
  refine lv_iload_n hx hb dL_isWrapped_151 rfl (lv_at hl 2 rfl) ?_
  refine zs_call (α := Int32) Value.int (As := [.int 0, .int (nI v2)]) (rest := []) (v_rowAt (r := 0) (q := v2) (by decide) hd5 hr5 hrl5 (by omega) (by omega)) ⟨hx, hb, hml, hown, hts⟩ hw hX hS (c_X1_rowAt l hl0 g _ _ h _ _ 0 (nI v2) (zs_H hS)) (by decide) (cwV 2 hts gL_isWrapped_X1_rowAt rfl rfl rfl (by decide +kernel) ⟨(Nat.le_of_ble_eq_true rfl), (Nat.le_of_ble_eq_true rfl)⟩) rfl hl.1 rfl (Nat.le_of_ble_eq_true rfl) dL_isWrapped_152 ⟨by show _ ≤ (450 : Nat); omega, by show _ ≤ (2800 : Nat); omega⟩ (fun L f H locs hS hw => ?_)
  refine W.eq (g2 := F0 m 155 ls [.int ((zST σ5 (64 * d5 + v2)).toInt32)]) rfl ?_
  refine lv_if_ne (tgt := 162) hx hb dL_isWrapped_155 (by decide) (fun c9 => absurd (by rw [hz5 v2 (by omega)]; rfl) c9) (fun _ => ?_)
  refine lv_iconst (v := 1) hx hb dL_isWrapped_158 (by decide) ?_
  refine lv_goto (tgt := 163) hx hb dL_isWrapped_159 (by decide) ?_
  exact z_zret hx hb hr hlocks rfl hw (by omega) (by omega) dL_isWrapped_163 ⟨rfl, σ5, hS.le (by omega)⟩
