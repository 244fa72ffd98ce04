theorem hi_L_isKept_L : ∀ w ∈ wsL0, w ∈ wsL_isKept := by decide +kernel
theorem hf_L_isKept_10 : Cond.fieldLink RL 10 (TL 3).1 (TL 3).2.1 (TL 3).2.2.1 ∈ wsL_isKept := by decide +kernel
set_option maxRecDepth 100000 in
set_option maxHeartbeats 4000000 in
theorem c_L_isKept (l : Launch) (hl0 : l.stackTraces = false) (g : zG) (L : List Nat) (f : Nat → va_E) (b n : Nat) (xs : Nat → Int32) (hN : n ≤ 260) (a h : Nat) (σ : ZS) (T : Nat) (hT : T < 5000) (hS : zLs T g b a h σ L f) : zCL l yL_isKept wsL_isKept { frames := 10, cells := 450, slots := 2800, locals := 170 } 450 2800 g b n xs [.ref a] L f (fun r L1 f1 => some (.int 1) = r ∧ ∃ σ1, zLs (T + 20) g b a h σ1 L1 f1) zNo := by
  refine z_ofWL (cc := cL_isKept) (maxL := 9) (ret := (some .boolean)) (by decide) rfl (Nat.le_of_ble_eq_true rfl) ?_
  intro p e s m args below meth c ls A hx hb hr hts hown hlocks hml htab hw hX hXs hbl hbA hl
  have hl : lv_has ls 9 [(0, .ref a)] := hl
  have hown : s.vm.findClass RL = some m.cls := hown
  refine lv_aload_n hx hb dL_isKept_0 rfl (lv_at hl 0 rfl) ?_
  refine z_callVL (As := []) (rest := []) ⟨hx, hb, hml, hown, hts⟩ hw hX hXs hbl hbA hS.cell.choose_spec rfl (c_L_anyKind l g _ _ b n xs hN a h _ _ (by omega) hS) (cwV 0 hts gL_isKept_L_anyKind rfl rfl rfl (by decide +kernel) ⟨(Nat.le_of_ble_eq_true rfl), (Nat.le_of_ble_eq_true rfl)⟩) rfl hl.1 rfl (Nat.le_of_ble_eq_true rfl) dL_isKept_1 ⟨by show _ ≤ (450 : Nat); omega, by show _ ≤ (2800 : Nat); omega⟩ (fun r9 L9 f9 H locs hp hw => ?_)
  obtain ⟨k9, hk9, rfl, hS⟩ := hp
  have hk := zkd hk9
  refine W.eq (g2 := F0 m 4 ls [.int k9]) rfl ?_
  refine lv_istore_n (lv' := [(1, .int k9), (0, .ref a)]) hx hb dL_isKept_4 rfl hl (by decide) rfl (fun ls hl => ?_)
  refine lv_iconst (v := 5) hx hb dL_isKept_5 (by decide) ?_
  refine lv_aload_n hx hb dL_isKept_6 rfl (lv_at hl 1 rfl) ?_
  refine lv_bipush (v := 20) hx hb dL_isKept_7 (by decide) ?_
  refine z_callVL (As := [.int 20]) (rest := [.int 5]) ⟨hx, hb, hml, hown, hts⟩ hw hX hXs hbl hbA hS.cell.choose_spec rfl (c_L_draw l g _ _ b n xs hN a h _ _ (by omega) 20 (by omega) (by omega) hS) (cwV 1 hts gL_isKept_L_draw rfl rfl rfl (by decide +kernel) ⟨(Nat.le_of_ble_eq_true rfl), (Nat.le_of_ble_eq_true rfl)⟩) rfl hl.1 rfl (Nat.le_of_ble_eq_true rfl) dL_isKept_9 ⟨by show _ ≤ (450 : Nat); omega, by show _ ≤ (2800 : Nat); omega⟩ (fun r9 L9 f9 H locs hp hw => ?_)
  obtain ⟨v1, hv1, rfl, hS⟩ := hp
  refine W.eq (g2 := F0 m 12 ls [.int (nI v1), .int 5]) rfl ?_
  refine lv_iadd hx hb dL_isKept_12 ?_
  refine lv_topi (fun y9 hy9 => ?_)
  obtain rfl : y9 = (nI (5 + v1)) := hy9.trans (nI_add 5 v1)
  refine lv_istore_n (lv' := [(2, .int (nI (5 + v1))), (1, .int k9), (0, .ref a)]) hx hb dL_isKept_13 rfl hl (by decide) rfl (fun ls hl => ?_)
  refine lv_aload_n hx hb dL_isKept_14 rfl (lv_at hl 2 rfl) ?_
  refine zs_x hx hb hts hi_L_isKept_L hown hw hS hf_L_isKept_10 dL_isKept_15 ?_
  refine lv_bipush (v := 6) hx hb dL_isKept_18 (by decide) ?_
  refine lv_iload_n hx hb dL_isKept_20 rfl (lv_at hl 1 rfl) ?_
  refine lv_iload_n hx hb dL_isKept_21 rfl (lv_at hl 0 rfl) ?_
  obtain ⟨ln, kd, hI⟩ := zs_I hS
  obtain ⟨σ1, w1, d, hd, ho, hV⟩ := v_allocate (i := 6) (n := 5 + v1) hI (by decide) hk9 (by omega)
  refine zs_call (α := Int32) Value.int (As := [.int 6, .int k9, .int (nI (5 + v1))]) (rest := []) ho ⟨hx, hb, hml, hown, hts⟩ hw hX hS (c_X1_allocate l hl0 g _ _ h _ _ 6 k9 (nI (5 + v1)) (zs_H hS)) (by decide) (cwV 3 hts gL_isKept_X1_allocate rfl rfl rfl (by decide +kernel) ⟨(Nat.le_of_ble_eq_true rfl), (Nat.le_of_ble_eq_true rfl)⟩) rfl hl.1 rfl (Nat.le_of_ble_eq_true rfl) dL_isKept_22 ⟨by show _ ≤ (450 : Nat); omega, by show _ ≤ (2800 : Nat); omega⟩ (fun L f H locs hS hw => ?_)
  refine W.eq (g2 := F0 m 25 ls [.int w1]) rfl ?_
  refine lv_pop hx hb dL_isKept_25 rfl ?_
  refine lv_iconst (v := 1) hx hb dL_isKept_26 (by decide) ?_
  refine lv_aload_n hx hb dL_isKept_27 rfl (lv_at hl 2 rfl) ?_
  refine lv_iload_n hx hb dL_isKept_28 rfl (lv_at hl 0 rfl) ?_
  refine z_callVL (As := [.int (nI (5 + v1))]) (rest := [.int 1]) ⟨hx, hb, hml, hown, hts⟩ hw hX hXs hbl hbA hS.cell.choose_spec rfl (c_L_draw l g _ _ b n xs hN a h _ _ (by omega) (5 + v1) (by omega) (by omega) hS) (cwV 1 hts gL_isKept_L_draw rfl rfl rfl (by decide +kernel) ⟨(Nat.le_of_ble_eq_true rfl), (Nat.le_of_ble_eq_true rfl)⟩) rfl hl.1 rfl (Nat.le_of_ble_eq_true rfl) dL_isKept_29 ⟨by show _ ≤ (450 : Nat); omega, by show _ ≤ (2800 : Nat); omega⟩ (fun r9 L9 f9 H locs hp hw => ?_)
  obtain ⟨v2, hv2, rfl, hS⟩ := hp
  refine W.eq (g2 := F0 m 32 ls [.int (nI v2), .int 1]) rfl ?_
  refine lv_iadd hx hb dL_isKept_32 ?_
  refine lv_topi (fun y9 hy9 => ?_)
  obtain rfl : y9 = (nI (1 + v2)) := hy9.trans (nI_add 1 v2)
  refine lv_istore_n (lv' := [(3, .int (nI (1 + v2))), (2, .int (nI (5 + v1))), (1, .int k9), (0, .ref a)]) hx hb dL_isKept_33 rfl hl (by decide) rfl (fun ls hl => ?_)
  refine lv_aload_n hx hb dL_isKept_34 rfl (lv_at hl 3 rfl) ?_
  refine lv_sipush (v := 1000) hx hb dL_isKept_35 (by decide) ?_
  refine z_callVL (As := [.int 1000]) (rest := []) ⟨hx, hb, hml, hown, hts⟩ hw hX hXs hbl hbA hS.cell.choose_spec rfl (c_L_draw l g _ _ b n xs hN a h _ _ (by omega) 1000 (by omega) (by omega) hS) (cwV 1 hts gL_isKept_L_draw rfl rfl rfl (by decide +kernel) ⟨(Nat.le_of_ble_eq_true rfl), (Nat.le_of_ble_eq_true rfl)⟩) rfl hl.1 rfl (Nat.le_of_ble_eq_true rfl) dL_isKept_38 ⟨by show _ ≤ (450 : Nat); omega, by show _ ≤ (2800 : Nat); omega⟩ (fun r9 L9 f9 H locs hp hw => ?_)
  obtain ⟨v3, hv3, rfl, hS⟩ := hp
  refine W.eq (g2 := F0 m 41 ls [.int (nI v3)]) rfl ?_
  refine lv_i2l (v := (nI v3).toInt64) hx hb dL_isKept_41 rfl ?_
  refine lv_lstore (lv' := [(4, .long (nI v3).toInt64), (3, .int (nI (1 + v2))), (2, .int (nI (5 + v1))), (1, .int k9), (0, .ref a)]) hx hb dL_isKept_42 hl (by decide) rfl (fun ls hl => ?_)
  refine lv_iconst (v := 1) hx hb dL_isKept_44 (by decide) ?_
  refine lv_istore (lv' := [(6, .int 1), (4, .long (nI v3).toInt64), (3, .int (nI (1 + v2))), (2, .int (nI (5 + v1))), (1, .int k9), (0, .ref a)]) hx hb dL_isKept_45 hl (by decide) rfl (fun ls hl => ?_)
  refine lv_iconst (v := 0) hx hb dL_isKept_47 (by decide) ?_
  refine lv_istore (lv' := [(7, .int 0), (6, .int 1), (4, .long (nI v3).toInt64), (3, .int (nI (1 + v2))), (2, .int (nI (5 + v1))), (1, .int k9), (0, .ref a)]) hx hb dL_isKept_48 hl (by decide) rfl (fun ls hl => ?_)
  refine W.widen (k := 10) (n := 100) (by omega) (by omega) ?_
  have loop_50 : ∀ (n9 : Nat) (j : Nat) (σ : ZS) (L : List Nat) (f : Nat → va_E) (H : Heap) (locs : List Loc) (ls : Array Slot), (j + n9 = 1 + v2) → (zV σ 6 k9 d 0 (5 + v1) j (5 + v1) (-1) 0) → (∀ q, q < j → zST σ (64 * d + (0 + q)) = zcut k9 ((nI v3).toInt64 + (nI q).toInt64)) → zLs (T + 4) g b a h σ L f → zW g A s L f H locs → lv_has ls 9 [(0, .ref a), (1, .int k9), (2, .int (nI (5 + v1))), (3, .int (nI (1 + v2))), (4, .long (nI v3).toInt64), (6, .int 1), (7, .int (nI j))] → W p l e { frames := 10, cells := 450, slots := 2800, locals := 170 } s m args below meth c H locs (10 + 4 * j) (100 + 24 * j) (vx_MQ below (zQ g A (fun r L1 f1 => some (.int 1) = r ∧ ∃ σ1, zLs (T + 20) g b a h σ1 L1 f1)) (zXC g A zNo) args s 450 2800 A) (F0 m 50 ls []) := by
    intro n9
    induction n9 with
    | zero =>
      intro j σ L f H locs ls hj hV hC hS hw hl
      rw [show j = 1 + v2 by omega] at hV hC
      refine lv_iload hx hb dL_isKept_50 (lv_at hl 6 rfl) ?_
      refine lv_iload_n hx hb dL_isKept_52 rfl (lv_at hl 3 rfl) ?_
      refine lv_icmp_ge (tgt := 96) hx hb dL_isKept_53 (by decide) (fun _ => ?_) (fun c9 => absurd ((nI_leI (by omega) (by omega)).mpr (by omega)) c9)
      refine lv_aload_n hx hb dL_isKept_96 rfl (lv_at hl 0 rfl) ?_
      refine lv_iload_n hx hb dL_isKept_97 rfl (lv_at hl 3 rfl) ?_
      refine lv_iconst (v := 1) hx hb dL_isKept_98 (by decide) ?_
      refine lv_iadd hx hb dL_isKept_99 ?_
      refine lv_topi (fun y9 hy9 => ?_)
      obtain rfl : y9 = (nI ((1 + v2) + 1)) := hy9.trans (nI_add (1 + v2) 1)
      refine z_callVL (As := [.int (nI ((1 + v2) + 1))]) (rest := []) ⟨hx, hb, hml, hown, hts⟩ hw hX hXs hbl hbA hS.cell.choose_spec rfl (c_L_draw l g _ _ b n xs hN a h _ _ (by omega) ((1 + v2) + 1) (by omega) (by omega) hS) (cwV 1 hts gL_isKept_L_draw rfl rfl rfl (by decide +kernel) ⟨(Nat.le_of_ble_eq_true rfl), (Nat.le_of_ble_eq_true rfl)⟩) rfl hl.1 rfl (Nat.le_of_ble_eq_true rfl) dL_isKept_100 ⟨by show _ ≤ (450 : Nat); omega, by show _ ≤ (2800 : Nat); omega⟩ (fun r9 L9 f9 H locs hp hw => ?_)
      obtain ⟨v4, hv4, rfl, hS⟩ := hp
      refine W.eq (g2 := F0 m 103 ls [.int (nI v4)]) rfl ?_
      refine lv_istore (lv' := [(7, .int (nI v4)), (0, .ref a), (1, .int k9), (2, .int (nI (5 + v1))), (3, .int (nI (1 + v2))), (4, .long (nI v3).toInt64), (6, .int 1)]) hx hb dL_isKept_103 hl (by decide) rfl (fun ls hl => ?_)
      refine lv_iload hx hb dL_isKept_105 (lv_at hl 6 rfl) ?_
      refine lv_if_eq (tgt := 139) hx hb dL_isKept_107 (by decide) (fun c_1 => absurd c_1 (by decide)) (fun c_1 => ?_)
      refine lv_aload_n hx hb dL_isKept_110 rfl (lv_at hl 1 rfl) ?_
      refine zs_x hx hb hts hi_L_isKept_L hown hw hS hf_L_isKept_10 dL_isKept_111 ?_
      refine lv_bipush (v := 6) hx hb dL_isKept_114 (by decide) ?_
      obtain ⟨σ3, ho, hV, -, hst⟩ := v_flip hV (by decide) hk
      have hC := fun q hq => (congrFun hst _).trans (hC q hq)
      refine zs_call (α := Int32) Value.int (As := [.int 6]) (rest := []) ho ⟨hx, hb, hml, hown, hts⟩ hw hX hS (c_X1_flip l hl0 g _ _ h _ _ 6 (zs_H hS)) (by decide) (cwV 1 hts gL_isKept_X1_flip rfl rfl rfl (by decide +kernel) ⟨(Nat.le_of_ble_eq_true rfl), (Nat.le_of_ble_eq_true rfl)⟩) rfl hl.1 rfl (Nat.le_of_ble_eq_true rfl) dL_isKept_116 ⟨by show _ ≤ (450 : Nat); omega, by show _ ≤ (2800 : Nat); omega⟩ (fun L f H locs hS hw => ?_)
      refine W.eq (g2 := F0 m 119 ls [.int (nI (1 + v2))]) rfl ?_
      refine lv_iload_n hx hb dL_isKept_119 rfl (lv_at hl 4 rfl) ?_
      refine lv_icmp_ne (tgt := 139) hx hb dL_isKept_120 (by decide) (fun c9 => absurd (rfl) c9) (fun _ => ?_)
      refine lv_aload_n hx hb dL_isKept_123 rfl (lv_at hl 1 rfl) ?_
      refine zs_x hx hb hts hi_L_isKept_L hown hw hS hf_L_isKept_10 dL_isKept_124 ?_
      refine lv_bipush (v := 6) hx hb dL_isKept_127 (by decide) ?_
      refine zs_call (α := Int32) Value.int (As := [.int 6]) (rest := []) (v_place hV (by decide) hk) ⟨hx, hb, hml, hown, hts⟩ hw hX hS (c_X1_place l hl0 g _ _ h _ _ 6 (zs_H hS)) (by decide) (cwV 1 hts gL_isKept_X1_place rfl rfl rfl (by decide +kernel) ⟨(Nat.le_of_ble_eq_true rfl), (Nat.le_of_ble_eq_true rfl)⟩) rfl hl.1 rfl (Nat.le_of_ble_eq_true rfl) dL_isKept_129 ⟨by show _ ≤ (450 : Nat); omega, by show _ ≤ (2800 : Nat); omega⟩ (fun L f H locs hS hw => ?_)
      refine W.eq (g2 := F0 m 132 ls [.int (nI 0)]) rfl ?_
      refine lv_if_ne (tgt := 139) hx hb dL_isKept_132 (by decide) (fun c9 => absurd (nI_0) c9) (fun _ => ?_)
      refine lv_iconst (v := 1) hx hb dL_isKept_135 (by decide) ?_
      refine lv_goto (tgt := 140) hx hb dL_isKept_136 (by decide) ?_
      refine lv_istore (lv' := [(6, .int 1), (7, .int (nI v4)), (0, .ref a), (1, .int k9), (2, .int (nI (5 + v1))), (3, .int (nI (1 + v2))), (4, .long (nI v3).toInt64)]) hx hb dL_isKept_140 hl (by decide) rfl (fun ls hl => ?_)
      refine lv_iconst (v := 0) hx hb dL_isKept_142 (by decide) ?_
      refine lv_istore (lv' := [(8, .int 0), (6, .int 1), (7, .int (nI v4)), (0, .ref a), (1, .int k9), (2, .int (nI (5 + v1))), (3, .int (nI (1 + v2))), (4, .long (nI v3).toInt64)]) hx hb dL_isKept_143 hl (by decide) rfl (fun ls hl => ?_)
      refine W.widen (k := 130) (n := 900) (by omega) (by omega) ?_
      have loop_145 : ∀ (n9 : Nat) (j : Nat) (σ : ZS) (L : List Nat) (f : Nat → va_E) (H : Heap) (locs : List Loc) (ls : Array Slot), (j + n9 = v4) → (zV σ 6 k9 d 0 (5 + v1) j (1 + v2) (-1) 0) → (∀ q, q < (1 + v2) → zST σ (64 * d + (0 + q)) = zcut k9 ((nI v3).toInt64 + (nI q).toInt64)) → zLs (T + 5) g b a h σ L f → zW g A s L f H locs → lv_has ls 9 [(0, .ref a), (1, .int k9), (2, .int (nI (5 + v1))), (3, .int (nI (1 + v2))), (4, .long (nI v3).toInt64), (6, .int 1), (7, .int (nI v4)), (8, .int (nI j))] → W p l e { frames := 10, cells := 450, slots := 2800, locals := 170 } s m args below meth c H locs (130 + 3 * j) (900 + 18 * j) (vx_MQ below (zQ g A (fun r L1 f1 => some (.int 1) = r ∧ ∃ σ1, zLs (T + 20) g b a h σ1 L1 f1)) (zXC g A zNo) args s 450 2800 A) (F0 m 145 ls []) := by
        intro n9
        induction n9 with
        | zero =>
          intro j σ L f H locs ls hj hV hC hS hw hl
          rw [show j = v4 by omega] at hV
          refine lv_iload hx hb dL_isKept_145 (lv_at hl 7 rfl) ?_
          refine lv_iload hx hb dL_isKept_147 (lv_at hl 6 rfl) ?_
          refine lv_icmp_ge (tgt := 193) hx hb dL_isKept_149 (by decide) (fun _ => ?_) (fun c9 => absurd ((nI_leI (by omega) (by omega)).mpr (by omega)) c9)
          refine lv_iload hx hb dL_isKept_193 (lv_at hl 5 rfl) ?_
          refine lv_if_eq (tgt := 263) hx hb dL_isKept_195 (by decide) (fun c_2 => absurd c_2 (by decide)) (fun c_2 => ?_)
          refine lv_aload_n hx hb dL_isKept_198 rfl (lv_at hl 0 rfl) ?_
          refine zs_x hx hb hts hi_L_isKept_L hown hw hS hf_L_isKept_10 dL_isKept_199 ?_
          refine lv_bipush (v := 6) hx hb dL_isKept_202 (by decide) ?_
          refine zs_call (α := Int32) Value.int (As := [.int 6]) (rest := []) (v_left hV (by decide) hk (by omega)) ⟨hx, hb, hml, hown, hts⟩ hw hX hS (c_X1_left l hl0 g _ _ h _ _ 6 (zs_H hS)) (by decide) (cwV 1 hts gL_isKept_X1_left rfl rfl rfl (by decide +kernel) ⟨(Nat.le_of_ble_eq_true rfl), (Nat.le_of_ble_eq_true rfl)⟩) rfl hl.1 rfl (Nat.le_of_ble_eq_true rfl) dL_isKept_204 ⟨by show _ ≤ (450 : Nat); omega, by show _ ≤ (2800 : Nat); omega⟩ (fun L f H locs hS hw => ?_)
          refine W.eq (g2 := F0 m 207 ls [.int (nI (1 + v2 - v4))]) rfl ?_
          refine lv_iload_n hx hb dL_isKept_207 rfl (lv_at hl 3 rfl) ?_
          refine lv_iload hx hb dL_isKept_208 (lv_at hl 6 rfl) ?_
          refine lv_isub hx hb dL_isKept_210 ?_
          refine lv_topi (fun y9 hy9 => ?_)
          obtain rfl : y9 = (nI ((1 + v2) - v4)) := hy9.trans (pk_sub (a := (1 + v2)) (b := v4) (by omega))
          refine lv_icmp_ne (tgt := 263) hx hb dL_isKept_211 (by decide) (fun c9 => absurd (rfl) c9) (fun _ => ?_)
          refine lv_aload_n hx hb dL_isKept_214 rfl (lv_at hl 0 rfl) ?_
          refine zs_x hx hb hts hi_L_isKept_L hown hw hS hf_L_isKept_10 dL_isKept_215 ?_
          refine lv_bipush (v := 6) hx hb dL_isKept_218 (by decide) ?_
          obtain ⟨σ5, ho, hV, hC5⟩ := v_compact hV (by decide) hk hd (by omega) (by omega)
          have hC : ∀ q, q < 1 + v2 - v4 → zST σ5 (64 * d + (0 + q)) = zcut k9 ((nI v3).toInt64 + (nI (v4 + q)).toInt64) := fun q hq => by
            rw [hC5 q hq, hC (v4 + q) (by omega), zcut2]
          refine zs_call (α := Int32) Value.int (As := [.int 6]) (rest := []) ho ⟨hx, hb, hml, hown, hts⟩ hw hX hS (c_X1_compact l hl0 g _ _ h _ _ 6 (zs_H hS)) (by decide) (cwV 1 hts gL_isKept_X1_compact rfl rfl rfl (by decide +kernel) ⟨(Nat.le_of_ble_eq_true rfl), (Nat.le_of_ble_eq_true rfl)⟩) rfl hl.1 rfl (Nat.le_of_ble_eq_true rfl) dL_isKept_220 ⟨by show _ ≤ (450 : Nat); omega, by show _ ≤ (2800 : Nat); omega⟩ (fun L f H locs hS hw => ?_)
          refine W.eq (g2 := F0 m 223 ls [.int (nI (1 + v2 - v4))]) rfl ?_
          refine lv_iload_n hx hb dL_isKept_223 rfl (lv_at hl 3 rfl) ?_
          refine lv_iload hx hb dL_isKept_224 (lv_at hl 6 rfl) ?_
          refine lv_isub hx hb dL_isKept_226 ?_
          refine lv_topi (fun y9 hy9 => ?_)
          obtain rfl : y9 = (nI ((1 + v2) - v4)) := hy9.trans (pk_sub (a := (1 + v2)) (b := v4) (by omega))
          refine lv_icmp_ne (tgt := 263) hx hb dL_isKept_227 (by decide) (fun c9 => absurd (rfl) c9) (fun _ => ?_)
          refine lv_aload_n hx hb dL_isKept_230 rfl (lv_at hl 0 rfl) ?_
          refine zs_x hx hb hts hi_L_isKept_L hown hw hS hf_L_isKept_10 dL_isKept_231 ?_
          refine lv_bipush (v := 6) hx hb dL_isKept_234 (by decide) ?_
          refine zs_call (α := Int32) Value.int (As := [.int 6]) (rest := []) (v_end hV (by decide) hk) ⟨hx, hb, hml, hown, hts⟩ hw hX hS (c_X1_end l hl0 g _ _ h _ _ 6 (zs_H hS)) (by decide) (cwV 1 hts gL_isKept_X1_end rfl rfl rfl (by decide +kernel) ⟨(Nat.le_of_ble_eq_true rfl), (Nat.le_of_ble_eq_true rfl)⟩) rfl hl.1 rfl (Nat.le_of_ble_eq_true rfl) dL_isKept_236 ⟨by show _ ≤ (450 : Nat); omega, by show _ ≤ (2800 : Nat); omega⟩ (fun L f H locs hS hw => ?_)
          refine W.eq (g2 := F0 m 239 ls [.int (nI (5 + v1))]) rfl ?_
          refine lv_iload_n hx hb dL_isKept_239 rfl (lv_at hl 2 rfl) ?_
          refine lv_icmp_ne (tgt := 263) hx hb dL_isKept_240 (by decide) (fun c9 => absurd (rfl) c9) (fun _ => ?_)
          refine lv_aload_n hx hb dL_isKept_243 rfl (lv_at hl 0 rfl) ?_
          refine zs_x hx hb hts hi_L_isKept_L hown hw hS hf_L_isKept_10 dL_isKept_244 ?_
          refine lv_bipush (v := 6) hx hb dL_isKept_247 (by decide) ?_
          obtain ⟨σ6, ho, hV, -, hst⟩ := v_flip hV (by decide) hk
          have hC := fun q hq => (congrFun hst _).trans (hC q hq)
          refine zs_call (α := Int32) Value.int (As := [.int 6]) (rest := []) ho ⟨hx, hb, hml, hown, hts⟩ hw hX hS (c_X1_flip l hl0 g _ _ h _ _ 6 (zs_H hS)) (by decide) (cwV 1 hts gL_isKept_X1_flip rfl rfl rfl (by decide +kernel) ⟨(Nat.le_of_ble_eq_true rfl), (Nat.le_of_ble_eq_true rfl)⟩) rfl hl.1 rfl (Nat.le_of_ble_eq_true rfl) dL_isKept_249 ⟨by show _ ≤ (450 : Nat); omega, by show _ ≤ (2800 : Nat); omega⟩ (fun L f H locs hS hw => ?_)
          refine W.eq (g2 := F0 m 252 ls [.int (nI (1 + v2 - v4))]) rfl ?_
          refine lv_iload_n hx hb dL_isKept_252 rfl (lv_at hl 3 rfl) ?_
          refine lv_iload hx hb dL_isKept_253 (lv_at hl 6 rfl) ?_
          refine lv_isub hx hb dL_isKept_255 ?_
          refine lv_topi (fun y9 hy9 => ?_)
          obtain rfl : y9 = (nI ((1 + v2) - v4)) := hy9.trans (pk_sub (a := (1 + v2)) (b := v4) (by omega))
          refine lv_icmp_ne (tgt := 263) hx hb dL_isKept_256 (by decide) (fun c9 => absurd (rfl) c9) (fun _ => ?_)
          refine lv_iconst (v := 1) hx hb dL_isKept_259 (by decide) ?_
          refine lv_goto (tgt := 264) hx hb dL_isKept_260 (by decide) ?_
          refine lv_istore (lv' := [(6, .int 1), (0, .ref a), (1, .int k9), (2, .int (nI (5 + v1))), (3, .int (nI (1 + v2))), (4, .long (nI v3).toInt64), (7, .int (nI v4)), (8, .int (nI j))]) hx hb dL_isKept_264 hl (by decide) rfl (fun ls hl => ?_)
          refine lv_iload hx hb dL_isKept_266 (lv_at hl 6 rfl) ?_
          refine lv_istore (lv' := [(8, .int (nI v4)), (6, .int 1), (0, .ref a), (1, .int k9), (2, .int (nI (5 + v1))), (3, .int (nI (1 + v2))), (4, .long (nI v3).toInt64), (7, .int (nI v4))]) hx hb dL_isKept_268 hl (by decide) rfl (fun ls hl => ?_)
          refine W.widen (k := 230) (n := 1500) (by omega) (by omega) ?_
          have loop_270 : ∀ (n9 : Nat) (j : Nat) (σ : ZS) (L : List Nat) (f : Nat → va_E) (H : Heap) (locs : List Loc) (ls : Array Slot), (j + n9 = 1 + v2 - v4) → (zV σ 6 k9 d 0 (5 + v1) j (1 + v2 - v4) (-1) 0) → (∀ q, q < 1 + v2 - v4 → zST σ (64 * d + (0 + q)) = zcut k9 ((nI v3).toInt64 + (nI (v4 + q)).toInt64)) → zLs (T + 5) g b a h σ L f → zW g A s L f H locs → lv_has ls 9 [(0, .ref a), (1, .int k9), (2, .int (nI (5 + v1))), (3, .int (nI (1 + v2))), (4, .long (nI v3).toInt64), (6, .int 1), (8, .int (nI (v4 + j)))] → W p l e { frames := 10, cells := 450, slots := 2800, locals := 170 } s m args below meth c H locs (230 + 3 * j) (1500 + 18 * j) (vx_MQ below (zQ g A (fun r L1 f1 => some (.int 1) = r ∧ ∃ σ1, zLs (T + 20) g b a h σ1 L1 f1)) (zXC g A zNo) args s 450 2800 A) (F0 m 270 ls []) := by
            intro n9
            induction n9 with
            | zero =>
              intro j σ L f H locs ls hj hV hC hS hw hl
              refine lv_iload hx hb dL_isKept_270 (lv_at hl 6 rfl) ?_
              refine lv_iload_n hx hb dL_isKept_272 rfl (lv_at hl 3 rfl) ?_
              refine lv_icmp_ge (tgt := 317) hx hb dL_isKept_273 (by decide) (fun _ => ?_) (fun c9 => absurd ((nI_leI (by omega) (by omega)).mpr (by omega)) c9)
              refine lv_iload hx hb dL_isKept_317 (lv_at hl 5 rfl) ?_
              refine lv_if_eq (tgt := 338) hx hb dL_isKept_319 (by decide) (fun c_3 => absurd c_3 (by decide)) (fun c_3 => ?_)
              refine lv_aload_n hx hb dL_isKept_322 rfl (lv_at hl 0 rfl) ?_
              refine zs_x hx hb hts hi_L_isKept_L hown hw hS hf_L_isKept_10 dL_isKept_323 ?_
              refine lv_bipush (v := 6) hx hb dL_isKept_326 (by decide) ?_
              refine zs_call (α := Int32) Value.int (As := [.int 6]) (rest := []) (v_hasLeft hV (by decide) hk (by omega)) ⟨hx, hb, hml, hown, hts⟩ hw hX hS (c_X1_hasLeft l hl0 g _ _ h _ _ 6 (zs_H hS)) (by decide) (cwV 1 hts gL_isKept_X1_hasLeft rfl rfl rfl (by decide +kernel) ⟨(Nat.le_of_ble_eq_true rfl), (Nat.le_of_ble_eq_true rfl)⟩) rfl hl.1 rfl (Nat.le_of_ble_eq_true rfl) dL_isKept_328 ⟨by show _ ≤ (450 : Nat); omega, by show _ ≤ (2800 : Nat); omega⟩ (fun L f H locs hS hw => ?_)
              refine W.eq (g2 := F0 m 331 ls [.int 0]) rfl ?_
              refine lv_if_ne (tgt := 338) hx hb dL_isKept_331 (by decide) (fun c_4 => absurd (by decide) c_4) (fun c_4 => ?_)
              refine lv_iconst (v := 1) hx hb dL_isKept_334 (by decide) ?_
              refine lv_goto (tgt := 339) hx hb dL_isKept_335 (by decide) ?_
              exact z_zret hx hb hr hlocks rfl hw (by omega) (by omega) dL_isKept_339 ⟨rfl, σ, hS.le (by omega)⟩
            | succ n9 ih_270 =>
              intro j σ L f H locs ls hj hV hC hS hw hl
              refine lv_iload hx hb dL_isKept_270 (lv_at hl 6 rfl) ?_
              refine lv_iload_n hx hb dL_isKept_272 rfl (lv_at hl 3 rfl) ?_
              refine lv_icmp_ge (tgt := 317) hx hb dL_isKept_273 (by decide) (fun c9 => absurd c9 (nI_ge (by omega) (by omega))) (fun _ => ?_)
              refine lv_iload hx hb dL_isKept_276 (lv_at hl 5 rfl) ?_
              refine lv_if_eq (tgt := 317) hx hb dL_isKept_278 (by decide) (fun c_5 => absurd c_5 (by decide)) (fun c_5 => ?_)
              refine lv_aload_n hx hb dL_isKept_281 rfl (lv_at hl 0 rfl) ?_
              refine zs_x hx hb hts hi_L_isKept_L hown hw hS hf_L_isKept_10 dL_isKept_282 ?_
              refine lv_bipush (v := 6) hx hb dL_isKept_285 (by decide) ?_
              obtain ⟨σ7, ho, hst, hV⟩ := v_get hV (by decide) hk hd (by omega) (by omega)
              have hC9 := hC
              have hC := fun q hq => (congrFun hst _).trans (hC q hq)
              refine zs_call (α := Int64) Value.long (As := [.int 6]) (rest := []) ho ⟨hx, hb, hml, hown, hts⟩ hw hX hS (c_X1_get l hl0 g _ _ h _ _ 6 (zs_H hS)) (by decide) (cwV 1 hts gL_isKept_X1_get rfl rfl rfl (by decide +kernel) ⟨(Nat.le_of_ble_eq_true rfl), (Nat.le_of_ble_eq_true rfl)⟩) rfl hl.1 rfl (Nat.le_of_ble_eq_true rfl) dL_isKept_287 ⟨by show _ ≤ (450 : Nat); omega, by show _ ≤ (2800 : Nat); omega⟩ (fun L f H locs hS hw => ?_)
              refine W.eq (g2 := F0 m 290 ls [.long (zST σ (64 * d + (0 + j)))]) rfl ?_
              refine lv_iload_n hx hb dL_isKept_290 rfl (lv_at hl 1 rfl) ?_
              refine lv_lload hx hb dL_isKept_291 (lv_at hl 4 rfl) ?_
              refine lv_iload hx hb dL_isKept_293 (lv_at hl 6 rfl) ?_
              refine lv_i2l (v := (nI (v4 + j)).toInt64) hx hb dL_isKept_295 rfl ?_
              refine lv_ladd hx hb dL_isKept_296 ?_
              refine z_callS (As := [.int k9, .long ((nI v3).toInt64 + (nI (v4 + j)).toInt64)]) (rest := [.long (zST σ (64 * d + (0 + j)))]) ⟨hx, hb, hml, hown, hts⟩ hw hX (c_L_cut l g _ _ k9 ((nI v3).toInt64 + (nI (v4 + j)).toInt64)) (va_cwS 2 hts gL_isKept_L_cut rfl rfl rfl (by decide +kernel) ⟨(Nat.le_of_ble_eq_true rfl), (Nat.le_of_ble_eq_true rfl)⟩) rfl hl.1 rfl (Nat.le_of_ble_eq_true rfl) dL_isKept_297 ⟨by show _ ≤ (450 : Nat); omega, by show _ ≤ (2800 : Nat); omega⟩ (fun _ _ _ _ _ _ _ hp => False.elim hp) (fun r9 L9 f9 H locs hp hw => ?_)
              obtain ⟨rfl, rfl, rfl⟩ := hp
              refine W.eq (g2 := F0 m 300 ls [.long (zcut k9 ((nI v3).toInt64 + (nI (v4 + j)).toInt64)), .long (zST σ (64 * d + (0 + j)))]) rfl ?_
              refine W.lcmp hx hb dL_isKept_300 ?_
              refine lv_if_ne (tgt := 308) hx hb dL_isKept_301 (by decide) (fun c9 => absurd (zcmp0.mpr (hC9 j (by omega))) c9) (fun _ => ?_)
              refine lv_iconst (v := 1) hx hb dL_isKept_304 (by decide) ?_
              refine lv_goto (tgt := 309) hx hb dL_isKept_305 (by decide) ?_
              refine lv_istore (lv' := [(6, .int 1), (0, .ref a), (1, .int k9), (2, .int (nI (5 + v1))), (3, .int (nI (1 + v2))), (4, .long (nI v3).toInt64), (8, .int (nI (v4 + j)))]) hx hb dL_isKept_309 hl (by decide) rfl (fun ls hl => ?_)
              refine lv_iinc (v := (nI ((v4 + j) + 1))) (lv' := [(8, .int (nI ((v4 + j) + 1))), (6, .int 1), (0, .ref a), (1, .int k9), (2, .int (nI (5 + v1))), (3, .int (nI (1 + v2))), (4, .long (nI v3).toInt64)]) hx hb dL_isKept_311 hl (k := 6) rfl (nI_1 (v4 + j)) (by decide) rfl (fun ls hl => ?_)
              refine lv_goto (tgt := 270) hx hb dL_isKept_314 (by decide) ?_
              refine W.widen (k := 230 + 3 * (j + 1)) (n := 1500 + 18 * (j + 1)) (by omega) (by omega) ?_
              refine ih_270 (j + 1) σ7 _ _ _ _ _ (by omega) hV hC (hS.le (by omega)) hw ?_
              have hl := lv_sub hl (l' := [(0, .ref a), (1, .int k9), (2, .int (nI (5 + v1))), (3, .int (nI (1 + v2))), (4, .long (nI v3).toInt64), (6, .int 1), (8, .int (nI ((v4 + j) + 1)))]) [2, 3, 4, 5, 6, 1, 0] rfl
              exact hl
          refine loop_270 (1 + v2 - v4) 0 σ6 _ _ _ _ _ (by omega) hV hC (hS.le (by omega)) hw ?_
          have hl := lv_sub hl (l' := [(0, .ref a), (1, .int k9), (2, .int (nI (5 + v1))), (3, .int (nI (1 + v2))), (4, .long (nI v3).toInt64), (6, .int 1), (8, .int (nI v4))]) [2, 3, 4, 5, 6, 1, 0] rfl
          exact hl
        | succ n9 ih_145 =>
          intro j σ L f H locs ls hj hV hC hS hw hl
          refine lv_iload hx hb dL_isKept_145 (lv_at hl 7 rfl) ?_
          refine lv_iload hx hb dL_isKept_147 (lv_at hl 6 rfl) ?_
          refine lv_icmp_ge (tgt := 193) hx hb dL_isKept_149 (by decide) (fun c9 => absurd c9 (nI_ge (by omega) (by omega))) (fun _ => ?_)
          refine lv_iload hx hb dL_isKept_152 (lv_at hl 5 rfl) ?_
          refine lv_if_eq (tgt := 193) hx hb dL_isKept_154 (by decide) (fun c_6 => absurd c_6 (by decide)) (fun c_6 => ?_)
          refine lv_aload_n hx hb dL_isKept_157 rfl (lv_at hl 0 rfl) ?_
          refine zs_x hx hb hts hi_L_isKept_L hown hw hS hf_L_isKept_10 dL_isKept_158 ?_
          refine lv_bipush (v := 6) hx hb dL_isKept_161 (by decide) ?_
          obtain ⟨σ4, ho, hst, hV⟩ := v_get hV (by decide) hk hd (by omega) (by omega)
          have hC9 := hC
          have hC := fun q hq => (congrFun hst _).trans (hC q hq)
          refine zs_call (α := Int64) Value.long (As := [.int 6]) (rest := []) ho ⟨hx, hb, hml, hown, hts⟩ hw hX hS (c_X1_get l hl0 g _ _ h _ _ 6 (zs_H hS)) (by decide) (cwV 1 hts gL_isKept_X1_get rfl rfl rfl (by decide +kernel) ⟨(Nat.le_of_ble_eq_true rfl), (Nat.le_of_ble_eq_true rfl)⟩) rfl hl.1 rfl (Nat.le_of_ble_eq_true rfl) dL_isKept_163 ⟨by show _ ≤ (450 : Nat); omega, by show _ ≤ (2800 : Nat); omega⟩ (fun L f H locs hS hw => ?_)
          refine W.eq (g2 := F0 m 166 ls [.long (zST σ (64 * d + (0 + j)))]) rfl ?_
          refine lv_iload_n hx hb dL_isKept_166 rfl (lv_at hl 1 rfl) ?_
          refine lv_lload hx hb dL_isKept_167 (lv_at hl 4 rfl) ?_
          refine lv_iload hx hb dL_isKept_169 (lv_at hl 7 rfl) ?_
          refine lv_i2l (v := (nI j).toInt64) hx hb dL_isKept_171 rfl ?_
          refine lv_ladd hx hb dL_isKept_172 ?_
          refine z_callS (As := [.int k9, .long ((nI v3).toInt64 + (nI j).toInt64)]) (rest := [.long (zST σ (64 * d + (0 + j)))]) ⟨hx, hb, hml, hown, hts⟩ hw hX (c_L_cut l g _ _ k9 ((nI v3).toInt64 + (nI j).toInt64)) (va_cwS 2 hts gL_isKept_L_cut rfl rfl rfl (by decide +kernel) ⟨(Nat.le_of_ble_eq_true rfl), (Nat.le_of_ble_eq_true rfl)⟩) rfl hl.1 rfl (Nat.le_of_ble_eq_true rfl) dL_isKept_173 ⟨by show _ ≤ (450 : Nat); omega, by show _ ≤ (2800 : Nat); omega⟩ (fun _ _ _ _ _ _ _ hp => False.elim hp) (fun r9 L9 f9 H locs hp hw => ?_)
          obtain ⟨rfl, rfl, rfl⟩ := hp
          refine W.eq (g2 := F0 m 176 ls [.long (zcut k9 ((nI v3).toInt64 + (nI j).toInt64)), .long (zST σ (64 * d + (0 + j)))]) rfl ?_
          refine W.lcmp hx hb dL_isKept_176 ?_
          refine lv_if_ne (tgt := 184) hx hb dL_isKept_177 (by decide) (fun c9 => absurd (zcmp0.mpr (hC9 j (by omega))) c9) (fun _ => ?_)
          refine lv_iconst (v := 1) hx hb dL_isKept_180 (by decide) ?_
          refine lv_goto (tgt := 185) hx hb dL_isKept_181 (by decide) ?_
          refine lv_istore (lv' := [(6, .int 1), (0, .ref a), (1, .int k9), (2, .int (nI (5 + v1))), (3, .int (nI (1 + v2))), (4, .long (nI v3).toInt64), (7, .int (nI v4)), (8, .int (nI j))]) hx hb dL_isKept_185 hl (by decide) rfl (fun ls hl => ?_)
          refine lv_iinc (v := (nI (j + 1))) (lv' := [(8, .int (nI (j + 1))), (6, .int 1), (0, .ref a), (1, .int k9), (2, .int (nI (5 + v1))), (3, .int (nI (1 + v2))), (4, .long (nI v3).toInt64), (7, .int (nI v4))]) hx hb dL_isKept_187 hl (k := 7) rfl (nI_1 j) (by decide) rfl (fun ls hl => ?_)
          refine lv_goto (tgt := 145) hx hb dL_isKept_190 (by decide) ?_
          refine W.widen (k := 130 + 3 * (j + 1)) (n := 900 + 18 * (j + 1)) (by omega) (by omega) ?_
          refine ih_145 (j + 1) σ4 _ _ _ _ _ (by omega) hV hC (hS.le (by omega)) hw ?_
          have hl := lv_sub hl (l' := [(0, .ref a), (1, .int k9), (2, .int (nI (5 + v1))), (3, .int (nI (1 + v2))), (4, .long (nI v3).toInt64), (6, .int 1), (7, .int (nI v4)), (8, .int (nI (j + 1)))]) [2, 3, 4, 5, 6, 1, 7, 0] rfl
          exact hl
      refine loop_145 (v4) 0 σ3 _ _ _ _ _ (by omega) hV hC (hS.le (by omega)) hw ?_
      have hl := lv_sub hl (l' := [(0, .ref a), (1, .int k9), (2, .int (nI (5 + v1))), (3, .int (nI (1 + v2))), (4, .long (nI v3).toInt64), (6, .int 1), (7, .int (nI v4)), (8, .int 0)]) [3, 4, 5, 6, 7, 1, 2, 0] rfl
      exact hl
    | succ n9 ih_50 =>
      intro j σ L f H locs ls hj hV hC hS hw hl
      refine lv_iload hx hb dL_isKept_50 (lv_at hl 6 rfl) ?_
      refine lv_iload_n hx hb dL_isKept_52 rfl (lv_at hl 3 rfl) ?_
      refine lv_icmp_ge (tgt := 96) hx hb dL_isKept_53 (by decide) (fun c9 => absurd c9 (nI_ge (by omega) (by omega))) (fun _ => ?_)
      refine lv_iload hx hb dL_isKept_56 (lv_at hl 5 rfl) ?_
      refine lv_if_eq (tgt := 96) hx hb dL_isKept_58 (by decide) (fun c_7 => absurd c_7 (by decide)) (fun c_7 => ?_)
      refine lv_aload_n hx hb dL_isKept_61 rfl (lv_at hl 0 rfl) ?_
      refine zs_x hx hb hts hi_L_isKept_L hown hw hS hf_L_isKept_10 dL_isKept_62 ?_
      refine lv_bipush (v := 6) hx hb dL_isKept_65 (by decide) ?_
      refine lv_lload hx hb dL_isKept_67 (lv_at hl 4 rfl) ?_
      refine lv_iload hx hb dL_isKept_69 (lv_at hl 6 rfl) ?_
      refine lv_i2l (v := (nI j).toInt64) hx hb dL_isKept_71 rfl ?_
      refine lv_ladd hx hb dL_isKept_72 ?_
      obtain ⟨σ2, ho, hst, hV⟩ := v_put hV (by decide) hk hd (by omega) (by omega) ((nI v3).toInt64 + (nI j).toInt64)
      have hC : ∀ q, q < j + 1 → zST σ2 (64 * d + (0 + q)) = zcut k9 ((nI v3).toInt64 + (nI q).toInt64) := fun q hq => by
        rw [hst]
        by_cases e9 : q = j
        · rw [e9]; exact pk_uLs
        · rw [pk_uLn (by omega)]; exact hC q (by omega)
      refine zs_call (α := Int32) Value.int (As := [.int 6, .long ((nI v3).toInt64 + (nI j).toInt64)]) (rest := []) ho ⟨hx, hb, hml, hown, hts⟩ hw hX hS (c_X1_put l hl0 g _ _ h _ _ 6 ((nI v3).toInt64 + (nI j).toInt64) (zs_H hS)) (by decide) (cwV 2 hts gL_isKept_X1_put rfl rfl rfl (by decide +kernel) ⟨(Nat.le_of_ble_eq_true rfl), (Nat.le_of_ble_eq_true rfl)⟩) rfl hl.1 rfl (Nat.le_of_ble_eq_true rfl) dL_isKept_73 ⟨by show _ ≤ (450 : Nat); omega, by show _ ≤ (2800 : Nat); omega⟩ (fun L f H locs hS hw => ?_)
      refine W.eq (g2 := F0 m 76 ls [.int (nI (j + 1))]) rfl ?_
      refine lv_iload hx hb dL_isKept_76 (lv_at hl 6 rfl) ?_
      refine lv_iconst (v := 1) hx hb dL_isKept_78 (by decide) ?_
      refine lv_iadd hx hb dL_isKept_79 ?_
      refine lv_topi (fun y9 hy9 => ?_)
      obtain rfl : y9 = (nI (j + 1)) := hy9.trans (nI_add j 1)
      refine lv_icmp_ne (tgt := 87) hx hb dL_isKept_80 (by decide) (fun c9 => absurd (rfl) c9) (fun _ => ?_)
      refine lv_iconst (v := 1) hx hb dL_isKept_83 (by decide) ?_
      refine lv_goto (tgt := 88) hx hb dL_isKept_84 (by decide) ?_
      refine lv_istore (lv' := [(6, .int 1), (0, .ref a), (1, .int k9), (2, .int (nI (5 + v1))), (3, .int (nI (1 + v2))), (4, .long (nI v3).toInt64), (7, .int (nI j))]) hx hb dL_isKept_88 hl (by decide) rfl (fun ls hl => ?_)
      refine lv_iinc (v := (nI (j + 1))) (lv' := [(7, .int (nI (j + 1))), (6, .int 1), (0, .ref a), (1, .int k9), (2, .int (nI (5 + v1))), (3, .int (nI (1 + v2))), (4, .long (nI v3).toInt64)]) hx hb dL_isKept_90 hl (k := 6) rfl (nI_1 j) (by decide) rfl (fun ls hl => ?_)
      refine lv_goto (tgt := 50) hx hb dL_isKept_93 (by decide) ?_
      refine W.widen (k := 10 + 4 * (j + 1)) (n := 100 + 24 * (j + 1)) (by omega) (by omega) ?_
      refine ih_50 (j + 1) σ2 _ _ _ _ _ (by omega) hV hC (hS.le (by omega)) hw ?_
      have hl := lv_sub hl (l' := [(0, .ref a), (1, .int k9), (2, .int (nI (5 + v1))), (3, .int (nI (1 + v2))), (4, .long (nI v3).toInt64), (6, .int 1), (7, .int (nI (j + 1)))]) [2, 3, 4, 5, 6, 1, 0] rfl
      exact hl
  refine loop_50 (1 + v2) 0 σ1 _ _ _ _ _ (by omega) hV (fun q hq => absurd hq (Nat.not_lt_zero q)) (hS.le (by omega)) hw ?_
  have hl := lv_sub hl (l' := [(0, .ref a), (1, .int k9), (2, .int (nI (5 + v1))), (3, .int (nI (1 + v2))), (4, .long (nI v3).toInt64), (6, .int 1), (7, .int 0)]) [6, 5, 4, 3, 2, 1, 0] rfl
  exact hl
