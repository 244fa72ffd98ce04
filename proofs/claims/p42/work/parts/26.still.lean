theorem hi_L_isStill_L : ∀ w ∈ wsL0, w ∈ wsL_isStill := by decide +kernel
theorem hf_L_isStill_10 : Cond.fieldLink RL 10 (TL 3).1 (TL 3).2.1 (TL 3).2.2.1 ∈ wsL_isStill := by decide +kernel
set_option maxRecDepth 100000 in
set_option maxHeartbeats 4000000 in
theorem c_L_isStill (l : Launch) (hl0 : l.stackTraces = false) (g : zG) (L : List Nat) (f : Nat → va_E) (b n : Nat) (xs : Nat → Int32) (hN : n ≤ 260) (a h : Nat) (σ : ZS) (T : Nat) (hT : T < 5000) (hS : zLs T g b a h σ L f) : zCL l yL_isStill wsL_isStill { frames := 10, cells := 450, slots := 2800, locals := 176 } 450 2800 g b n xs [.ref a] L f (fun r L1 f1 => some (.int 1) = r ∧ ∃ σ1, zLs (T + 20) g b a h σ1 L1 f1) zNo := by
  refine z_ofWL (cc := cL_isStill) (maxL := 6) (ret := (some .boolean)) (by decide) rfl (Nat.le_of_ble_eq_true rfl) ?_
  intro p e s m args below meth c ls A hx hb hr hts hown hlocks hml htab hw hX hXs hbl hbA hl
  have hl : lv_has ls 6 [(0, .ref a)] := hl
  have hown : s.vm.findClass RL = some m.cls := hown
  refine lv_iconst (v := 3) hx hb dL_isStill_0 (by decide) ?_
  refine lv_aload_n hx hb dL_isStill_1 rfl (lv_at hl 0 rfl) ?_
  refine lv_bipush (v := 20) hx hb dL_isStill_2 (by decide) ?_
  refine z_callVL (As := [.int 20]) (rest := [.int 3]) ⟨hx, hb, hml, hown, hts⟩ hw hX hXs hbl hbA hS.cell.choose_spec rfl (c_L_draw l g _ _ b n xs hN a h _ _ (by omega) 20 (by omega) (by omega) hS) (cwV 1 hts gL_isStill_L_draw rfl rfl rfl (by decide +kernel) ⟨(Nat.le_of_ble_eq_true rfl), (Nat.le_of_ble_eq_true rfl)⟩) rfl hl.1 rfl (Nat.le_of_ble_eq_true rfl) dL_isStill_4 ⟨by show _ ≤ (450 : Nat); omega, by show _ ≤ (2800 : Nat); omega⟩ (fun r9 L9 f9 H locs hp hw => ?_)
  obtain ⟨v1, hv1, rfl, hS⟩ := hp
  refine W.eq (g2 := F0 m 7 ls [.int (nI v1), .int 3]) rfl ?_
  refine lv_iadd hx hb dL_isStill_7 ?_
  refine lv_topi (fun y9 hy9 => ?_)
  obtain rfl : y9 = (nI (3 + v1)) := hy9.trans (nI_add 3 v1)
  refine lv_istore_n (lv' := [(1, .int (nI (3 + v1))), (0, .ref a)]) hx hb dL_isStill_8 rfl hl (by decide) rfl (fun ls hl => ?_)
  refine lv_aload_n hx hb dL_isStill_9 rfl (lv_at hl 1 rfl) ?_
  refine zs_x hx hb hts hi_L_isStill_L hown hw hS hf_L_isStill_10 dL_isStill_10 ?_
  refine lv_bipush (v := 7) hx hb dL_isStill_13 (by decide) ?_
  refine lv_bipush (v := 105) hx hb dL_isStill_15 (by decide) ?_
  refine lv_iload_n hx hb dL_isStill_17 rfl (lv_at hl 0 rfl) ?_
  have hk9 : zKind 105 := Or.inl rfl
  have hk := zkd hk9
  obtain ⟨ln, kd, hI⟩ := zs_I hS
  obtain ⟨σ1, w1, d, hd, ho, hV⟩ := v_allocate (i := 7) (n := 3 + v1) hI (by decide) hk9 (by omega)
  refine zs_call (α := Int32) Value.int (As := [.int 7, .int 105, .int (nI (3 + v1))]) (rest := []) ho ⟨hx, hb, hml, hown, hts⟩ hw hX hS (c_X1_allocate l hl0 g _ _ h _ _ 7 105 (nI (3 + v1)) (zs_H hS)) (by decide) (cwV 3 hts gL_isStill_X1_allocate rfl rfl rfl (by decide +kernel) ⟨(Nat.le_of_ble_eq_true rfl), (Nat.le_of_ble_eq_true rfl)⟩) rfl hl.1 rfl (Nat.le_of_ble_eq_true rfl) dL_isStill_18 ⟨by show _ ≤ (450 : Nat); omega, by show _ ≤ (2800 : Nat); omega⟩ (fun L f H locs hS hw => ?_)
  refine W.eq (g2 := F0 m 21 ls [.int w1]) rfl ?_
  refine lv_pop hx hb dL_isStill_21 rfl ?_
  refine lv_aload_n hx hb dL_isStill_22 rfl (lv_at hl 1 rfl) ?_
  refine zs_x hx hb hts hi_L_isStill_L hown hw hS hf_L_isStill_10 dL_isStill_23 ?_
  refine lv_bipush (v := 7) hx hb dL_isStill_26 (by decide) ?_
  refine lv_iload_n hx hb dL_isStill_28 rfl (lv_at hl 0 rfl) ?_
  refine lv_aload_n hx hb dL_isStill_29 rfl (lv_at hl 1 rfl) ?_
  refine lv_sipush (v := 1000) hx hb dL_isStill_30 (by decide) ?_
  refine z_callVL (As := [.int 1000]) (rest := [.int (nI (3 + v1)), .int 7, .ref h]) ⟨hx, hb, hml, hown, hts⟩ hw hX hXs hbl hbA hS.cell.choose_spec rfl (c_L_draw l g _ _ b n xs hN a h _ _ (by omega) 1000 (by omega) (by omega) hS) (cwV 1 hts gL_isStill_L_draw rfl rfl rfl (by decide +kernel) ⟨(Nat.le_of_ble_eq_true rfl), (Nat.le_of_ble_eq_true rfl)⟩) rfl hl.1 rfl (Nat.le_of_ble_eq_true rfl) dL_isStill_33 ⟨by show _ ≤ (450 : Nat); omega, by show _ ≤ (2800 : Nat); omega⟩ (fun r9 L9 f9 H locs hp hw => ?_)
  obtain ⟨v2, hv2, rfl, hS⟩ := hp
  refine W.eq (g2 := F0 m 36 ls [.int (nI v2), .int (nI (3 + v1)), .int 7, .ref h]) rfl ?_
  refine lv_i2l (v := (nI v2).toInt64) hx hb dL_isStill_36 rfl ?_
  refine lv_ldc2 (v := 3) hx hb hown (hts (.constantLong RL 133 3) (by decide +kernel)) dL_isStill_37 ?_
  obtain ⟨σ2, ho, hV, -, hC⟩ := v_fill (n := 3 + v1) hV (by decide) hk hd (by omega) (by omega) (nI v2).toInt64 3
  simp only [Nat.zero_add, Nat.add_zero, Nat.sub_zero] at ho hV hC
  have hC : ∀ q, q < 3 + v1 → zST σ2 (64 * d + (0 + q)) = zcut 105 ((nI v2).toInt64 + (nI q).toInt64 * 3) := fun q hq => by
    rw [Nat.zero_add]
    exact hC q hq
  refine zs_call (α := Int32) Value.int (As := [.int 7, .int (nI (3 + v1)), .long (nI v2).toInt64, .long 3]) (rest := []) ho ⟨hx, hb, hml, hown, hts⟩ hw hX hS (c_X1_fill l hl0 g _ _ h _ _ 7 (nI (3 + v1)) ((nI v2).toInt64) 3 (zs_H hS)) (by decide) (cwV 4 hts gL_isStill_X1_fill rfl rfl rfl (by decide +kernel) ⟨(Nat.le_of_ble_eq_true rfl), (Nat.le_of_ble_eq_true rfl)⟩) rfl hl.1 rfl (Nat.le_of_ble_eq_true rfl) dL_isStill_40 ⟨by show _ ≤ (450 : Nat); omega, by show _ ≤ (2800 : Nat); omega⟩ (fun L f H locs hS hw => ?_)
  refine W.eq (g2 := F0 m 43 ls [.int (nI (3 + v1))]) rfl ?_
  refine lv_iload_n hx hb dL_isStill_43 rfl (lv_at hl 0 rfl) ?_
  refine lv_icmp_ne (tgt := 78) hx hb dL_isStill_44 (by decide) (fun c9 => absurd (rfl) c9) (fun _ => ?_)
  refine lv_aload_n hx hb dL_isStill_47 rfl (lv_at hl 1 rfl) ?_
  refine zs_x hx hb hts hi_L_isStill_L hown hw hS hf_L_isStill_10 dL_isStill_48 ?_
  refine lv_bipush (v := 7) hx hb dL_isStill_51 (by decide) ?_
  refine lv_bipush (v := 6) hx hb dL_isStill_53 (by decide) ?_
  obtain ⟨σ3, ho, hW, hO, hst⟩ := v_duplicate (j := 6) hV (by decide) hk (by decide) (by omega)
  have hV := hV.ot hO (by decide)
  have hC := fun q hq => (congrFun hst _).trans (hC q hq)
  refine zs_call (α := Int32) Value.int (As := [.int 7, .int 6]) (rest := []) ho ⟨hx, hb, hml, hown, hts⟩ hw hX hS (c_X1_duplicate l hl0 g _ _ h _ _ 7 6 (zs_H hS)) (by decide) (cwV 2 hts gL_isStill_X1_duplicate rfl rfl rfl (by decide +kernel) ⟨(Nat.le_of_ble_eq_true rfl), (Nat.le_of_ble_eq_true rfl)⟩) rfl hl.1 rfl (Nat.le_of_ble_eq_true rfl) dL_isStill_55 ⟨by show _ ≤ (450 : Nat); omega, by show _ ≤ (2800 : Nat); omega⟩ (fun L f H locs hS hw => ?_)
  refine W.eq (g2 := F0 m 58 ls [.int (nI (3 + v1 - (3 + v1)))]) rfl ?_
  refine lv_if_ne (tgt := 78) hx hb dL_isStill_58 (by decide) (fun c9 => absurd (by rw [Nat.sub_self]; exact nI_0) c9) (fun _ => ?_)
  refine lv_aload_n hx hb dL_isStill_61 rfl (lv_at hl 1 rfl) ?_
  refine zs_x hx hb hts hi_L_isStill_L hown hw hS hf_L_isStill_10 dL_isStill_62 ?_
  refine lv_bipush (v := 6) hx hb dL_isStill_65 (by decide) ?_
  obtain ⟨σ4, ho, hW, hO, hst⟩ := v_clear hW (by decide) hk
  have hV := hV.ot hO (by decide)
  have hC := fun q hq => (congrFun hst _).trans (hC q hq)
  refine zs_call (α := Int32) Value.int (As := [.int 6]) (rest := []) ho ⟨hx, hb, hml, hown, hts⟩ hw hX hS (c_X1_clear l hl0 g _ _ h _ _ 6 (zs_H hS)) (by decide) (cwV 1 hts gL_isStill_X1_clear rfl rfl rfl (by decide +kernel) ⟨(Nat.le_of_ble_eq_true rfl), (Nat.le_of_ble_eq_true rfl)⟩) rfl hl.1 rfl (Nat.le_of_ble_eq_true rfl) dL_isStill_67 ⟨by show _ ≤ (450 : Nat); omega, by show _ ≤ (2800 : Nat); omega⟩ (fun L f H locs hS hw => ?_)
  refine W.eq (g2 := F0 m 70 ls [.int (nI (3 + v1))]) rfl ?_
  refine lv_iload_n hx hb dL_isStill_70 rfl (lv_at hl 0 rfl) ?_
  refine lv_icmp_ne (tgt := 78) hx hb dL_isStill_71 (by decide) (fun c9 => absurd (rfl) c9) (fun _ => ?_)
  refine lv_iconst (v := 1) hx hb dL_isStill_74 (by decide) ?_
  refine lv_goto (tgt := 79) hx hb dL_isStill_75 (by decide) ?_
  refine lv_istore_n (lv' := [(2, .int 1), (1, .int (nI (3 + v1))), (0, .ref a)]) hx hb dL_isStill_79 rfl hl (by decide) rfl (fun ls hl => ?_)
  refine lv_iconst (v := 0) hx hb dL_isStill_80 (by decide) ?_
  refine lv_istore_n (lv' := [(3, .int 0), (2, .int 1), (1, .int (nI (3 + v1))), (0, .ref a)]) hx hb dL_isStill_81 rfl hl (by decide) rfl (fun ls hl => ?_)
  refine W.widen (k := 20) (n := 150) (by omega) (by omega) ?_
  have loop_82 : ∀ (n9 : Nat) (j : Nat) (σ : ZS) (pl : Nat) (en : Nat) (mk : Int32) (L : List Nat) (f : Nat → va_E) (H : Heap) (locs : List Loc) (ls : Array Slot), (j + n9 = 6) → (zV σ 7 105 d 0 (3 + v1) pl en mk 0) → (pl ≤ en) → (en ≤ 3 + v1) → (zV σ 6 105 d 0 (3 + v1) 0 (3 + v1) (-1) 0) → (∀ q, q < 3 + v1 → zST σ (64 * d + (0 + q)) = zcut 105 ((nI v2).toInt64 + (nI q).toInt64 * 3)) → zLs (T + 2 + 2 * j) g b a h σ L f → zW g A s L f H locs → lv_has ls 6 [(0, .ref a), (1, .int (nI (3 + v1))), (2, .int 1), (3, .int (nI j))] → W p l e { frames := 10, cells := 450, slots := 2800, locals := 176 } s m args below meth c H locs (20 + 30 * j) (150 + 180 * j) (vx_MQ below (zQ g A (fun r L1 f1 => some (.int 1) = r ∧ ∃ σ1, zLs (T + 20) g b a h σ1 L1 f1)) (zXC g A zNo) args s 450 2800 A) (F0 m 82 ls []) := by
    intro n9
    induction n9 with
    | zero =>
      intro j σ pl en mk L f H locs ls hj hV h1 h2 hW hC hS hw hl
      refine lv_iload_n hx hb dL_isStill_82 rfl (lv_at hl 3 rfl) ?_
      refine lv_bipush (v := 6) hx hb dL_isStill_83 (by decide) ?_
      refine lv_icmp_ge (tgt := 419) hx hb dL_isStill_85 (by decide) (fun _ => ?_) (fun c9 => absurd ((nI_leI (a := 6) (by omega) (by omega)).mpr (by omega)) c9)
      refine lv_iload_n hx hb dL_isStill_419 rfl (lv_at hl 2 rfl) ?_
      refine lv_if_eq (tgt := 454) hx hb dL_isStill_420 (by decide) (fun c_1 => absurd c_1 (by decide)) (fun c_1 => ?_)
      refine lv_aload_n hx hb dL_isStill_423 rfl (lv_at hl 0 rfl) ?_
      refine zs_x hx hb hts hi_L_isStill_L hown hw hS hf_L_isStill_10 dL_isStill_424 ?_
      refine lv_bipush (v := 7) hx hb dL_isStill_427 (by decide) ?_
      obtain ⟨σ8, ho, hV, hO, hst⟩ := v_clear hV (by decide) hk
      have hW := hW.ot hO (by decide)
      have hC := fun q hq => (congrFun hst _).trans (hC q hq)
      refine zs_call (α := Int32) Value.int (As := [.int 7]) (rest := []) ho ⟨hx, hb, hml, hown, hts⟩ hw hX hS (c_X1_clear l hl0 g _ _ h _ _ 7 (zs_H hS)) (by decide) (cwV 1 hts gL_isStill_X1_clear rfl rfl rfl (by decide +kernel) ⟨(Nat.le_of_ble_eq_true rfl), (Nat.le_of_ble_eq_true rfl)⟩) rfl hl.1 rfl (Nat.le_of_ble_eq_true rfl) dL_isStill_429 ⟨by show _ ≤ (450 : Nat); omega, by show _ ≤ (2800 : Nat); omega⟩ (fun L f H locs hS hw => ?_)
      refine W.eq (g2 := F0 m 432 ls [.int (nI (3 + v1))]) rfl ?_
      refine lv_iload_n hx hb dL_isStill_432 rfl (lv_at hl 1 rfl) ?_
      refine lv_icmp_ne (tgt := 454) hx hb dL_isStill_433 (by decide) (fun c9 => absurd (rfl) c9) (fun _ => ?_)
      refine lv_aload_n hx hb dL_isStill_436 rfl (lv_at hl 0 rfl) ?_
      refine zs_x hx hb hts hi_L_isStill_L hown hw hS hf_L_isStill_10 dL_isStill_437 ?_
      refine lv_bipush (v := 6) hx hb dL_isStill_440 (by decide) ?_
      refine lv_bipush (v := 7) hx hb dL_isStill_442 (by decide) ?_
      refine zs_call (α := Int32) Value.int (As := [.int 6, .int 7]) (rest := []) (v_isAlike hW hV (by decide) (by decide) hk) ⟨hx, hb, hml, hown, hts⟩ hw hX hS (c_X1_isAlike l hl0 g _ _ h _ _ 6 7 (zs_H hS)) (by decide) (cwV 2 hts gL_isStill_X1_isAlike rfl rfl rfl (by decide +kernel) ⟨(Nat.le_of_ble_eq_true rfl), (Nat.le_of_ble_eq_true rfl)⟩) rfl hl.1 rfl (Nat.le_of_ble_eq_true rfl) dL_isStill_444 ⟨by show _ ≤ (450 : Nat); omega, by show _ ≤ (2800 : Nat); omega⟩ (fun L f H locs hS hw => ?_)
      refine W.eq (g2 := F0 m 447 ls [.int 1]) rfl ?_
      refine lv_if_eq (tgt := 454) hx hb dL_isStill_447 (by decide) (fun c_2 => absurd c_2 (by decide)) (fun c_2 => ?_)
      refine lv_iconst (v := 1) hx hb dL_isStill_450 (by decide) ?_
      refine lv_goto (tgt := 455) hx hb dL_isStill_451 (by decide) ?_
      refine lv_istore_n (lv' := [(2, .int 1), (0, .ref a), (1, .int (nI (3 + v1))), (3, .int (nI j))]) hx hb dL_isStill_455 rfl hl (by decide) rfl (fun ls hl => ?_)
      refine lv_iconst (v := 1) hx hb dL_isStill_456 (by decide) ?_
      refine lv_istore_n (lv' := [(3, .int 1), (2, .int 1), (0, .ref a), (1, .int (nI (3 + v1)))]) hx hb dL_isStill_457 rfl hl (by decide) rfl (fun ls hl => ?_)
      refine W.widen (k := 230) (n := 1400) (by omega) (by omega) ?_
      have loop_458 : ∀ (n9 : Nat) (j : Nat) (L : List Nat) (f : Nat → va_E) (H : Heap) (locs : List Loc) (ls : Array Slot), (j + n9 = 3 + v1 - 1) → zLs (T + 14) g b a h σ8 L f → zW g A s L f H locs → lv_has ls 6 [(0, .ref a), (1, .int (nI (3 + v1))), (2, .int 1), (3, .int (nI (1 + j)))] → W p l e { frames := 10, cells := 450, slots := 2800, locals := 176 } s m args below meth c H locs (230 + 6 * j) (1400 + 36 * j) (vx_MQ below (zQ g A (fun r L1 f1 => some (.int 1) = r ∧ ∃ σ1, zLs (T + 20) g b a h σ1 L1 f1)) (zXC g A zNo) args s 450 2800 A) (F0 m 458 ls []) := by
        intro n9
        induction n9 with
        | zero =>
          intro j L f H locs ls hj hS hw hl
          refine lv_iload_n hx hb dL_isStill_458 rfl (lv_at hl 3 rfl) ?_
          refine lv_iload_n hx hb dL_isStill_459 rfl (lv_at hl 1 rfl) ?_
          refine lv_icmp_ge (tgt := 509) hx hb dL_isStill_460 (by decide) (fun _ => ?_) (fun c9 => absurd ((nI_leI (by omega) (by omega)).mpr (by omega)) c9)
          refine lv_iload_n hx hb dL_isStill_509 rfl (lv_at hl 2 rfl) ?_
          exact z_zret hx hb hr hlocks rfl hw (by omega) (by omega) dL_isStill_510 ⟨rfl, σ8, hS.le (by omega)⟩
        | succ n9 ih_458 =>
          intro j L f H locs ls hj hS hw hl
          refine lv_iload_n hx hb dL_isStill_458 rfl (lv_at hl 3 rfl) ?_
          refine lv_iload_n hx hb dL_isStill_459 rfl (lv_at hl 1 rfl) ?_
          refine lv_icmp_ge (tgt := 509) hx hb dL_isStill_460 (by decide) (fun c9 => absurd c9 (nI_ge (by omega) (by omega))) (fun _ => ?_)
          refine lv_iload_n hx hb dL_isStill_463 rfl (lv_at hl 2 rfl) ?_
          refine lv_if_eq (tgt := 509) hx hb dL_isStill_464 (by decide) (fun c_3 => absurd c_3 (by decide)) (fun c_3 => ?_)
          refine lv_aload_n hx hb dL_isStill_467 rfl (lv_at hl 0 rfl) ?_
          refine zs_x hx hb hts hi_L_isStill_L hown hw hS hf_L_isStill_10 dL_isStill_468 ?_
          refine lv_bipush (v := 7) hx hb dL_isStill_471 (by decide) ?_
          refine lv_iload_n hx hb dL_isStill_473 rfl (lv_at hl 3 rfl) ?_
          refine zs_call (α := Int64) Value.long (As := [.int 7, .int (nI (1 + j))]) (rest := []) (v_getAt (q := 1 + j) hV (by decide) hk hd (by omega) (by omega)) ⟨hx, hb, hml, hown, hts⟩ hw hX hS (c_X1_getAt l hl0 g _ _ h _ _ 7 (nI (1 + j)) (zs_H hS)) (by decide) (cwV 2 hts gL_isStill_X1_getAt rfl rfl rfl (by decide +kernel) ⟨(Nat.le_of_ble_eq_true rfl), (Nat.le_of_ble_eq_true rfl)⟩) rfl hl.1 rfl (Nat.le_of_ble_eq_true rfl) dL_isStill_474 ⟨by show _ ≤ (450 : Nat); omega, by show _ ≤ (2800 : Nat); omega⟩ (fun L f H locs hS hw => ?_)
          refine W.eq (g2 := F0 m 477 ls [.long (zST σ8 (64 * d + (0 + (1 + j))))]) rfl ?_
          refine lv_aload_n hx hb dL_isStill_477 rfl (lv_at hl 0 rfl) ?_
          refine zs_x hx hb hts hi_L_isStill_L hown hw hS hf_L_isStill_10 dL_isStill_478 ?_
          refine lv_bipush (v := 7) hx hb dL_isStill_481 (by decide) ?_
          refine lv_iload_n hx hb dL_isStill_483 rfl (lv_at hl 3 rfl) ?_
          refine lv_iconst (v := 1) hx hb dL_isStill_484 (by decide) ?_
          refine lv_isub hx hb dL_isStill_485 ?_
          refine lv_topi (fun y9 hy9 => ?_)
          obtain rfl : y9 = (nI ((1 + j) - 1)) := hy9.trans (pk_sub (a := (1 + j)) (b := 1) (by omega))
          refine zs_call (α := Int64) Value.long (As := [.int 7, .int (nI ((1 + j) - 1))]) (rest := [.long (zST σ8 (64 * d + (0 + (1 + j))))]) (v_getAt (q := 1 + j - 1) hV (by decide) hk hd (by omega) (by omega)) ⟨hx, hb, hml, hown, hts⟩ hw hX hS (c_X1_getAt l hl0 g _ _ h _ _ 7 (nI ((1 + j) - 1)) (zs_H hS)) (by decide) (cwV 2 hts gL_isStill_X1_getAt rfl rfl rfl (by decide +kernel) ⟨(Nat.le_of_ble_eq_true rfl), (Nat.le_of_ble_eq_true rfl)⟩) rfl hl.1 rfl (Nat.le_of_ble_eq_true rfl) dL_isStill_486 ⟨by show _ ≤ (450 : Nat); omega, by show _ ≤ (2800 : Nat); omega⟩ (fun L f H locs hS hw => ?_)
          refine W.eq (g2 := F0 m 489 ls [.long (zST σ8 (64 * d + (0 + (1 + j - 1)))), .long (zST σ8 (64 * d + (0 + (1 + j))))]) rfl ?_
          refine lv_ldc2 (v := 3) hx hb hown (hts (.constantLong RL 133 3) (by decide +kernel)) dL_isStill_489 ?_
          refine lv_ladd hx hb dL_isStill_492 ?_
          refine W.lcmp hx hb dL_isStill_493 ?_
          refine lv_if_ne (tgt := 501) hx hb dL_isStill_494 (by decide) (fun c9 => absurd (zcmp0.mpr (by rw [hC (1 + j) (by omega), hC (1 + j - 1) (by omega), z_fl (by omega), z_fl (by omega), show (3 : Int64) = lN 3 from rfl, lN_add]; exact congrArg lN (by omega))) c9) (fun _ => ?_)
          refine lv_iconst (v := 1) hx hb dL_isStill_497 (by decide) ?_
          refine lv_goto (tgt := 502) hx hb dL_isStill_498 (by decide) ?_
          refine lv_istore_n (lv' := [(2, .int 1), (0, .ref a), (1, .int (nI (3 + v1))), (3, .int (nI (1 + j)))]) hx hb dL_isStill_502 rfl hl (by decide) rfl (fun ls hl => ?_)
          refine lv_iinc (v := (nI ((1 + j) + 1))) (lv' := [(3, .int (nI ((1 + j) + 1))), (2, .int 1), (0, .ref a), (1, .int (nI (3 + v1)))]) hx hb dL_isStill_503 hl (k := 3) rfl (nI_1 (1 + j)) (by decide) rfl (fun ls hl => ?_)
          refine lv_goto (tgt := 458) hx hb dL_isStill_506 (by decide) ?_
          refine W.widen (k := 230 + 6 * (j + 1)) (n := 1400 + 36 * (j + 1)) (by omega) (by omega) ?_
          refine ih_458 (j + 1) _ _ _ _ _ (by omega) (hS.le (by omega)) hw ?_
          have hl := lv_sub hl (l' := [(0, .ref a), (1, .int (nI (3 + v1))), (2, .int 1), (3, .int (nI ((1 + j) + 1)))]) [2, 3, 1, 0] rfl
          exact hl
      refine loop_458 (3 + v1 - 1) 0 _ _ _ _ _ (by omega) (hS.le (by omega)) hw ?_
      have hl := lv_sub hl (l' := [(0, .ref a), (1, .int (nI (3 + v1))), (2, .int 1), (3, .int 1)]) [2, 3, 1, 0] rfl
      exact hl
    | succ n9 ih_82 =>
      intro j σ pl en mk L f H locs ls hj hV h1 h2 hW hC hS hw hl
      refine lv_iload_n hx hb dL_isStill_82 rfl (lv_at hl 3 rfl) ?_
      refine lv_bipush (v := 6) hx hb dL_isStill_83 (by decide) ?_
      refine lv_icmp_ge (tgt := 419) hx hb dL_isStill_85 (by decide) (fun c9 => absurd c9 (nI_ge (b := 6) (by omega) (by omega))) (fun _ => ?_)
      refine lv_iload_n hx hb dL_isStill_88 rfl (lv_at hl 2 rfl) ?_
      refine lv_if_eq (tgt := 419) hx hb dL_isStill_89 (by decide) (fun c_4 => absurd c_4 (by decide)) (fun c_4 => ?_)
      refine lv_aload_n hx hb dL_isStill_92 rfl (lv_at hl 0 rfl) ?_
      refine lv_bipush (v := 6) hx hb dL_isStill_93 (by decide) ?_
      refine z_callVL (As := [.int 6]) (rest := []) ⟨hx, hb, hml, hown, hts⟩ hw hX hXs hbl hbA hS.cell.choose_spec rfl (c_L_draw l g _ _ b n xs hN a h _ _ (by omega) 6 (by omega) (by omega) hS) (cwV 1 hts gL_isStill_L_draw rfl rfl rfl (by decide +kernel) ⟨(Nat.le_of_ble_eq_true rfl), (Nat.le_of_ble_eq_true rfl)⟩) rfl hl.1 rfl (Nat.le_of_ble_eq_true rfl) dL_isStill_95 ⟨by show _ ≤ (450 : Nat); omega, by show _ ≤ (2800 : Nat); omega⟩ (fun r9 L9 f9 H locs hp hw => ?_)
      obtain ⟨v3, hv3, rfl, hS⟩ := hp
      refine W.eq (g2 := F0 m 98 ls [.int (nI v3)]) rfl ?_
      have join_330 : ∀ (σ : ZS) (pl : Nat) (en : Nat) (mk : Int32) (L : List Nat) (f : Nat → va_E) (H : Heap) (locs : List Loc) (ls : Array Slot), (zV σ 7 105 d 0 (3 + v1) pl en mk 0) → (pl ≤ en) → (en ≤ 3 + v1) → (zV σ 6 105 d 0 (3 + v1) 0 (3 + v1) (-1) 0) → (∀ q, q < 3 + v1 → zST σ (64 * d + (0 + q)) = zcut 105 ((nI v2).toInt64 + (nI q).toInt64 * 3)) → zLs (T + 2 + 2 * j + 2) g b a h σ L f → zW g A s L f H locs → lv_has ls 6 [(0, .ref a), (1, .int (nI (3 + v1))), (2, .int 1), (3, .int (nI j))] → W p l e { frames := 10, cells := 450, slots := 2800, locals := 176 } s m args below meth c H locs (20 + 30 * j + 16) (150 + 180 * j + 96) (vx_MQ below (zQ g A (fun r L1 f1 => some (.int 1) = r ∧ ∃ σ1, zLs (T + 20) g b a h σ1 L1 f1)) (zXC g A zNo) args s 450 2800 A) (F0 m 330 ls []) := by
        intro σ pl en mk L f H locs ls hV h1 h2 hW hC hS hw hl
        refine lv_iload_n hx hb dL_isStill_330 rfl (lv_at hl 2 rfl) ?_
        refine lv_if_eq (tgt := 411) hx hb dL_isStill_331 (by decide) (fun c_5 => absurd c_5 (by decide)) (fun c_5 => ?_)
        refine lv_aload_n hx hb dL_isStill_334 rfl (lv_at hl 0 rfl) ?_
        refine zs_x hx hb hts hi_L_isStill_L hown hw hS hf_L_isStill_10 dL_isStill_335 ?_
        refine lv_bipush (v := 7) hx hb dL_isStill_338 (by decide) ?_
        refine zs_call (α := Int32) Value.int (As := [.int 7]) (rest := []) (v_place hV (by decide) hk) ⟨hx, hb, hml, hown, hts⟩ hw hX hS (c_X1_place l hl0 g _ _ h _ _ 7 (zs_H hS)) (by decide) (cwV 1 hts gL_isStill_X1_place rfl rfl rfl (by decide +kernel) ⟨(Nat.le_of_ble_eq_true rfl), (Nat.le_of_ble_eq_true rfl)⟩) rfl hl.1 rfl (Nat.le_of_ble_eq_true rfl) dL_isStill_340 ⟨by show _ ≤ (450 : Nat); omega, by show _ ≤ (2800 : Nat); omega⟩ (fun L f H locs hS hw => ?_)
        refine W.eq (g2 := F0 m 343 ls [.int (nI pl)]) rfl ?_
        refine lv_aload_n hx hb dL_isStill_343 rfl (lv_at hl 0 rfl) ?_
        refine zs_x hx hb hts hi_L_isStill_L hown hw hS hf_L_isStill_10 dL_isStill_344 ?_
        refine lv_bipush (v := 7) hx hb dL_isStill_347 (by decide) ?_
        refine zs_call (α := Int32) Value.int (As := [.int 7]) (rest := [.int (nI pl)]) (v_end hV (by decide) hk) ⟨hx, hb, hml, hown, hts⟩ hw hX hS (c_X1_end l hl0 g _ _ h _ _ 7 (zs_H hS)) (by decide) (cwV 1 hts gL_isStill_X1_end rfl rfl rfl (by decide +kernel) ⟨(Nat.le_of_ble_eq_true rfl), (Nat.le_of_ble_eq_true rfl)⟩) rfl hl.1 rfl (Nat.le_of_ble_eq_true rfl) dL_isStill_349 ⟨by show _ ≤ (450 : Nat); omega, by show _ ≤ (2800 : Nat); omega⟩ (fun L f H locs hS hw => ?_)
        refine W.eq (g2 := F0 m 352 ls [.int (nI en), .int (nI pl)]) rfl ?_
        refine lv_icmp_gt (tgt := 411) hx hb dL_isStill_352 (by decide) (fun c9 => absurd c9 (nI_nlt (by omega) (by omega))) (fun _ => ?_)
        refine lv_aload_n hx hb dL_isStill_355 rfl (lv_at hl 0 rfl) ?_
        refine zs_x hx hb hts hi_L_isStill_L hown hw hS hf_L_isStill_10 dL_isStill_356 ?_
        refine lv_bipush (v := 7) hx hb dL_isStill_359 (by decide) ?_
        refine zs_call (α := Int32) Value.int (As := [.int 7]) (rest := []) (v_end hV (by decide) hk) ⟨hx, hb, hml, hown, hts⟩ hw hX hS (c_X1_end l hl0 g _ _ h _ _ 7 (zs_H hS)) (by decide) (cwV 1 hts gL_isStill_X1_end rfl rfl rfl (by decide +kernel) ⟨(Nat.le_of_ble_eq_true rfl), (Nat.le_of_ble_eq_true rfl)⟩) rfl hl.1 rfl (Nat.le_of_ble_eq_true rfl) dL_isStill_361 ⟨by show _ ≤ (450 : Nat); omega, by show _ ≤ (2800 : Nat); omega⟩ (fun L f H locs hS hw => ?_)
        refine W.eq (g2 := F0 m 364 ls [.int (nI en)]) rfl ?_
        refine lv_aload_n hx hb dL_isStill_364 rfl (lv_at hl 0 rfl) ?_
        refine zs_x hx hb hts hi_L_isStill_L hown hw hS hf_L_isStill_10 dL_isStill_365 ?_
        refine lv_bipush (v := 7) hx hb dL_isStill_368 (by decide) ?_
        refine zs_call (α := Int32) Value.int (As := [.int 7]) (rest := [.int (nI en)]) (v_capacity hV (by decide) hk) ⟨hx, hb, hml, hown, hts⟩ hw hX hS (c_X1_capacity l hl0 g _ _ h _ _ 7 (zs_H hS)) (by decide) (cwV 1 hts gL_isStill_X1_capacity rfl rfl rfl (by decide +kernel) ⟨(Nat.le_of_ble_eq_true rfl), (Nat.le_of_ble_eq_true rfl)⟩) rfl hl.1 rfl (Nat.le_of_ble_eq_true rfl) dL_isStill_370 ⟨by show _ ≤ (450 : Nat); omega, by show _ ≤ (2800 : Nat); omega⟩ (fun L f H locs hS hw => ?_)
        refine W.eq (g2 := F0 m 373 ls [.int (nI (3 + v1)), .int (nI en)]) rfl ?_
        refine lv_icmp_gt (tgt := 411) hx hb dL_isStill_373 (by decide) (fun c9 => absurd c9 (nI_nlt (by omega) (by omega))) (fun _ => ?_)
        refine lv_aload_n hx hb dL_isStill_376 rfl (lv_at hl 0 rfl) ?_
        refine zs_x hx hb hts hi_L_isStill_L hown hw hS hf_L_isStill_10 dL_isStill_377 ?_
        refine lv_bipush (v := 7) hx hb dL_isStill_380 (by decide) ?_
        refine zs_call (α := Int32) Value.int (As := [.int 7]) (rest := []) (v_left hV (by decide) hk (by omega)) ⟨hx, hb, hml, hown, hts⟩ hw hX hS (c_X1_left l hl0 g _ _ h _ _ 7 (zs_H hS)) (by decide) (cwV 1 hts gL_isStill_X1_left rfl rfl rfl (by decide +kernel) ⟨(Nat.le_of_ble_eq_true rfl), (Nat.le_of_ble_eq_true rfl)⟩) rfl hl.1 rfl (Nat.le_of_ble_eq_true rfl) dL_isStill_382 ⟨by show _ ≤ (450 : Nat); omega, by show _ ≤ (2800 : Nat); omega⟩ (fun L f H locs hS hw => ?_)
        refine W.eq (g2 := F0 m 385 ls [.int (nI (en - pl))]) rfl ?_
        refine lv_aload_n hx hb dL_isStill_385 rfl (lv_at hl 0 rfl) ?_
        refine zs_x hx hb hts hi_L_isStill_L hown hw hS hf_L_isStill_10 dL_isStill_386 ?_
        refine lv_bipush (v := 7) hx hb dL_isStill_389 (by decide) ?_
        refine zs_call (α := Int32) Value.int (As := [.int 7]) (rest := [.int (nI (en - pl))]) (v_end hV (by decide) hk) ⟨hx, hb, hml, hown, hts⟩ hw hX hS (c_X1_end l hl0 g _ _ h _ _ 7 (zs_H hS)) (by decide) (cwV 1 hts gL_isStill_X1_end rfl rfl rfl (by decide +kernel) ⟨(Nat.le_of_ble_eq_true rfl), (Nat.le_of_ble_eq_true rfl)⟩) rfl hl.1 rfl (Nat.le_of_ble_eq_true rfl) dL_isStill_391 ⟨by show _ ≤ (450 : Nat); omega, by show _ ≤ (2800 : Nat); omega⟩ (fun L f H locs hS hw => ?_)
        refine W.eq (g2 := F0 m 394 ls [.int (nI en), .int (nI (en - pl))]) rfl ?_
        refine lv_aload_n hx hb dL_isStill_394 rfl (lv_at hl 0 rfl) ?_
        refine zs_x hx hb hts hi_L_isStill_L hown hw hS hf_L_isStill_10 dL_isStill_395 ?_
        refine lv_bipush (v := 7) hx hb dL_isStill_398 (by decide) ?_
        refine zs_call (α := Int32) Value.int (As := [.int 7]) (rest := [.int (nI en), .int (nI (en - pl))]) (v_place hV (by decide) hk) ⟨hx, hb, hml, hown, hts⟩ hw hX hS (c_X1_place l hl0 g _ _ h _ _ 7 (zs_H hS)) (by decide) (cwV 1 hts gL_isStill_X1_place rfl rfl rfl (by decide +kernel) ⟨(Nat.le_of_ble_eq_true rfl), (Nat.le_of_ble_eq_true rfl)⟩) rfl hl.1 rfl (Nat.le_of_ble_eq_true rfl) dL_isStill_400 ⟨by show _ ≤ (450 : Nat); omega, by show _ ≤ (2800 : Nat); omega⟩ (fun L f H locs hS hw => ?_)
        refine W.eq (g2 := F0 m 403 ls [.int (nI pl), .int (nI en), .int (nI (en - pl))]) rfl ?_
        refine lv_isub hx hb dL_isStill_403 ?_
        refine lv_topi (fun y9 hy9 => ?_)
        obtain rfl : y9 = (nI (en - pl)) := hy9.trans (pk_sub (a := en) (b := pl) (by omega))
        refine lv_icmp_ne (tgt := 411) hx hb dL_isStill_404 (by decide) (fun c9 => absurd (rfl) c9) (fun _ => ?_)
        refine lv_iconst (v := 1) hx hb dL_isStill_407 (by decide) ?_
        refine lv_goto (tgt := 412) hx hb dL_isStill_408 (by decide) ?_
        refine lv_istore_n (lv' := [(2, .int 1), (0, .ref a), (1, .int (nI (3 + v1))), (3, .int (nI j))]) hx hb dL_isStill_412 rfl hl (by decide) rfl (fun ls hl => ?_)
        refine lv_iinc (v := (nI (j + 1))) (lv' := [(3, .int (nI (j + 1))), (2, .int 1), (0, .ref a), (1, .int (nI (3 + v1)))]) hx hb dL_isStill_413 hl (k := 3) rfl (nI_1 j) (by decide) rfl (fun ls hl => ?_)
        refine lv_goto (tgt := 82) hx hb dL_isStill_416 (by decide) ?_
        refine W.widen (k := 20 + 30 * (j + 1)) (n := 150 + 180 * (j + 1)) (by omega) (by omega) ?_
        refine ih_82 (j + 1) σ pl en mk _ _ _ _ _ (by omega) hV h1 h2 hW hC (hS.le (by omega)) hw ?_
        have hl := lv_sub hl (l' := [(0, .ref a), (1, .int (nI (3 + v1))), (2, .int 1), (3, .int (nI (j + 1)))]) [2, 3, 1, 0] rfl
        exact hl
      refine lv_istore (lv' := [(4, .int (nI v3)), (0, .ref a), (1, .int (nI (3 + v1))), (2, .int 1), (3, .int (nI j))]) hx hb dL_isStill_98 hl (by decide) rfl (fun ls hl => ?_)
      refine lv_iload hx hb dL_isStill_100 (lv_at hl 0 rfl) ?_
      refine lv_if_ne (tgt := 141) hx hb dL_isStill_102 (by decide) (fun c_6 => ?_) (fun c_6 => ?_)
      · refine lv_iload hx hb dL_isStill_141 (lv_at hl 0 rfl) ?_
        refine lv_iconst (v := 1) hx hb dL_isStill_143 (by decide) ?_
        refine lv_icmp_ne (tgt := 175) hx hb dL_isStill_144 (by decide) (fun c_7 => ?_) (fun c_7 => ?_)
        · refine lv_iload hx hb dL_isStill_175 (lv_at hl 0 rfl) ?_
          refine lv_iconst (v := 2) hx hb dL_isStill_177 (by decide) ?_
          refine lv_icmp_ne (tgt := 227) hx hb dL_isStill_178 (by decide) (fun c_8 => ?_) (fun c_8 => ?_)
          · refine lv_iload hx hb dL_isStill_227 (lv_at hl 0 rfl) ?_
            refine lv_iconst (v := 3) hx hb dL_isStill_229 (by decide) ?_
            refine lv_icmp_ne (tgt := 263) hx hb dL_isStill_230 (by decide) (fun c_9 => ?_) (fun c_9 => ?_)
            · refine lv_iload hx hb dL_isStill_263 (lv_at hl 0 rfl) ?_
              refine lv_iconst (v := 4) hx hb dL_isStill_265 (by decide) ?_
              refine lv_icmp_ne (tgt := 291) hx hb dL_isStill_266 (by decide) (fun c_10 => ?_) (fun c_10 => ?_)
              · refine lv_aload_n hx hb dL_isStill_291 rfl (lv_at hl 1 rfl) ?_
                refine zs_x hx hb hts hi_L_isStill_L hown hw hS hf_L_isStill_10 dL_isStill_292 ?_
                refine lv_bipush (v := 7) hx hb dL_isStill_295 (by decide) ?_
                obtain ⟨σ5, ho, hV, hO, hst⟩ := v_flip hV (by decide) hk
                have hW := hW.ot hO (by decide)
                have hC := fun q hq => (congrFun hst _).trans (hC q hq)
                refine zs_call (α := Int32) Value.int (As := [.int 7]) (rest := []) ho ⟨hx, hb, hml, hown, hts⟩ hw hX hS (c_X1_flip l hl0 g _ _ h _ _ 7 (zs_H hS)) (by decide) (cwV 1 hts gL_isStill_X1_flip rfl rfl rfl (by decide +kernel) ⟨(Nat.le_of_ble_eq_true rfl), (Nat.le_of_ble_eq_true rfl)⟩) rfl hl.1 rfl (Nat.le_of_ble_eq_true rfl) dL_isStill_297 ⟨by show _ ≤ (450 : Nat); omega, by show _ ≤ (2800 : Nat); omega⟩ (fun L f H locs hS hw => ?_)
                refine W.eq (g2 := F0 m 300 ls [.int (nI pl)]) rfl ?_
                refine lv_aload_n hx hb dL_isStill_300 rfl (lv_at hl 1 rfl) ?_
                refine zs_x hx hb hts hi_L_isStill_L hown hw hS hf_L_isStill_10 dL_isStill_301 ?_
                refine lv_bipush (v := 7) hx hb dL_isStill_304 (by decide) ?_
                refine zs_call (α := Int32) Value.int (As := [.int 7]) (rest := [.int (nI pl)]) (v_end hV (by decide) hk) ⟨hx, hb, hml, hown, hts⟩ hw hX hS (c_X1_end l hl0 g _ _ h _ _ 7 (zs_H hS)) (by decide) (cwV 1 hts gL_isStill_X1_end rfl rfl rfl (by decide +kernel) ⟨(Nat.le_of_ble_eq_true rfl), (Nat.le_of_ble_eq_true rfl)⟩) rfl hl.1 rfl (Nat.le_of_ble_eq_true rfl) dL_isStill_306 ⟨by show _ ≤ (450 : Nat); omega, by show _ ≤ (2800 : Nat); omega⟩ (fun L f H locs hS hw => ?_)
                refine W.eq (g2 := F0 m 309 ls [.int (nI pl), .int (nI pl)]) rfl ?_
                refine lv_icmp_ne (tgt := 328) hx hb dL_isStill_309 (by decide) (fun c9 => absurd (rfl) c9) (fun _ => ?_)
                refine lv_aload_n hx hb dL_isStill_312 rfl (lv_at hl 1 rfl) ?_
                refine zs_x hx hb hts hi_L_isStill_L hown hw hS hf_L_isStill_10 dL_isStill_313 ?_
                refine lv_bipush (v := 7) hx hb dL_isStill_316 (by decide) ?_
                refine zs_call (α := Int32) Value.int (As := [.int 7]) (rest := []) (v_place hV (by decide) hk) ⟨hx, hb, hml, hown, hts⟩ hw hX hS (c_X1_place l hl0 g _ _ h _ _ 7 (zs_H hS)) (by decide) (cwV 1 hts gL_isStill_X1_place rfl rfl rfl (by decide +kernel) ⟨(Nat.le_of_ble_eq_true rfl), (Nat.le_of_ble_eq_true rfl)⟩) rfl hl.1 rfl (Nat.le_of_ble_eq_true rfl) dL_isStill_318 ⟨by show _ ≤ (450 : Nat); omega, by show _ ≤ (2800 : Nat); omega⟩ (fun L f H locs hS hw => ?_)
                refine W.eq (g2 := F0 m 321 ls [.int (nI 0)]) rfl ?_
                refine lv_if_ne (tgt := 328) hx hb dL_isStill_321 (by decide) (fun c9 => absurd (nI_0) c9) (fun _ => ?_)
                refine lv_iconst (v := 1) hx hb dL_isStill_324 (by decide) ?_
                refine lv_goto (tgt := 329) hx hb dL_isStill_325 (by decide) ?_
                refine lv_istore_n (lv' := [(2, .int 1), (4, .int (nI v3)), (0, .ref a), (1, .int (nI (3 + v1))), (3, .int (nI j))]) hx hb dL_isStill_329 rfl hl (by decide) rfl (fun ls hl => ?_)
                refine W.widen (k := 20 + 30 * j + 16) (n := 150 + 180 * j + 96) (by omega) (by omega) ?_
                refine join_330 σ5 0 pl _ _ _ _ _ _ hV (by omega) (by omega) hW hC (hS.le (by omega)) hw ?_
                have hl := lv_sub hl (l' := [(0, .ref a), (1, .int (nI (3 + v1))), (2, .int 1), (3, .int (nI j))]) [2, 3, 0, 4] rfl
                exact hl
              · refine lv_aload_n hx hb dL_isStill_269 rfl (lv_at hl 1 rfl) ?_
                refine zs_x hx hb hts hi_L_isStill_L hown hw hS hf_L_isStill_10 dL_isStill_270 ?_
                refine lv_bipush (v := 7) hx hb dL_isStill_273 (by decide) ?_
                obtain ⟨σ5, ho, hV, hO, hst⟩ := v_clear hV (by decide) hk
                have hW := hW.ot hO (by decide)
                have hC := fun q hq => (congrFun hst _).trans (hC q hq)
                refine zs_call (α := Int32) Value.int (As := [.int 7]) (rest := []) ho ⟨hx, hb, hml, hown, hts⟩ hw hX hS (c_X1_clear l hl0 g _ _ h _ _ 7 (zs_H hS)) (by decide) (cwV 1 hts gL_isStill_X1_clear rfl rfl rfl (by decide +kernel) ⟨(Nat.le_of_ble_eq_true rfl), (Nat.le_of_ble_eq_true rfl)⟩) rfl hl.1 rfl (Nat.le_of_ble_eq_true rfl) dL_isStill_275 ⟨by show _ ≤ (450 : Nat); omega, by show _ ≤ (2800 : Nat); omega⟩ (fun L f H locs hS hw => ?_)
                refine W.eq (g2 := F0 m 278 ls [.int (nI (3 + v1))]) rfl ?_
                refine lv_iload_n hx hb dL_isStill_278 rfl (lv_at hl 2 rfl) ?_
                refine lv_icmp_ne (tgt := 286) hx hb dL_isStill_279 (by decide) (fun c9 => absurd (rfl) c9) (fun _ => ?_)
                refine lv_iconst (v := 1) hx hb dL_isStill_282 (by decide) ?_
                refine lv_goto (tgt := 287) hx hb dL_isStill_283 (by decide) ?_
                refine lv_istore_n (lv' := [(2, .int 1), (4, .int (nI v3)), (0, .ref a), (1, .int (nI (3 + v1))), (3, .int (nI j))]) hx hb dL_isStill_287 rfl hl (by decide) rfl (fun ls hl => ?_)
                refine lv_goto (tgt := 330) hx hb dL_isStill_288 (by decide) ?_
                refine W.widen (k := 20 + 30 * j + 16) (n := 150 + 180 * j + 96) (by omega) (by omega) ?_
                refine join_330 σ5 0 (3 + v1) _ _ _ _ _ _ hV (by omega) (by omega) hW hC (hS.le (by omega)) hw ?_
                have hl := lv_sub hl (l' := [(0, .ref a), (1, .int (nI (3 + v1))), (2, .int 1), (3, .int (nI j))]) [2, 3, 0, 4] rfl
                exact hl
            · refine lv_aload_n hx hb dL_isStill_233 rfl (lv_at hl 1 rfl) ?_
              refine zs_x hx hb hts hi_L_isStill_L hown hw hS hf_L_isStill_10 dL_isStill_234 ?_
              refine lv_bipush (v := 7) hx hb dL_isStill_237 (by decide) ?_
              obtain ⟨σ5, ho, hV, hO, hst⟩ := v_rewind hV (by decide) hk
              have hW := hW.ot hO (by decide)
              have hC := fun q hq => (congrFun hst _).trans (hC q hq)
              refine zs_call (α := Int32) Value.int (As := [.int 7]) (rest := []) ho ⟨hx, hb, hml, hown, hts⟩ hw hX hS (c_X1_rewind l hl0 g _ _ h _ _ 7 (zs_H hS)) (by decide) (cwV 1 hts gL_isStill_X1_rewind rfl rfl rfl (by decide +kernel) ⟨(Nat.le_of_ble_eq_true rfl), (Nat.le_of_ble_eq_true rfl)⟩) rfl hl.1 rfl (Nat.le_of_ble_eq_true rfl) dL_isStill_239 ⟨by show _ ≤ (450 : Nat); omega, by show _ ≤ (2800 : Nat); omega⟩ (fun L f H locs hS hw => ?_)
              refine W.eq (g2 := F0 m 242 ls [.int (nI en)]) rfl ?_
              refine lv_aload_n hx hb dL_isStill_242 rfl (lv_at hl 1 rfl) ?_
              refine zs_x hx hb hts hi_L_isStill_L hown hw hS hf_L_isStill_10 dL_isStill_243 ?_
              refine lv_bipush (v := 7) hx hb dL_isStill_246 (by decide) ?_
              refine zs_call (α := Int32) Value.int (As := [.int 7]) (rest := [.int (nI en)]) (v_end hV (by decide) hk) ⟨hx, hb, hml, hown, hts⟩ hw hX hS (c_X1_end l hl0 g _ _ h _ _ 7 (zs_H hS)) (by decide) (cwV 1 hts gL_isStill_X1_end rfl rfl rfl (by decide +kernel) ⟨(Nat.le_of_ble_eq_true rfl), (Nat.le_of_ble_eq_true rfl)⟩) rfl hl.1 rfl (Nat.le_of_ble_eq_true rfl) dL_isStill_248 ⟨by show _ ≤ (450 : Nat); omega, by show _ ≤ (2800 : Nat); omega⟩ (fun L f H locs hS hw => ?_)
              refine W.eq (g2 := F0 m 251 ls [.int (nI en), .int (nI en)]) rfl ?_
              refine lv_icmp_ne (tgt := 258) hx hb dL_isStill_251 (by decide) (fun c9 => absurd (rfl) c9) (fun _ => ?_)
              refine lv_iconst (v := 1) hx hb dL_isStill_254 (by decide) ?_
              refine lv_goto (tgt := 259) hx hb dL_isStill_255 (by decide) ?_
              refine lv_istore_n (lv' := [(2, .int 1), (4, .int (nI v3)), (0, .ref a), (1, .int (nI (3 + v1))), (3, .int (nI j))]) hx hb dL_isStill_259 rfl hl (by decide) rfl (fun ls hl => ?_)
              refine lv_goto (tgt := 330) hx hb dL_isStill_260 (by decide) ?_
              refine W.widen (k := 20 + 30 * j + 16) (n := 150 + 180 * j + 96) (by omega) (by omega) ?_
              refine join_330 σ5 0 en _ _ _ _ _ _ hV (by omega) (by omega) hW hC (hS.le (by omega)) hw ?_
              have hl := lv_sub hl (l' := [(0, .ref a), (1, .int (nI (3 + v1))), (2, .int 1), (3, .int (nI j))]) [2, 3, 0, 4] rfl
              exact hl
          · refine lv_aload_n hx hb dL_isStill_181 rfl (lv_at hl 1 rfl) ?_
            refine zs_x hx hb hts hi_L_isStill_L hown hw hS hf_L_isStill_10 dL_isStill_182 ?_
            refine lv_bipush (v := 7) hx hb dL_isStill_185 (by decide) ?_
            obtain ⟨σ5, ho, hV, hO, hst⟩ := v_mark hV (by decide) hk
            have hW := hW.ot hO (by decide)
            have hC := fun q hq => (congrFun hst _).trans (hC q hq)
            refine zs_call (α := Int32) Value.int (As := [.int 7]) (rest := []) ho ⟨hx, hb, hml, hown, hts⟩ hw hX hS (c_X1_mark l hl0 g _ _ h _ _ 7 (zs_H hS)) (by decide) (cwV 1 hts gL_isStill_X1_mark rfl rfl rfl (by decide +kernel) ⟨(Nat.le_of_ble_eq_true rfl), (Nat.le_of_ble_eq_true rfl)⟩) rfl hl.1 rfl (Nat.le_of_ble_eq_true rfl) dL_isStill_187 ⟨by show _ ≤ (450 : Nat); omega, by show _ ≤ (2800 : Nat); omega⟩ (fun L f H locs hS hw => ?_)
            refine W.eq (g2 := F0 m 190 ls [.int (nI pl)]) rfl ?_
            refine lv_istore (lv' := [(5, .int (nI pl)), (4, .int (nI v3)), (0, .ref a), (1, .int (nI (3 + v1))), (2, .int 1), (3, .int (nI j))]) hx hb dL_isStill_190 hl (by decide) rfl (fun ls hl => ?_)
            refine lv_aload_n hx hb dL_isStill_192 rfl (lv_at hl 2 rfl) ?_
            refine zs_x hx hb hts hi_L_isStill_L hown hw hS hf_L_isStill_10 dL_isStill_193 ?_
            refine lv_bipush (v := 7) hx hb dL_isStill_196 (by decide) ?_
            refine zs_call (α := Int32) Value.int (As := [.int 7]) (rest := []) (v_place hV (by decide) hk) ⟨hx, hb, hml, hown, hts⟩ hw hX hS (c_X1_place l hl0 g _ _ h _ _ 7 (zs_H hS)) (by decide) (cwV 1 hts gL_isStill_X1_place rfl rfl rfl (by decide +kernel) ⟨(Nat.le_of_ble_eq_true rfl), (Nat.le_of_ble_eq_true rfl)⟩) rfl hl.1 rfl (Nat.le_of_ble_eq_true rfl) dL_isStill_198 ⟨by show _ ≤ (450 : Nat); omega, by show _ ≤ (2800 : Nat); omega⟩ (fun L f H locs hS hw => ?_)
            refine W.eq (g2 := F0 m 201 ls [.int (nI pl)]) rfl ?_
            refine lv_iload hx hb dL_isStill_201 (lv_at hl 0 rfl) ?_
            refine lv_icmp_ne (tgt := 222) hx hb dL_isStill_203 (by decide) (fun c9 => absurd (rfl) c9) (fun _ => ?_)
            refine lv_aload_n hx hb dL_isStill_206 rfl (lv_at hl 2 rfl) ?_
            refine zs_x hx hb hts hi_L_isStill_L hown hw hS hf_L_isStill_10 dL_isStill_207 ?_
            refine lv_bipush (v := 7) hx hb dL_isStill_210 (by decide) ?_
            obtain ⟨σ6, ho, hV, hO, hst⟩ := v_back hV (by decide) hk (by omega)
            have hW := hW.ot hO (by decide)
            have hC := fun q hq => (congrFun hst _).trans (hC q hq)
            refine zs_call (α := Int32) Value.int (As := [.int 7]) (rest := []) ho ⟨hx, hb, hml, hown, hts⟩ hw hX hS (c_X1_back l hl0 g _ _ h _ _ 7 (zs_H hS)) (by decide) (cwV 1 hts gL_isStill_X1_back rfl rfl rfl (by decide +kernel) ⟨(Nat.le_of_ble_eq_true rfl), (Nat.le_of_ble_eq_true rfl)⟩) rfl hl.1 rfl (Nat.le_of_ble_eq_true rfl) dL_isStill_212 ⟨by show _ ≤ (450 : Nat); omega, by show _ ≤ (2800 : Nat); omega⟩ (fun L f H locs hS hw => ?_)
            refine W.eq (g2 := F0 m 215 ls [.int 0]) rfl ?_
            refine lv_if_ne (tgt := 222) hx hb dL_isStill_215 (by decide) (fun c_11 => absurd (by decide) c_11) (fun c_11 => ?_)
            refine lv_iconst (v := 1) hx hb dL_isStill_218 (by decide) ?_
            refine lv_goto (tgt := 223) hx hb dL_isStill_219 (by decide) ?_
            refine lv_istore_n (lv' := [(2, .int 1), (5, .int (nI pl)), (4, .int (nI v3)), (0, .ref a), (1, .int (nI (3 + v1))), (3, .int (nI j))]) hx hb dL_isStill_223 rfl hl (by decide) rfl (fun ls hl => ?_)
            refine lv_goto (tgt := 330) hx hb dL_isStill_224 (by decide) ?_
            refine W.widen (k := 20 + 30 * j + 16) (n := 150 + 180 * j + 96) (by omega) (by omega) ?_
            refine join_330 σ6 pl en _ _ _ _ _ _ hV (by omega) (by omega) hW hC (hS.le (by omega)) hw ?_
            have hl := lv_sub hl (l' := [(0, .ref a), (1, .int (nI (3 + v1))), (2, .int 1), (3, .int (nI j))]) [3, 4, 0, 5] rfl
            exact hl
        · refine lv_aload_n hx hb dL_isStill_147 rfl (lv_at hl 1 rfl) ?_
          refine zs_x hx hb hts hi_L_isStill_L hown hw hS hf_L_isStill_10 dL_isStill_148 ?_
          refine lv_bipush (v := 7) hx hb dL_isStill_151 (by decide) ?_
          refine lv_aload_n hx hb dL_isStill_153 rfl (lv_at hl 1 rfl) ?_
          refine lv_iload_n hx hb dL_isStill_154 rfl (lv_at hl 2 rfl) ?_
          refine lv_iconst (v := 1) hx hb dL_isStill_155 (by decide) ?_
          refine lv_iadd hx hb dL_isStill_156 ?_
          refine lv_topi (fun y9 hy9 => ?_)
          obtain rfl : y9 = (nI ((3 + v1) + 1)) := hy9.trans (nI_add (3 + v1) 1)
          refine z_callVL (As := [.int (nI ((3 + v1) + 1))]) (rest := [.int 7, .ref h]) ⟨hx, hb, hml, hown, hts⟩ hw hX hXs hbl hbA hS.cell.choose_spec rfl (c_L_draw l g _ _ b n xs hN a h _ _ (by omega) ((3 + v1) + 1) (by omega) (by omega) hS) (cwV 1 hts gL_isStill_L_draw rfl rfl rfl (by decide +kernel) ⟨(Nat.le_of_ble_eq_true rfl), (Nat.le_of_ble_eq_true rfl)⟩) rfl hl.1 rfl (Nat.le_of_ble_eq_true rfl) dL_isStill_157 ⟨by show _ ≤ (450 : Nat); omega, by show _ ≤ (2800 : Nat); omega⟩ (fun r9 L9 f9 H locs hp hw => ?_)
          obtain ⟨v4, hv4, rfl, hS⟩ := hp
          refine W.eq (g2 := F0 m 160 ls [.int (nI v4), .int 7, .ref h]) rfl ?_
          obtain ⟨σ5, mk5, pl5, hpl5, ho, hV, hO, hst⟩ := v_endAt (q := v4) hV (by decide) hk (by omega) (by omega) (by omega)
          have hW := hW.ot hO (by decide)
          have hC := fun q hq => (congrFun hst _).trans (hC q hq)
          refine zs_call (α := Int32) Value.int (As := [.int 7, .int (nI v4)]) (rest := []) ho ⟨hx, hb, hml, hown, hts⟩ hw hX hS (c_X1_endAt l hl0 g _ _ h _ _ 7 (nI v4) (zs_H hS)) (by decide) (cwV 2 hts gL_isStill_X1_endAt rfl rfl rfl (by decide +kernel) ⟨(Nat.le_of_ble_eq_true rfl), (Nat.le_of_ble_eq_true rfl)⟩) rfl hl.1 rfl (Nat.le_of_ble_eq_true rfl) dL_isStill_160 ⟨by show _ ≤ (450 : Nat); omega, by show _ ≤ (2800 : Nat); omega⟩ (fun L f H locs hS hw => ?_)
          refine W.eq (g2 := F0 m 163 ls [.int (nI en)]) rfl ?_
          refine lv_if_lt (tgt := 170) hx hb dL_isStill_163 (by decide) (fun c9 => absurd c9 (nI_pos (by omega))) (fun _ => ?_)
          refine lv_iconst (v := 1) hx hb dL_isStill_166 (by decide) ?_
          refine lv_goto (tgt := 171) hx hb dL_isStill_167 (by decide) ?_
          refine lv_istore_n (lv' := [(2, .int 1), (4, .int (nI v3)), (0, .ref a), (1, .int (nI (3 + v1))), (3, .int (nI j))]) hx hb dL_isStill_171 rfl hl (by decide) rfl (fun ls hl => ?_)
          refine lv_goto (tgt := 330) hx hb dL_isStill_172 (by decide) ?_
          refine W.widen (k := 20 + 30 * j + 16) (n := 150 + 180 * j + 96) (by omega) (by omega) ?_
          refine join_330 σ5 pl5 v4 _ _ _ _ _ _ hV hpl5 (by omega) hW hC (hS.le (by omega)) hw ?_
          have hl := lv_sub hl (l' := [(0, .ref a), (1, .int (nI (3 + v1))), (2, .int 1), (3, .int (nI j))]) [2, 3, 0, 4] rfl
          exact hl
      · refine lv_aload_n hx hb dL_isStill_105 rfl (lv_at hl 1 rfl) ?_
        refine zs_x hx hb hts hi_L_isStill_L hown hw hS hf_L_isStill_10 dL_isStill_106 ?_
        refine lv_bipush (v := 7) hx hb dL_isStill_109 (by decide) ?_
        refine lv_aload_n hx hb dL_isStill_111 rfl (lv_at hl 1 rfl) ?_
        refine lv_aload_n hx hb dL_isStill_112 rfl (lv_at hl 1 rfl) ?_
        refine zs_x hx hb hts hi_L_isStill_L hown hw hS hf_L_isStill_10 dL_isStill_113 ?_
        refine lv_bipush (v := 7) hx hb dL_isStill_116 (by decide) ?_
        refine zs_call (α := Int32) Value.int (As := [.int 7]) (rest := [.ref a, .int 7, .ref h]) (v_end hV (by decide) hk) ⟨hx, hb, hml, hown, hts⟩ hw hX hS (c_X1_end l hl0 g _ _ h _ _ 7 (zs_H hS)) (by decide) (cwV 1 hts gL_isStill_X1_end rfl rfl rfl (by decide +kernel) ⟨(Nat.le_of_ble_eq_true rfl), (Nat.le_of_ble_eq_true rfl)⟩) rfl hl.1 rfl (Nat.le_of_ble_eq_true rfl) dL_isStill_118 ⟨by show _ ≤ (450 : Nat); omega, by show _ ≤ (2800 : Nat); omega⟩ (fun L f H locs hS hw => ?_)
        refine W.eq (g2 := F0 m 121 ls [.int (nI en), .ref a, .int 7, .ref h]) rfl ?_
        refine lv_iconst (v := 1) hx hb dL_isStill_121 (by decide) ?_
        refine lv_iadd hx hb dL_isStill_122 ?_
        refine lv_topi (fun y9 hy9 => ?_)
        obtain rfl : y9 = (nI (en + 1)) := hy9.trans (nI_add en 1)
        refine z_callVL (As := [.int (nI (en + 1))]) (rest := [.int 7, .ref h]) ⟨hx, hb, hml, hown, hts⟩ hw hX hXs hbl hbA hS.cell.choose_spec rfl (c_L_draw l g _ _ b n xs hN a h _ _ (by omega) (en + 1) (by omega) (by omega) hS) (cwV 1 hts gL_isStill_L_draw rfl rfl rfl (by decide +kernel) ⟨(Nat.le_of_ble_eq_true rfl), (Nat.le_of_ble_eq_true rfl)⟩) rfl hl.1 rfl (Nat.le_of_ble_eq_true rfl) dL_isStill_123 ⟨by show _ ≤ (450 : Nat); omega, by show _ ≤ (2800 : Nat); omega⟩ (fun r9 L9 f9 H locs hp hw => ?_)
        obtain ⟨v5, hv5, rfl, hS⟩ := hp
        refine W.eq (g2 := F0 m 126 ls [.int (nI v5), .int 7, .ref h]) rfl ?_
        obtain ⟨σ5, mk5, ho, hV, hO, hst⟩ := v_placeAt (q := v5) hV (by decide) hk (by omega) (by omega)
        have hW := hW.ot hO (by decide)
        have hC := fun q hq => (congrFun hst _).trans (hC q hq)
        refine zs_call (α := Int32) Value.int (As := [.int 7, .int (nI v5)]) (rest := []) ho ⟨hx, hb, hml, hown, hts⟩ hw hX hS (c_X1_placeAt l hl0 g _ _ h _ _ 7 (nI v5) (zs_H hS)) (by decide) (cwV 2 hts gL_isStill_X1_placeAt rfl rfl rfl (by decide +kernel) ⟨(Nat.le_of_ble_eq_true rfl), (Nat.le_of_ble_eq_true rfl)⟩) rfl hl.1 rfl (Nat.le_of_ble_eq_true rfl) dL_isStill_126 ⟨by show _ ≤ (450 : Nat); omega, by show _ ≤ (2800 : Nat); omega⟩ (fun L f H locs hS hw => ?_)
        refine W.eq (g2 := F0 m 129 ls [.int (nI pl)]) rfl ?_
        refine lv_if_lt (tgt := 136) hx hb dL_isStill_129 (by decide) (fun c9 => absurd c9 (nI_pos (by omega))) (fun _ => ?_)
        refine lv_iconst (v := 1) hx hb dL_isStill_132 (by decide) ?_
        refine lv_goto (tgt := 137) hx hb dL_isStill_133 (by decide) ?_
        refine lv_istore_n (lv' := [(2, .int 1), (4, .int (nI v3)), (0, .ref a), (1, .int (nI (3 + v1))), (3, .int (nI j))]) hx hb dL_isStill_137 rfl hl (by decide) rfl (fun ls hl => ?_)
        refine lv_goto (tgt := 330) hx hb dL_isStill_138 (by decide) ?_
        refine W.widen (k := 20 + 30 * j + 16) (n := 150 + 180 * j + 96) (by omega) (by omega) ?_
        refine join_330 σ5 v5 en _ _ _ _ _ _ hV (by omega) (by omega) hW hC (hS.le (by omega)) hw ?_
        have hl := lv_sub hl (l' := [(0, .ref a), (1, .int (nI (3 + v1))), (2, .int 1), (3, .int (nI j))]) [2, 3, 0, 4] rfl
        exact hl
  refine loop_82 (6) 0 σ4 (3 + v1) (3 + v1) _ _ _ _ _ _ (by omega) hV (by omega) (by omega) hW hC (hS.le (by omega)) hw ?_
  have hl := lv_sub hl (l' := [(0, .ref a), (1, .int (nI (3 + v1))), (2, .int 1), (3, .int 0)]) [3, 2, 1, 0] rfl
  exact hl
