set_option maxRecDepth 100000 in
set_option maxHeartbeats 4000000 in
theorem c_L_cell (l : Launch) (g : zG) (L : List Nat) (f : Nat → va_E) (b n : Nat) (xs : Nat → Int32) (hN : n ≤ 260) (q : Nat) (hq : q < 1000000) : zCL l yL_cell wsL_cell { frames := 0, cells := 0, slots := 0, locals := 0 } 0 0 g b n xs [.ref b, .int (nI q)] L f (fun r L1 f1 => (∃ v : Int32, some (.int v) = r) ∧ L = L1 ∧ f = f1) zNo := by
  refine z_ofWL (cc := cL_cell) (maxL := 2) (ret := (some .int)) (by decide) rfl (Nat.le_of_ble_eq_true rfl) ?_
  intro p e s m args below meth c ls A hx hb hr hts hown hlocks hml htab hw hX hXs hbl hbA hl
  have hl : lv_has ls 2 [(0, .ref b), (1, .int (nI q))] := hl
  have hown : s.vm.findClass RL = some m.cls := hown
  refine lv_iload_n hx hb dL_cell_0 rfl (lv_at hl 1 rfl) ?_
  refine lv_aload_n hx hb dL_cell_1 rfl (lv_at hl 0 rfl) ?_
  refine va_slen hx hb hXs hbl hbA hw.2.2.2.1 dL_cell_2 ?_
  refine W.eq (g2 := F0 m 3 ls [.int (nI n), .int (nI q)]) rfl ?_
  refine lv_icmp_ge (tgt := 12) hx hb dL_cell_3 (by decide) (fun c_1 => ?_) (fun c_1 => ?_)
  · refine lv_ldc (v := 790386105) hx hb hown (hts (.constant RL 16 790386105) (by decide +kernel)) dL_cell_12 ?_
    refine lv_iload_n hx hb dL_cell_14 rfl (lv_at hl 1 rfl) ?_
    refine lv_iconst (v := 1) hx hb dL_cell_15 (by decide) ?_
    refine lv_iadd hx hb dL_cell_16 ?_
    refine lv_topi (fun y9 hy9 => ?_)
    obtain rfl : y9 = (nI (q + 1)) := hy9.trans (nI_add q 1)
    refine lv_imul hx hb dL_cell_17 ?_
    exact z_iret hx hb hr hlocks hw (by omega) (by omega) dL_cell_18 ⟨⟨_, rfl⟩, rfl, rfl⟩
  · have hlt : q < n := by
      rw [nI_leI (by omega) (by omega)] at c_1
      omega
    refine lv_aload_n hx hb dL_cell_6 rfl (lv_at hl 0 rfl) ?_
    refine lv_iload_n hx hb dL_cell_7 rfl (lv_at hl 1 rfl) ?_
    refine va_sld hx hb hXs hbl hbA hw.2.2.2.1 (vp_in_nI hlt (by omega)) dL_cell_8 ?_
    refine lv_goto (tgt := 18) hx hb dL_cell_9 (by decide) ?_
    exact z_iret hx hb hr hlocks hw (by omega) (by omega) dL_cell_18 ⟨⟨_, rfl⟩, rfl, rfl⟩

set_option maxRecDepth 100000 in
set_option maxHeartbeats 4000000 in
theorem c_L_stirred (l : Launch) (g : zG) (L : List Nat) (f : Nat → va_E) (b n : Nat) (xs : Nat → Int32) (hN : n ≤ 260) : zCL l yL_stirred wsL_stirred { frames := 0, cells := 0, slots := 0, locals := 0 } 0 0 g b n xs [.ref b] L f (fun r L1 f1 => (∃ v : Int32, some (.int v) = r) ∧ L = L1 ∧ f = f1) zNo := by
  refine z_ofWL (cc := cL_stirred) (maxL := 6) (ret := (some .int)) (by decide) rfl (Nat.le_of_ble_eq_true rfl) ?_
  intro p e s m args below meth c ls A hx hb hr hts hown hlocks hml htab hw hX hXs hbl hbA hl
  have hl : lv_has ls 6 [(0, .ref b)] := hl
  have hown : s.vm.findClass RL = some m.cls := hown
  refine lv_ldc (v := 790386105) hx hb hown (hts (.constant RL 16 790386105) (by decide +kernel)) dL_stirred_0 ?_
  refine lv_aload_n hx hb dL_stirred_2 rfl (lv_at hl 0 rfl) ?_
  refine va_slen hx hb hXs hbl hbA hw.2.2.2.1 dL_stirred_3 ?_
  refine W.eq (g2 := F0 m 4 ls [.int (nI n), .int 790386105]) rfl ?_
  refine lv_iadd hx hb dL_stirred_4 ?_
  refine lv_istore_n (lv' := [(1, .int (790386105 + (nI n))), (0, .ref b)]) hx hb dL_stirred_5 rfl hl (by decide) rfl (fun ls hl => ?_)
  refine lv_aload_n hx hb dL_stirred_6 rfl (lv_at hl 1 rfl) ?_
  refine lv_astore_n (lv' := [(2, .ref b), (1, .int (790386105 + (nI n))), (0, .ref b)]) hx hb dL_stirred_7 rfl hl (by decide) rfl (fun ls hl => ?_)
  refine lv_aload_n hx hb dL_stirred_8 rfl (lv_at hl 0 rfl) ?_
  refine va_slen hx hb hXs hbl hbA hw.2.2.2.1 dL_stirred_9 ?_
  refine W.eq (g2 := F0 m 10 ls [.int (nI n)]) rfl ?_
  refine lv_istore_n (lv' := [(3, .int (nI n)), (2, .ref b), (1, .int (790386105 + (nI n))), (0, .ref b)]) hx hb dL_stirred_10 rfl hl (by decide) rfl (fun ls hl => ?_)
  refine lv_iconst (v := 0) hx hb dL_stirred_11 (by decide) ?_
  refine lv_istore (lv' := [(4, .int 0), (3, .int (nI n)), (2, .ref b), (1, .int (790386105 + (nI n))), (0, .ref b)]) hx hb dL_stirred_12 hl (by decide) rfl (fun ls hl => ?_)
  refine W.widen (k := 0) (n := 0) (by omega) (by omega) ?_
  have loop_14 : ∀ (n9 : Nat) (j : Nat) (v1 : Int32) (H : Heap) (locs : List Loc) (ls : Array Slot), (j + n9 = n) → zW g A s L f H locs → lv_has ls 6 [(0, .ref b), (1, .int v1), (2, .ref b), (3, .int (nI n)), (4, .int (nI j))] → W p l e { frames := 0, cells := 0, slots := 0, locals := 0 } s m args below meth c H locs (0 + 0 * j) (0 + 0 * j) (vx_MQ below (zQ g A (fun r L1 f1 => (∃ v : Int32, some (.int v) = r) ∧ L = L1 ∧ f = f1)) (zXC g A zNo) args s 0 0 A) (F0 m 14 ls []) := by
    intro n9
    induction n9 with
    | zero =>
      intro j v1 H locs ls hj hw hl
      refine lv_iload hx hb dL_stirred_14 (lv_at hl 4 rfl) ?_
      refine lv_iload_n hx hb dL_stirred_16 rfl (lv_at hl 3 rfl) ?_
      refine lv_icmp_ge (tgt := 45) hx hb dL_stirred_17 (by decide) (fun _ => ?_) (fun c9 => absurd ((nI_leI (by omega) (by omega)).mpr (by omega)) c9)
      refine lv_iload_n hx hb dL_stirred_45 rfl (lv_at hl 1 rfl) ?_
      refine lv_iload_n hx hb dL_stirred_46 rfl (lv_at hl 1 rfl) ?_
      refine lv_bipush (v := 13) hx hb dL_stirred_47 (by decide) ?_
      refine lv_iushr (v := (v1.toUInt32 >>> (((13 : Int32)).toUInt32 &&& Int32.toUInt32 31)).toInt32) hx hb dL_stirred_49 rfl ?_
      refine lv_ixor hx hb dL_stirred_50 ?_
      refine lv_istore_n (lv' := [(1, .int (v1 ^^^ ((v1.toUInt32 >>> (((13 : Int32)).toUInt32 &&& Int32.toUInt32 31)).toInt32))), (0, .ref b), (2, .ref b), (3, .int (nI n)), (4, .int (nI j))]) hx hb dL_stirred_51 rfl hl (by decide) rfl (fun ls hl => ?_)
      refine lv_iload_n hx hb dL_stirred_52 rfl (lv_at hl 0 rfl) ?_
      refine lv_iconst (v := 3) hx hb dL_stirred_53 (by decide) ?_
      refine lv_iand hx hb dL_stirred_54 ?_
      refine lv_if_ne (tgt := 62) hx hb dL_stirred_55 (by decide) (fun c_1 => ?_) (fun c_1 => ?_)
      · refine lv_iload_n hx hb dL_stirred_62 rfl (lv_at hl 0 rfl) ?_
        exact z_iret hx hb hr hlocks hw (by omega) (by omega) dL_stirred_63 ⟨⟨_, rfl⟩, rfl, rfl⟩
      · refine lv_iconst (v := 0) hx hb dL_stirred_58 (by decide) ?_
        refine lv_goto (tgt := 63) hx hb dL_stirred_59 (by decide) ?_
        exact z_iret hx hb hr hlocks hw (by omega) (by omega) dL_stirred_63 ⟨⟨_, rfl⟩, rfl, rfl⟩
    | succ n9 ih_14 =>
      intro j v1 H locs ls hj hw hl
      refine lv_iload hx hb dL_stirred_14 (lv_at hl 4 rfl) ?_
      refine lv_iload_n hx hb dL_stirred_16 rfl (lv_at hl 3 rfl) ?_
      refine lv_icmp_ge (tgt := 45) hx hb dL_stirred_17 (by decide) (fun c9 => absurd c9 (nI_ge (by omega) (by omega))) (fun _ => ?_)
      refine lv_aload_n hx hb dL_stirred_20 rfl (lv_at hl 2 rfl) ?_
      refine lv_iload hx hb dL_stirred_21 (lv_at hl 4 rfl) ?_
      refine va_sld hx hb hXs hbl hbA hw.2.2.2.1 (vp_in_nI (by omega) (by omega)) dL_stirred_23 ?_
      refine lv_istore (lv' := [(5, .int (xs (Int32.toNatClampNeg (nI j)))), (0, .ref b), (1, .int v1), (2, .ref b), (3, .int (nI n)), (4, .int (nI j))]) hx hb dL_stirred_24 hl (by decide) rfl (fun ls hl => ?_)
      refine lv_iload_n hx hb dL_stirred_26 rfl (lv_at hl 2 rfl) ?_
      refine lv_iload hx hb dL_stirred_27 (lv_at hl 0 rfl) ?_
      refine lv_ixor hx hb dL_stirred_29 ?_
      refine lv_iload_n hx hb dL_stirred_30 rfl (lv_at hl 2 rfl) ?_
      refine lv_bipush (v := 15) hx hb dL_stirred_31 (by decide) ?_
      refine lv_iushr (v := (v1.toUInt32 >>> (((15 : Int32)).toUInt32 &&& Int32.toUInt32 31)).toInt32) hx hb dL_stirred_33 rfl ?_
      refine lv_ixor hx hb dL_stirred_34 ?_
      refine lv_ldc (v := 16777619) hx hb hown (hts (.constant RL 41 16777619) (by decide +kernel)) dL_stirred_35 ?_
      refine lv_imul hx hb dL_stirred_37 ?_
      refine lv_istore_n (lv' := [(1, .int (((v1 ^^^ (xs (Int32.toNatClampNeg (nI j)))) ^^^ ((v1.toUInt32 >>> (((15 : Int32)).toUInt32 &&& Int32.toUInt32 31)).toInt32)) * 16777619)), (5, .int (xs (Int32.toNatClampNeg (nI j)))), (0, .ref b), (2, .ref b), (3, .int (nI n)), (4, .int (nI j))]) hx hb dL_stirred_38 rfl hl (by decide) rfl (fun ls hl => ?_)
      refine lv_iinc (v := (nI (j + 1))) (lv' := [(4, .int (nI (j + 1))), (1, .int (((v1 ^^^ (xs (Int32.toNatClampNeg (nI j)))) ^^^ ((v1.toUInt32 >>> (((15 : Int32)).toUInt32 &&& Int32.toUInt32 31)).toInt32)) * 16777619)), (5, .int (xs (Int32.toNatClampNeg (nI j)))), (0, .ref b), (2, .ref b), (3, .int (nI n))]) hx hb dL_stirred_39 hl (k := 5) rfl (nI_1 j) (by decide) rfl (fun ls hl => ?_)
      refine lv_goto (tgt := 14) hx hb dL_stirred_42 (by decide) ?_
      refine W.widen (k := 0 + 0 * (j + 1)) (n := 0 + 0 * (j + 1)) (by omega) (by omega) ?_
      refine ih_14 (j + 1) (((v1 ^^^ (xs (Int32.toNatClampNeg (nI j)))) ^^^ ((v1.toUInt32 >>> (((15 : Int32)).toUInt32 &&& Int32.toUInt32 31)).toInt32)) * 16777619) _ _ _ (by omega) hw ?_
      have hl := lv_sub hl (l' := [(0, .ref b), (1, .int (((v1 ^^^ (xs (Int32.toNatClampNeg (nI j)))) ^^^ ((v1.toUInt32 >>> (((15 : Int32)).toUInt32 &&& Int32.toUInt32 31)).toInt32)) * 16777619)), (2, .ref b), (3, .int (nI n)), (4, .int (nI (j + 1)))]) [3, 1, 4, 5, 0] rfl
      exact hl
  refine loop_14 (n) 0 (790386105 + (nI n)) _ _ _ (by omega) hw ?_
  have hl := lv_sub hl (l' := [(0, .ref b), (1, .int (790386105 + (nI n))), (2, .ref b), (3, .int (nI n)), (4, .int 0)]) [4, 3, 2, 1, 0] rfl
  exact hl

set_option maxRecDepth 100000 in
set_option maxHeartbeats 4000000 in
theorem c_L_mixed (l : Launch) (g : zG) (L : List Nat) (f : Nat → va_E) (x0 x1 : Int32) : zC l yL_mixed wsL_mixed { frames := 0, cells := 0, slots := 0, locals := 0 } 0 0 g [.int x0, .int x1] L f (fun r L1 f1 => (∃ v : Int32, some (.int v) = r) ∧ L = L1 ∧ f = f1) zNo := by
  refine z_ofW (cc := cL_mixed) (maxL := 3) (ret := (some .int)) (by decide) rfl (Nat.le_of_ble_eq_true rfl) ?_
  intro p e s m args below meth c ls A hx hb hr hts hown hlocks hml htab hin9 hw hX hl
  have hl : lv_has ls 3 [(0, .int x0), (1, .int x1)] := hl
  have hown : s.vm.findClass RL = some m.cls := hown
  refine lv_iload_n hx hb dL_mixed_0 rfl (lv_at hl 0 rfl) ?_
  refine lv_iload_n hx hb dL_mixed_1 rfl (lv_at hl 1 rfl) ?_
  refine lv_ldc (v := (-1640531527)) hx hb hown (hts (.constant RL 42 (-1640531527)) (by decide +kernel)) dL_mixed_2 ?_
  refine lv_imul hx hb dL_mixed_4 ?_
  refine lv_iadd hx hb dL_mixed_5 ?_
  refine lv_ldc (v := (-2048144789)) hx hb hown (hts (.constant RL 43 (-2048144789)) (by decide +kernel)) dL_mixed_6 ?_
  refine lv_imul hx hb dL_mixed_8 ?_
  refine lv_istore_n (lv' := [(2, .int ((x0 + (x1 * (-1640531527))) * (-2048144789))), (0, .int x0), (1, .int x1)]) hx hb dL_mixed_9 rfl hl (by decide) rfl (fun ls hl => ?_)
  refine lv_iload_n hx hb dL_mixed_10 rfl (lv_at hl 0 rfl) ?_
  refine lv_iload_n hx hb dL_mixed_11 rfl (lv_at hl 0 rfl) ?_
  refine lv_bipush (v := 15) hx hb dL_mixed_12 (by decide) ?_
  refine lv_iushr (v := (((x0 + (x1 * (-1640531527))) * (-2048144789)).toUInt32 >>> (((15 : Int32)).toUInt32 &&& Int32.toUInt32 31)).toInt32) hx hb dL_mixed_14 rfl ?_
  refine lv_ixor hx hb dL_mixed_15 ?_
  refine lv_ldc (v := (-1028477387)) hx hb hown (hts (.constant RL 44 (-1028477387)) (by decide +kernel)) dL_mixed_16 ?_
  refine lv_imul hx hb dL_mixed_18 ?_
  refine lv_istore_n (lv' := [(2, .int ((((x0 + (x1 * (-1640531527))) * (-2048144789)) ^^^ ((((x0 + (x1 * (-1640531527))) * (-2048144789)).toUInt32 >>> (((15 : Int32)).toUInt32 &&& Int32.toUInt32 31)).toInt32)) * (-1028477387))), (0, .int x0), (1, .int x1)]) hx hb dL_mixed_19 rfl hl (by decide) rfl (fun ls hl => ?_)
  refine lv_iload_n hx hb dL_mixed_20 rfl (lv_at hl 0 rfl) ?_
  refine lv_iload_n hx hb dL_mixed_21 rfl (lv_at hl 0 rfl) ?_
  refine lv_bipush (v := 16) hx hb dL_mixed_22 (by decide) ?_
  refine lv_iushr (v := (((((x0 + (x1 * (-1640531527))) * (-2048144789)) ^^^ ((((x0 + (x1 * (-1640531527))) * (-2048144789)).toUInt32 >>> (((15 : Int32)).toUInt32 &&& Int32.toUInt32 31)).toInt32)) * (-1028477387)).toUInt32 >>> (((16 : Int32)).toUInt32 &&& Int32.toUInt32 31)).toInt32) hx hb dL_mixed_24 rfl ?_
  refine lv_ixor hx hb dL_mixed_25 ?_
  exact z_iret hx hb hr hlocks hw (by omega) (by omega) dL_mixed_26 ⟨⟨_, rfl⟩, rfl, rfl⟩

set_option maxRecDepth 100000 in
set_option maxHeartbeats 4000000 in
theorem c_L_cut (l : Launch) (g : zG) (L : List Nat) (f : Nat → va_E) (k9 : Int32) (v9 : Int64) : zC l yL_cut wsL_cut { frames := 0, cells := 0, slots := 0, locals := 0 } 0 0 g [.int k9, .long v9] L f (fun r L1 f1 => some (.long (zcut k9 v9)) = r ∧ L = L1 ∧ f = f1) zNo := by
  refine z_ofW (cc := cL_cut) (maxL := 3) (ret := (some .long)) (by decide) rfl (Nat.le_of_ble_eq_true rfl) ?_
  intro p e s m args below meth c ls A hx hb hr hts hown hlocks hml htab hin9 hw hX hl
  have hl : lv_has ls 3 [(0, .int k9), (1, .long v9)] := hl
  have hown : s.vm.findClass RL = some m.cls := hown
  refine lv_iload_n hx hb dL_cut_0 rfl (lv_at hl 0 rfl) ?_
  refine lv_bipush (v := 105) hx hb dL_cut_1 (by decide) ?_
  refine lv_icmp_ne (tgt := 12) hx hb dL_cut_3 (by decide) (fun c_1 => ?_) (fun c_1 => ?_)
  · refine lv_iload_n hx hb dL_cut_12 rfl (lv_at hl 0 rfl) ?_
    refine lv_bipush (v := 99) hx hb dL_cut_13 (by decide) ?_
    refine lv_icmp_ne (tgt := 26) hx hb dL_cut_15 (by decide) (fun c_2 => ?_) (fun c_2 => ?_)
    · refine lv_iload_n hx hb dL_cut_26 rfl (lv_at hl 0 rfl) ?_
      refine lv_bipush (v := 115) hx hb dL_cut_27 (by decide) ?_
      refine lv_icmp_ne (tgt := 39) hx hb dL_cut_29 (by decide) (fun c_3 => ?_) (fun c_3 => ?_)
      · refine lv_lload_n hx hb dL_cut_39 rfl (lv_at hl 1 rfl) ?_
        exact z_lret hx hb hr hlocks hw (by omega) (by omega) dL_cut_40 ⟨congrArg (fun z => some (Value.long z)) (by unfold zcut; rw [if_neg c_1, if_neg c_2, if_neg c_3]), rfl, rfl⟩
      · refine lv_lload_n hx hb dL_cut_32 rfl (lv_at hl 1 rfl) ?_
        refine lv_l2i (v := v9.toInt32) hx hb dL_cut_33 rfl ?_
        refine lv_i2s (v := v9.toInt32.toInt16.toInt32) hx hb dL_cut_34 rfl ?_
        refine lv_i2l (v := v9.toInt32.toInt16.toInt32.toInt64) hx hb dL_cut_35 rfl ?_
        refine lv_goto (tgt := 40) hx hb dL_cut_36 (by decide) ?_
        exact z_lret hx hb hr hlocks hw (by omega) (by omega) dL_cut_40 ⟨congrArg (fun z => some (Value.long z)) (by unfold zcut; rw [if_neg c_1, if_neg c_2, if_pos c_3]), rfl, rfl⟩
    · refine lv_lload_n hx hb dL_cut_18 rfl (lv_at hl 1 rfl) ?_
      refine lv_ldc2 (v := 255) hx hb hown (hts (.constantLong RL 49 255) (by decide +kernel)) dL_cut_19 ?_
      refine lv_land hx hb dL_cut_22 ?_
      refine lv_goto (tgt := 40) hx hb dL_cut_23 (by decide) ?_
      exact z_lret hx hb hr hlocks hw (by omega) (by omega) dL_cut_40 ⟨congrArg (fun z => some (Value.long z)) (by unfold zcut; rw [if_neg c_1, if_pos c_2]), rfl, rfl⟩
  · refine lv_lload_n hx hb dL_cut_6 rfl (lv_at hl 1 rfl) ?_
    refine lv_l2i (v := v9.toInt32) hx hb dL_cut_7 rfl ?_
    refine lv_i2l (v := v9.toInt32.toInt64) hx hb dL_cut_8 rfl ?_
    refine lv_goto (tgt := 40) hx hb dL_cut_9 (by decide) ?_
    exact z_lret hx hb hr hlocks hw (by omega) (by omega) dL_cut_40 ⟨congrArg (fun z => some (Value.long z)) (by unfold zcut; rw [if_pos c_1]), rfl, rfl⟩

theorem hi_L_draw_L : ∀ w ∈ wsL0, w ∈ wsL_draw := by decide +kernel
theorem hf_L_draw_17 : Cond.fieldLink RL 17 (TL 1).1 (TL 1).2.1 (TL 1).2.2.1 ∈ wsL_draw := by decide +kernel
theorem hf_L_draw_21 : Cond.fieldLink RL 21 (TL 0).1 (TL 0).2.1 (TL 0).2.2.1 ∈ wsL_draw := by decide +kernel
theorem hf_L_draw_29 : Cond.fieldLink RL 29 (TL 2).1 (TL 2).2.1 (TL 2).2.2.1 ∈ wsL_draw := by decide +kernel
set_option maxRecDepth 100000 in
set_option maxHeartbeats 4000000 in
theorem c_L_draw (l : Launch) (g : zG) (L : List Nat) (f : Nat → va_E) (b n : Nat) (xs : Nat → Int32) (hN : n ≤ 260) (a h : Nat) (σ : ZS) (T : Nat) (hT : T < 10000) (m9 : Nat) (h0 : 0 < m9) (h1 : m9 < 2 ^ 31) (hS : zLs T g b a h σ L f) : zCL l yL_draw wsL_draw { frames := 1, cells := 0, slots := 0, locals := 25 } 0 0 g b n xs [.ref a, .int (nI m9)] L f (fun r L1 f1 => ∃ v, v < m9 ∧ some (.int (nI v)) = r ∧ zLs (T + 1) g b a h σ L1 f1) zNo := by
  refine z_ofWL (cc := cL_draw) (maxL := 3) (ret := (some .int)) (by decide) rfl (Nat.le_of_ble_eq_true rfl) ?_
  intro p e s m args below meth c ls A hx hb hr hts hown hlocks hml htab hw hX hXs hbl hbA hl
  have hl : lv_has ls 3 [(0, .ref a), (1, .int (nI m9))] := hl
  have hown : s.vm.findClass RL = some m.cls := hown
  obtain ⟨t, k1, ht, hc, hH⟩ := hS
  have hu := zu_id hc.2
  refine lv_aload_n hx hb dL_draw_0 rfl (lv_at hl 0 rfl) ?_
  refine lv_aload_n hx hb dL_draw_1 rfl (lv_at hl 0 rfl) ?_
  refine zl_get (v := .int (nI t)) hx hb hts hi_L_draw_L hown hw hc.1 hu 1 (by decide) hf_L_draw_17 rfl dL_draw_2 ?_
  refine lv_if_ne (tgt := 18) hx hb dL_draw_5 (by decide) (fun c_1 => ?_) (fun c_1 => ?_)
  · refine lv_aload_n hx hb dL_draw_18 rfl (lv_at hl 0 rfl) ?_
    refine zl_get (v := .int k1) hx hb hts hi_L_draw_L hown hw hc.1 hu 2 (by decide) hf_L_draw_29 rfl dL_draw_19 ?_
    refine zl_put [.ref b, .int (nI t), .int k1, .ref h] (ty := .int) hx hb hts hi_L_draw_L hown hw hc.1 hu rfl 2 (by decide) hf_L_draw_29 rfl rfl rfl rfl rfl dL_draw_22 (fun f9 H locs hu hw => ?_)
    refine lv_aload_n hx hb dL_draw_25 rfl (lv_at hl 0 rfl) ?_
    refine lv_dup hx hb dL_draw_26 rfl ?_
    refine zl_get (v := .int (nI t)) hx hb hts hi_L_draw_L hown hw hc.1 hu 1 (by decide) hf_L_draw_17 rfl dL_draw_27 ?_
    refine lv_iconst (v := 1) hx hb dL_draw_30 (by decide) ?_
    refine lv_iadd hx hb dL_draw_31 ?_
    refine lv_topi (fun y9 hy9 => ?_)
    obtain rfl : y9 = (nI (t + 1)) := hy9.trans (nI_add t 1)
    refine zl_put [.ref b, .int (nI (t + 1)), .int k1, .ref h] (ty := .int) hx hb hts hi_L_draw_L hown hw hc.1 hu rfl 1 (by decide) hf_L_draw_17 rfl rfl rfl rfl rfl dL_draw_32 (fun f9 H locs hu hw => ?_)
    refine lv_aload_n hx hb dL_draw_35 rfl (lv_at hl 0 rfl) ?_
    refine zl_get (v := .int k1) hx hb hts hi_L_draw_L hown hw hc.1 hu 2 (by decide) hf_L_draw_29 rfl dL_draw_36 ?_
    refine lv_if_ne (tgt := 73) hx hb dL_draw_39 (by decide) (fun c_2 => ?_) (fun c_2 => ?_)
    · refine lv_aload_n hx hb dL_draw_73 rfl (lv_at hl 0 rfl) ?_
      refine zl_get (v := .int k1) hx hb hts hi_L_draw_L hown hw hc.1 hu 2 (by decide) hf_L_draw_29 rfl dL_draw_74 ?_
      refine lv_aload_n hx hb dL_draw_77 rfl (lv_at hl 0 rfl) ?_
      refine zl_get (v := .int (nI (t + 1))) hx hb hts hi_L_draw_L hown hw hc.1 hu 1 (by decide) hf_L_draw_17 rfl dL_draw_78 ?_
      refine z_callS (As := [.int k1, .int (nI (t + 1))]) (rest := []) ⟨hx, hb, hml, hown, hts⟩ hw hX (c_L_mixed l g _ _ k1 (nI (t + 1))) (va_cwS 2 hts gL_draw_L_mixed rfl rfl rfl (by decide +kernel) ⟨(Nat.le_of_ble_eq_true rfl), (Nat.le_of_ble_eq_true rfl)⟩) rfl hl.1 rfl (Nat.le_of_ble_eq_true rfl) dL_draw_81 ⟨by show _ ≤ (0 : Nat); omega, by show _ ≤ (0 : Nat); omega⟩ (fun _ _ _ _ _ _ _ hp => False.elim hp) (fun r9 L9 f9 H locs hp hw => ?_)
      obtain ⟨⟨w_3, rfl⟩, rfl, rfl⟩ := hp
      refine W.eq (g2 := F0 m 84 ls [.int w_3]) rfl ?_
      refine lv_istore_n (lv' := [(2, .int w_3), (0, .ref a), (1, .int (nI m9))]) hx hb dL_draw_84 rfl hl (by decide) rfl (fun ls hl => ?_)
      refine lv_iload_n hx hb dL_draw_85 rfl (lv_at hl 0 rfl) ?_
      refine lv_ldc (v := 2147483647) hx hb hown (hts (.constant RL 40 2147483647) (by decide +kernel)) dL_draw_86 ?_
      refine lv_iand hx hb dL_draw_88 ?_
      refine lv_iload_n hx hb dL_draw_89 rfl (lv_at hl 2 rfl) ?_
      refine lv_irem hx hb dL_draw_90 (nI_ne0 h0 h1) ?_
      obtain ⟨j9, hj9, ej9⟩ := z_mod w_3 h0 h1
      exact z_iret hx hb hr hlocks hw (by omega) (by omega) dL_draw_91 ⟨j9, hj9, by rw [ej9], zs_mk hc hH hu (by omega)⟩
    · refine lv_aload_n hx hb dL_draw_42 rfl (lv_at hl 0 rfl) ?_
      refine zl_get (v := .ref b) hx hb hts hi_L_draw_L hown hw hc.1 hu 0 (by decide) hf_L_draw_21 rfl dL_draw_43 ?_
      refine lv_aload_n hx hb dL_draw_46 rfl (lv_at hl 0 rfl) ?_
      refine zl_get (v := .int (nI (t + 1))) hx hb hts hi_L_draw_L hown hw hc.1 hu 1 (by decide) hf_L_draw_17 rfl dL_draw_47 ?_
      refine z_callSL (As := [.ref b, .int (nI (t + 1))]) (rest := []) ⟨hx, hb, hml, hown, hts⟩ hw hX hXs hbl hbA (c_L_cell l g _ _ b n xs hN (t + 1) (by omega)) (va_cwS 2 hts gL_draw_L_cell rfl rfl rfl (by decide +kernel) ⟨(Nat.le_of_ble_eq_true rfl), (Nat.le_of_ble_eq_true rfl)⟩) rfl hl.1 rfl (Nat.le_of_ble_eq_true rfl) dL_draw_50 ⟨by show _ ≤ (0 : Nat); omega, by show _ ≤ (0 : Nat); omega⟩ (fun r9 L9 f9 H locs hp hw => ?_)
      obtain ⟨⟨w_4, rfl⟩, rfl, rfl⟩ := hp
      refine W.eq (g2 := F0 m 53 ls [.int w_4]) rfl ?_
      refine lv_aload_n hx hb dL_draw_53 rfl (lv_at hl 0 rfl) ?_
      refine zl_get (v := .ref b) hx hb hts hi_L_draw_L hown hw hc.1 hu 0 (by decide) hf_L_draw_21 rfl dL_draw_54 ?_
      refine lv_aload_n hx hb dL_draw_57 rfl (lv_at hl 0 rfl) ?_
      refine zl_get (v := .int (nI (t + 1))) hx hb hts hi_L_draw_L hown hw hc.1 hu 1 (by decide) hf_L_draw_17 rfl dL_draw_58 ?_
      refine lv_iconst (v := 1) hx hb dL_draw_61 (by decide) ?_
      refine lv_iadd hx hb dL_draw_62 ?_
      refine lv_topi (fun y9 hy9 => ?_)
      obtain rfl : y9 = (nI ((t + 1) + 1)) := hy9.trans (nI_add (t + 1) 1)
      refine z_callSL (As := [.ref b, .int (nI ((t + 1) + 1))]) (rest := [.int w_4]) ⟨hx, hb, hml, hown, hts⟩ hw hX hXs hbl hbA (c_L_cell l g _ _ b n xs hN ((t + 1) + 1) (by omega)) (va_cwS 2 hts gL_draw_L_cell rfl rfl rfl (by decide +kernel) ⟨(Nat.le_of_ble_eq_true rfl), (Nat.le_of_ble_eq_true rfl)⟩) rfl hl.1 rfl (Nat.le_of_ble_eq_true rfl) dL_draw_63 ⟨by show _ ≤ (0 : Nat); omega, by show _ ≤ (0 : Nat); omega⟩ (fun r9 L9 f9 H locs hp hw => ?_)
      obtain ⟨⟨w_5, rfl⟩, rfl, rfl⟩ := hp
      refine W.eq (g2 := F0 m 66 ls [.int w_5, .int w_4]) rfl ?_
      refine lv_bipush (v := 7) hx hb dL_draw_66 (by decide) ?_
      refine lv_iushr (v := (w_5.toUInt32 >>> (((7 : Int32)).toUInt32 &&& Int32.toUInt32 31)).toInt32) hx hb dL_draw_68 rfl ?_
      refine lv_ixor hx hb dL_draw_69 ?_
      refine lv_goto (tgt := 84) hx hb dL_draw_70 (by decide) ?_
      refine lv_istore_n (lv' := [(2, .int (w_4 ^^^ ((w_5.toUInt32 >>> (((7 : Int32)).toUInt32 &&& Int32.toUInt32 31)).toInt32))), (0, .ref a), (1, .int (nI m9))]) hx hb dL_draw_84 rfl hl (by decide) rfl (fun ls hl => ?_)
      refine lv_iload_n hx hb dL_draw_85 rfl (lv_at hl 0 rfl) ?_
      refine lv_ldc (v := 2147483647) hx hb hown (hts (.constant RL 40 2147483647) (by decide +kernel)) dL_draw_86 ?_
      refine lv_iand hx hb dL_draw_88 ?_
      refine lv_iload_n hx hb dL_draw_89 rfl (lv_at hl 2 rfl) ?_
      refine lv_irem hx hb dL_draw_90 (nI_ne0 h0 h1) ?_
      obtain ⟨j9, hj9, ej9⟩ := z_mod (w_4 ^^^ ((w_5.toUInt32 >>> (((7 : Int32)).toUInt32 &&& Int32.toUInt32 31)).toInt32)) h0 h1
      exact z_iret hx hb hr hlocks hw (by omega) (by omega) dL_draw_91 ⟨j9, hj9, by rw [ej9], zs_mk hc hH hu (by omega)⟩
  · refine lv_aload_n hx hb dL_draw_8 rfl (lv_at hl 0 rfl) ?_
    refine zl_get (v := .ref b) hx hb hts hi_L_draw_L hown hw hc.1 hu 0 (by decide) hf_L_draw_21 rfl dL_draw_9 ?_
    refine z_callSL (As := [.ref b]) (rest := [.ref a]) ⟨hx, hb, hml, hown, hts⟩ hw hX hXs hbl hbA (c_L_stirred l g _ _ b n xs hN) (va_cwS 1 hts gL_draw_L_stirred rfl rfl rfl (by decide +kernel) ⟨(Nat.le_of_ble_eq_true rfl), (Nat.le_of_ble_eq_true rfl)⟩) rfl hl.1 rfl (Nat.le_of_ble_eq_true rfl) dL_draw_12 ⟨by show _ ≤ (0 : Nat); omega, by show _ ≤ (0 : Nat); omega⟩ (fun r9 L9 f9 H locs hp hw => ?_)
    obtain ⟨⟨w_6, rfl⟩, rfl, rfl⟩ := hp
    refine W.eq (g2 := F0 m 15 ls [.int w_6, .ref a]) rfl ?_
    refine lv_goto (tgt := 22) hx hb dL_draw_15 (by decide) ?_
    refine zl_put [.ref b, .int (nI t), .int w_6, .ref h] (ty := .int) hx hb hts hi_L_draw_L hown hw hc.1 hu rfl 2 (by decide) hf_L_draw_29 rfl rfl rfl rfl rfl dL_draw_22 (fun f9 H locs hu hw => ?_)
    refine lv_aload_n hx hb dL_draw_25 rfl (lv_at hl 0 rfl) ?_
    refine lv_dup hx hb dL_draw_26 rfl ?_
    refine zl_get (v := .int (nI t)) hx hb hts hi_L_draw_L hown hw hc.1 hu 1 (by decide) hf_L_draw_17 rfl dL_draw_27 ?_
    refine lv_iconst (v := 1) hx hb dL_draw_30 (by decide) ?_
    refine lv_iadd hx hb dL_draw_31 ?_
    refine lv_topi (fun y9 hy9 => ?_)
    obtain rfl : y9 = (nI (t + 1)) := hy9.trans (nI_add t 1)
    refine zl_put [.ref b, .int (nI (t + 1)), .int w_6, .ref h] (ty := .int) hx hb hts hi_L_draw_L hown hw hc.1 hu rfl 1 (by decide) hf_L_draw_17 rfl rfl rfl rfl rfl dL_draw_32 (fun f9 H locs hu hw => ?_)
    refine lv_aload_n hx hb dL_draw_35 rfl (lv_at hl 0 rfl) ?_
    refine zl_get (v := .int w_6) hx hb hts hi_L_draw_L hown hw hc.1 hu 2 (by decide) hf_L_draw_29 rfl dL_draw_36 ?_
    refine lv_if_ne (tgt := 73) hx hb dL_draw_39 (by decide) (fun c_7 => ?_) (fun c_7 => ?_)
    · refine lv_aload_n hx hb dL_draw_73 rfl (lv_at hl 0 rfl) ?_
      refine zl_get (v := .int w_6) hx hb hts hi_L_draw_L hown hw hc.1 hu 2 (by decide) hf_L_draw_29 rfl dL_draw_74 ?_
      refine lv_aload_n hx hb dL_draw_77 rfl (lv_at hl 0 rfl) ?_
      refine zl_get (v := .int (nI (t + 1))) hx hb hts hi_L_draw_L hown hw hc.1 hu 1 (by decide) hf_L_draw_17 rfl dL_draw_78 ?_
      refine z_callS (As := [.int w_6, .int (nI (t + 1))]) (rest := []) ⟨hx, hb, hml, hown, hts⟩ hw hX (c_L_mixed l g _ _ w_6 (nI (t + 1))) (va_cwS 2 hts gL_draw_L_mixed rfl rfl rfl (by decide +kernel) ⟨(Nat.le_of_ble_eq_true rfl), (Nat.le_of_ble_eq_true rfl)⟩) rfl hl.1 rfl (Nat.le_of_ble_eq_true rfl) dL_draw_81 ⟨by show _ ≤ (0 : Nat); omega, by show _ ≤ (0 : Nat); omega⟩ (fun _ _ _ _ _ _ _ hp => False.elim hp) (fun r9 L9 f9 H locs hp hw => ?_)
      obtain ⟨⟨w_8, rfl⟩, rfl, rfl⟩ := hp
      refine W.eq (g2 := F0 m 84 ls [.int w_8]) rfl ?_
      refine lv_istore_n (lv' := [(2, .int w_8), (0, .ref a), (1, .int (nI m9))]) hx hb dL_draw_84 rfl hl (by decide) rfl (fun ls hl => ?_)
      refine lv_iload_n hx hb dL_draw_85 rfl (lv_at hl 0 rfl) ?_
      refine lv_ldc (v := 2147483647) hx hb hown (hts (.constant RL 40 2147483647) (by decide +kernel)) dL_draw_86 ?_
      refine lv_iand hx hb dL_draw_88 ?_
      refine lv_iload_n hx hb dL_draw_89 rfl (lv_at hl 2 rfl) ?_
      refine lv_irem hx hb dL_draw_90 (nI_ne0 h0 h1) ?_
      obtain ⟨j9, hj9, ej9⟩ := z_mod w_8 h0 h1
      exact z_iret hx hb hr hlocks hw (by omega) (by omega) dL_draw_91 ⟨j9, hj9, by rw [ej9], zs_mk hc hH hu (by omega)⟩
    · refine lv_aload_n hx hb dL_draw_42 rfl (lv_at hl 0 rfl) ?_
      refine zl_get (v := .ref b) hx hb hts hi_L_draw_L hown hw hc.1 hu 0 (by decide) hf_L_draw_21 rfl dL_draw_43 ?_
      refine lv_aload_n hx hb dL_draw_46 rfl (lv_at hl 0 rfl) ?_
      refine zl_get (v := .int (nI (t + 1))) hx hb hts hi_L_draw_L hown hw hc.1 hu 1 (by decide) hf_L_draw_17 rfl dL_draw_47 ?_
      refine z_callSL (As := [.ref b, .int (nI (t + 1))]) (rest := []) ⟨hx, hb, hml, hown, hts⟩ hw hX hXs hbl hbA (c_L_cell l g _ _ b n xs hN (t + 1) (by omega)) (va_cwS 2 hts gL_draw_L_cell rfl rfl rfl (by decide +kernel) ⟨(Nat.le_of_ble_eq_true rfl), (Nat.le_of_ble_eq_true rfl)⟩) rfl hl.1 rfl (Nat.le_of_ble_eq_true rfl) dL_draw_50 ⟨by show _ ≤ (0 : Nat); omega, by show _ ≤ (0 : Nat); omega⟩ (fun r9 L9 f9 H locs hp hw => ?_)
      obtain ⟨⟨w_9, rfl⟩, rfl, rfl⟩ := hp
      refine W.eq (g2 := F0 m 53 ls [.int w_9]) rfl ?_
      refine lv_aload_n hx hb dL_draw_53 rfl (lv_at hl 0 rfl) ?_
      refine zl_get (v := .ref b) hx hb hts hi_L_draw_L hown hw hc.1 hu 0 (by decide) hf_L_draw_21 rfl dL_draw_54 ?_
      refine lv_aload_n hx hb dL_draw_57 rfl (lv_at hl 0 rfl) ?_
      refine zl_get (v := .int (nI (t + 1))) hx hb hts hi_L_draw_L hown hw hc.1 hu 1 (by decide) hf_L_draw_17 rfl dL_draw_58 ?_
      refine lv_iconst (v := 1) hx hb dL_draw_61 (by decide) ?_
      refine lv_iadd hx hb dL_draw_62 ?_
      refine lv_topi (fun y9 hy9 => ?_)
      obtain rfl : y9 = (nI ((t + 1) + 1)) := hy9.trans (nI_add (t + 1) 1)
      refine z_callSL (As := [.ref b, .int (nI ((t + 1) + 1))]) (rest := [.int w_9]) ⟨hx, hb, hml, hown, hts⟩ hw hX hXs hbl hbA (c_L_cell l g _ _ b n xs hN ((t + 1) + 1) (by omega)) (va_cwS 2 hts gL_draw_L_cell rfl rfl rfl (by decide +kernel) ⟨(Nat.le_of_ble_eq_true rfl), (Nat.le_of_ble_eq_true rfl)⟩) rfl hl.1 rfl (Nat.le_of_ble_eq_true rfl) dL_draw_63 ⟨by show _ ≤ (0 : Nat); omega, by show _ ≤ (0 : Nat); omega⟩ (fun r9 L9 f9 H locs hp hw => ?_)
      obtain ⟨⟨w_10, rfl⟩, rfl, rfl⟩ := hp
      refine W.eq (g2 := F0 m 66 ls [.int w_10, .int w_9]) rfl ?_
      refine lv_bipush (v := 7) hx hb dL_draw_66 (by decide) ?_
      refine lv_iushr (v := (w_10.toUInt32 >>> (((7 : Int32)).toUInt32 &&& Int32.toUInt32 31)).toInt32) hx hb dL_draw_68 rfl ?_
      refine lv_ixor hx hb dL_draw_69 ?_
      refine lv_goto (tgt := 84) hx hb dL_draw_70 (by decide) ?_
      refine lv_istore_n (lv' := [(2, .int (w_9 ^^^ ((w_10.toUInt32 >>> (((7 : Int32)).toUInt32 &&& Int32.toUInt32 31)).toInt32))), (0, .ref a), (1, .int (nI m9))]) hx hb dL_draw_84 rfl hl (by decide) rfl (fun ls hl => ?_)
      refine lv_iload_n hx hb dL_draw_85 rfl (lv_at hl 0 rfl) ?_
      refine lv_ldc (v := 2147483647) hx hb hown (hts (.constant RL 40 2147483647) (by decide +kernel)) dL_draw_86 ?_
      refine lv_iand hx hb dL_draw_88 ?_
      refine lv_iload_n hx hb dL_draw_89 rfl (lv_at hl 2 rfl) ?_
      refine lv_irem hx hb dL_draw_90 (nI_ne0 h0 h1) ?_
      obtain ⟨j9, hj9, ej9⟩ := z_mod (w_9 ^^^ ((w_10.toUInt32 >>> (((7 : Int32)).toUInt32 &&& Int32.toUInt32 31)).toInt32)) h0 h1
      exact z_iret hx hb hr hlocks hw (by omega) (by omega) dL_draw_91 ⟨j9, hj9, by rw [ej9], zs_mk hc hH hu (by omega)⟩

set_option maxRecDepth 100000 in
set_option maxHeartbeats 4000000 in
theorem c_L_anyKind (l : Launch) (g : zG) (L : List Nat) (f : Nat → va_E) (b n : Nat) (xs : Nat → Int32) (hN : n ≤ 260) (a h : Nat) (σ : ZS) (T : Nat) (hT : T < 9999) (hS : zLs T g b a h σ L f) : zCL l yL_anyKind wsL_anyKind { frames := 2, cells := 0, slots := 0, locals := 47 } 0 0 g b n xs [.ref a] L f (fun r L1 f1 => ∃ k, zKind k ∧ some (.int k) = r ∧ zLs (T + 1) g b a h σ L1 f1) zNo := by
  refine z_ofWL (cc := cL_anyKind) (maxL := 2) (ret := (some .char)) (by decide) rfl (Nat.le_of_ble_eq_true rfl) ?_
  intro p e s m args below meth c ls A hx hb hr hts hown hlocks hml htab hw hX hXs hbl hbA hl
  have hl : lv_has ls 2 [(0, .ref a)] := hl
  have hown : s.vm.findClass RL = some m.cls := hown
  refine lv_aload_n hx hb dL_anyKind_0 rfl (lv_at hl 0 rfl) ?_
  refine lv_iconst (v := 4) hx hb dL_anyKind_1 (by decide) ?_
  refine z_callVL (As := [.int 4]) (rest := []) ⟨hx, hb, hml, hown, hts⟩ hw hX hXs hbl hbA hS.cell.choose_spec rfl (c_L_draw l g _ _ b n xs hN a h _ _ (by omega) 4 (by omega) (by omega) hS) (cwV 1 hts gL_anyKind_L_draw rfl rfl rfl (by decide +kernel) ⟨(Nat.le_of_ble_eq_true rfl), (Nat.le_of_ble_eq_true rfl)⟩) rfl hl.1 rfl (Nat.le_of_ble_eq_true rfl) dL_anyKind_2 ⟨by show _ ≤ (0 : Nat); omega, by show _ ≤ (0 : Nat); omega⟩ (fun r9 L9 f9 H locs hp hw => ?_)
  obtain ⟨v1, hv1, rfl, hS⟩ := hp
  refine W.eq (g2 := F0 m 5 ls [.int (nI v1)]) rfl ?_
  refine lv_istore_n (lv' := [(1, .int (nI v1)), (0, .ref a)]) hx hb dL_anyKind_5 rfl hl (by decide) rfl (fun ls hl => ?_)
  refine lv_iload_n hx hb dL_anyKind_6 rfl (lv_at hl 0 rfl) ?_
  refine lv_if_ne (tgt := 15) hx hb dL_anyKind_7 (by decide) (fun c_1 => ?_) (fun c_1 => ?_)
  · refine lv_iload_n hx hb dL_anyKind_15 rfl (lv_at hl 0 rfl) ?_
    refine lv_iconst (v := 1) hx hb dL_anyKind_16 (by decide) ?_
    refine lv_icmp_ne (tgt := 25) hx hb dL_anyKind_17 (by decide) (fun c_2 => ?_) (fun c_2 => ?_)
    · refine lv_iload_n hx hb dL_anyKind_25 rfl (lv_at hl 0 rfl) ?_
      refine lv_iconst (v := 2) hx hb dL_anyKind_26 (by decide) ?_
      refine lv_icmp_ne (tgt := 35) hx hb dL_anyKind_27 (by decide) (fun c_3 => ?_) (fun c_3 => ?_)
      · refine lv_bipush (v := 115) hx hb dL_anyKind_35 (by decide) ?_
        exact z_zret hx hb hr hlocks rfl hw (by omega) (by omega) dL_anyKind_37 ⟨115, Or.inr (Or.inr (Or.inr rfl)), rfl, hS⟩
      · refine lv_bipush (v := 99) hx hb dL_anyKind_30 (by decide) ?_
        refine lv_goto (tgt := 37) hx hb dL_anyKind_32 (by decide) ?_
        exact z_zret hx hb hr hlocks rfl hw (by omega) (by omega) dL_anyKind_37 ⟨99, Or.inr (Or.inr (Or.inl rfl)), rfl, hS⟩
    · refine lv_bipush (v := 108) hx hb dL_anyKind_20 (by decide) ?_
      refine lv_goto (tgt := 37) hx hb dL_anyKind_22 (by decide) ?_
      exact z_zret hx hb hr hlocks rfl hw (by omega) (by omega) dL_anyKind_37 ⟨108, Or.inr (Or.inl rfl), rfl, hS⟩
  · refine lv_bipush (v := 105) hx hb dL_anyKind_10 (by decide) ?_
    refine lv_goto (tgt := 37) hx hb dL_anyKind_12 (by decide) ?_
    exact z_zret hx hb hr hlocks rfl hw (by omega) (by omega) dL_anyKind_37 ⟨105, Or.inl rfl, rfl, hS⟩
