theorem hi_L_init_L : ∀ w ∈ wsL0, w ∈ wsL_init := by decide +kernel
theorem hi_L_init_X1 : ∀ w ∈ wsX10, w ∈ wsL_init := by decide +kernel
theorem hf_L_init_10 : Cond.fieldLink RL 10 (TL 3).1 (TL 3).2.1 (TL 3).2.2.1 ∈ wsL_init := by decide +kernel
theorem hn1_L_init : Cond.classLink RL 7 RX1 ∈ wsL_init := by decide +kernel
theorem hn2_L_init : Cond.instantiable RX1 4 ∈ wsL_init := by decide +kernel
theorem hn3_L_init : Cond.initialized RX1 ∈ wsL_init := by decide +kernel
theorem zfsX1 : ∀ j, j < 4 → defaultValue (tyX1 j) = vp_V [.null, .null, .null, .null] j := fun j hj => by
  match j, hj with
  | 0, _ => rfl
  | 1, _ => rfl
  | 2, _ => rfl
  | 3, _ => rfl
theorem zfsL : ∀ j, j < 4 → defaultValue (tyL j) = vp_V [.null, .int 0, .int 0, .null] j := fun j hj => by
  match j, hj with
  | 0, _ => rfl
  | 1, _ => rfl
  | 2, _ => rfl
  | 3, _ => rfl
set_option maxRecDepth 100000 in
set_option maxHeartbeats 4000000 in
theorem c_L_init (l : Launch) (g : zG) (L : List Nat) (f : Nat → va_E) (a : Nat) (hc : zc L f a (.inr (2, [.null, .int 0, .int 0, .null]))) : zC l yL_init wsL_init { frames := 3, cells := 25, slots := 94, locals := 53 } 25 94 g [.ref a] L f (fun r L1 f1 => none = r ∧ ∃ h, zc L1 f1 a (.inr (2, [.null, .int 0, .int 0, .ref h])) ∧ zHC g h (fun q => q = a) zS0 L1 f1) zNo := by
  refine z_ofW (cc := cL_init) (maxL := 1) (ret := none) (by decide) rfl (Nat.le_of_ble_eq_true rfl) ?_
  intro p e s m args below meth c ls A hx hb hr hts hown hlocks hml htab hin hw hX hl
  have hl : lv_has ls 1 [(0, .ref a)] := hl
  have hown : s.vm.findClass RL = some m.cls := hown
  refine lv_aload_n hx hb dL_init_0 rfl (lv_at hl 0 rfl) ?_
  refine W.objInit hx hb hown (hts (.methodLink RL 1 Lib.objectInit) (by decide +kernel)) (hts (.instanceMethod Lib.objectInit) (by decide +kernel)) (hts (.code Lib.objectInit ⟨#[0xb1]⟩ 1 none) (by decide +kernel)) (g := F0 m 1 ls [.ref a]) rfl (hml.trans hl.1.symm).symm rfl dL_init_1 (Nat.le_of_ble_eq_true rfl) (Nat.le_of_ble_eq_true rfl) ?_
  refine W.eq (g2 := F0 m 4 ls []) rfl ?_
  refine lv_aload_n hx hb dL_init_4 rfl (lv_at hl 0 rfl) ?_
  refine zr_new (C := RX1) (T := TX1) (N := 4) (ci := 1) (fs := [.null, .null, .null, .null]) hx hb hts hi_L_init_X1 tyX1 tyX1_ok hown hn1_L_init hn2_L_init hn3_L_init hw rfl zfsX1 (Nat.le_of_ble_eq_true rfl) (Nat.le_of_ble_eq_true rfl) dL_init_5 (fun h H hh hw => ?_)
  have hne : a ≠ h := fun e9 => hh (e9 ▸ hc.1)
  refine lv_dup hx hb dL_init_8 rfl ?_
  refine z_callI (As := []) (rest := [.ref h, .ref a]) ⟨hx, hb, hml, hown, hts⟩ hw hX (c_X1_init l g _ _ h (fun q => q = a) (fun q hq => List.mem_append_left _ (hq ▸ hc.1)) (fun q => hne q.symm) zc.new) (cwI 0 hts gL_init_X1_init rfl rfl rfl (hts (.initialized RX1) (by decide +kernel)) (hts (.methodLink RL 9 yX1_init) (by decide +kernel)) (hts (.instanceMethod yX1_init) (by decide +kernel)) rfl (by decide +kernel) ⟨(Nat.le_of_ble_eq_true rfl), (Nat.le_of_ble_eq_true rfl)⟩) rfl hl.1 rfl (Nat.le_of_ble_eq_true rfl) dL_init_9 ⟨(Nat.le_of_ble_eq_true rfl), (Nat.le_of_ble_eq_true rfl)⟩ (fun _ _ _ _ _ _ _ hp => False.elim hp) (fun r9 L1 f1 H locs hp hw => ?_)
  obtain ⟨rfl, hH1, hfr⟩ := hp
  refine W.eq (g2 := F0 m 12 ls [.ref h, .ref a]) rfl ?_
  have hc1 : zc L1 f1 a (.inr (2, [.null, .int 0, .int 0, .null])) := ⟨zHC_in hH1 rfl, (hfr a rfl).trans ((va_up_ne _ _ hne).trans hc.2)⟩
  refine zr_putF (C := RL) (T := TL) (N := 4) (ci := 2) (ty := tyL 3) hx hb hts hi_L_init_L tyL tyL_ok nmL hown hw hc1 rfl 3 (by decide) hf_L_init_10 rfl hin rfl rfl rfl rfl (Nat.le_of_ble_eq_true rfl) dL_init_12 (fun H locs hw => ?_)
  exact z_vret hx hb hr hlocks hw (Nat.le_of_ble_eq_true rfl) (Nat.le_of_ble_eq_true rfl) dL_init_15 ⟨rfl, h, zc.up hc1.1, zHC_fr hH1 (fun q hq => va_up_ne _ _ hq)⟩

theorem hi_L_holdsAll_L : ∀ w ∈ wsL0, w ∈ wsL_holdsAll := by decide +kernel
theorem hf_L_holdsAll_10 : Cond.fieldLink RL 10 (TL 3).1 (TL 3).2.1 (TL 3).2.2.1 ∈ wsL_holdsAll := by decide +kernel
theorem hf_L_holdsAll_21 : Cond.fieldLink RL 21 (TL 0).1 (TL 0).2.1 (TL 0).2.2.1 ∈ wsL_holdsAll := by decide +kernel
set_option maxRecDepth 100000 in
set_option maxHeartbeats 4000000 in
theorem c_L_holdsAll (l : Launch) (hl0 : l.stackTraces = false) (g : zG) (L : List Nat) (f : Nat → va_E) (b n : Nat) (xs : Nat → Int32) (hN : n ≤ 260) (a h : Nat) (σ : ZS) (hc : zc L f a (.inr (2, [.null, .int 0, .int 0, .ref h]))) (hH : zHC g h (fun q => q = a) σ L f) : zCL l yL_holdsAll wsL_holdsAll { frames := 12, cells := 2400, slots := 15000, locals := 225 } 2400 15000 g b n xs [.ref a, .ref b] L f (fun r L1 f1 => some (.int 1) = r) zNo := by
  refine z_ofWL (cc := cL_holdsAll) (maxL := 5) (ret := (some .boolean)) (by decide) rfl (Nat.le_of_ble_eq_true rfl) ?_
  intro p e s m args below meth c ls A hx hb hr hts hown hlocks hml htab hw hX hXs hbl hbA hl
  have hl : lv_has ls 5 [(0, .ref a), (1, .ref b)] := hl
  have hown : s.vm.findClass RL = some m.cls := hown
  have hu := zu_id hc.2
  refine lv_aload_n hx hb dL_holdsAll_0 rfl (lv_at hl 0 rfl) ?_
  refine lv_aload_n hx hb dL_holdsAll_1 rfl (lv_at hl 1 rfl) ?_
  refine zl_put [.ref b, .int 0, .int 0, .ref h] (ty := (.array .int)) hx hb hts hi_L_holdsAll_L hown hw hc.1 hu rfl 0 (by decide) hf_L_holdsAll_21 rfl rfl rfl rfl rfl dL_holdsAll_2 (fun f9 H locs hu hw => ?_)
  have hS : zLs 0 g b a h σ L f9 := zs_mk (t := 0) hc hH (show va_up f a (.inr (2, [.ref b, .int (nI 0), .int 0, .ref h])) = f9 from hu) (Nat.le_refl 0)
  refine lv_iconst (v := 1) hx hb dL_holdsAll_5 (by decide) ?_
  refine lv_istore_n (lv' := [(2, .int 1), (0, .ref a), (1, .ref b)]) hx hb dL_holdsAll_6 rfl hl (by decide) rfl (fun ls hl => ?_)
  refine lv_iconst (v := 0) hx hb dL_holdsAll_7 (by decide) ?_
  refine lv_istore_n (lv' := [(3, .int 0), (2, .int 1), (0, .ref a), (1, .ref b)]) hx hb dL_holdsAll_8 rfl hl (by decide) rfl (fun ls hl => ?_)
  refine W.widen (k := 0) (n := 0) (by omega) (by omega) ?_
  have loop_9 : ∀ (n9 : Nat) (j : Nat) (σ : ZS) (L : List Nat) (f : Nat → va_E) (H : Heap) (locs : List Loc) (ls : Array Slot), (j + n9 = 6) → (j ≤ 5) → zLs (22 * j) g b a h σ L f → zW g A s L f H locs → lv_has ls 5 [(0, .ref a), (1, .ref b), (2, .int 1), (3, .int (nI j))] → W p l e { frames := 12, cells := 2400, slots := 15000, locals := 225 } s m args below meth c H locs (0 + 450 * j) (0 + 2800 * j) (vx_MQ below (zQ g A (fun r L1 f1 => some (.int 1) = r)) (zXC g A zNo) args s 2400 15000 A) (F0 m 9 ls []) := by
    intro n9
    induction n9 with
    | zero =>
      intro j σ L f H locs ls hj h5 hS hw hl
      exact absurd h5 (by omega)
    | succ n9 ih_9 =>
      intro j σ L f H locs ls hj h5 hS hw hl
      refine lv_iload_n hx hb dL_holdsAll_9 rfl (lv_at hl 3 rfl) ?_
      refine lv_iconst (v := 3) hx hb dL_holdsAll_10 (by decide) ?_
      refine lv_aload_n hx hb dL_holdsAll_11 rfl (lv_at hl 0 rfl) ?_
      refine lv_iconst (v := 3) hx hb dL_holdsAll_12 (by decide) ?_
      refine z_callVL (As := [.int 3]) (rest := [.int 3, .int (nI j)]) ⟨hx, hb, hml, hown, hts⟩ hw hX hXs hbl hbA hS.cell.choose_spec rfl (c_L_draw l g _ _ b n xs hN a h _ _ (by omega) 3 (by omega) (by omega) hS) (cwV 1 hts gL_holdsAll_L_draw rfl rfl rfl (by decide +kernel) ⟨(Nat.le_of_ble_eq_true rfl), (Nat.le_of_ble_eq_true rfl)⟩) rfl hl.1 rfl (Nat.le_of_ble_eq_true rfl) dL_holdsAll_13 ⟨by show _ ≤ (2400 : Nat); omega, by show _ ≤ (15000 : Nat); omega⟩ (fun r9 L9 f9 H locs hp hw => ?_)
      obtain ⟨v1, hv1, rfl, hS⟩ := hp
      refine W.eq (g2 := F0 m 16 ls [.int (nI v1), .int 3, .int (nI j)]) rfl ?_
      refine lv_iadd hx hb dL_holdsAll_16 ?_
      refine lv_topi (fun y9 hy9 => ?_)
      obtain rfl : y9 = (nI (3 + v1)) := hy9.trans (nI_add 3 v1)
      refine lv_icmp_ge (tgt := 80) hx hb dL_holdsAll_17 (by decide) (fun c_1 => ?_) (fun c_1 => ?_)
      · rw [nI_leI (by omega) (by omega)] at c_1
        refine lv_iload_n hx hb dL_holdsAll_80 rfl (lv_at hl 2 rfl) ?_
        refine lv_if_eq (tgt := 98) hx hb dL_holdsAll_81 (by decide) (fun c_2 => absurd c_2 (by decide)) (fun c_2 => ?_)
        refine lv_aload_n hx hb dL_holdsAll_84 rfl (lv_at hl 0 rfl) ?_
        refine zs_x hx hb hts hi_L_holdsAll_L hown hw hS hf_L_holdsAll_10 dL_holdsAll_85 ?_
        refine zs_callN (α := Int32) Value.int (As := []) (rest := []) (v := (1 : Int32)) (σ1 := σ) rfl ⟨hx, hb, hml, hown, hts⟩ hw hX hS (c_X1_isTrue l g _ _ h _ _ (zs_H hS)) (cwV 0 hts gL_holdsAll_X1_isTrue rfl rfl rfl (by decide +kernel) ⟨(Nat.le_of_ble_eq_true rfl), (Nat.le_of_ble_eq_true rfl)⟩) rfl hl.1 rfl (Nat.le_of_ble_eq_true rfl) dL_holdsAll_88 ⟨by show _ ≤ (2400 : Nat); omega, by show _ ≤ (15000 : Nat); omega⟩ (fun L f H locs hS hw => ?_)
        refine W.eq (g2 := F0 m 91 ls [.int 1]) rfl ?_
        refine lv_if_eq (tgt := 98) hx hb dL_holdsAll_91 (by decide) (fun c_3 => absurd c_3 (by decide)) (fun c_3 => ?_)
        refine lv_iconst (v := 1) hx hb dL_holdsAll_94 (by decide) ?_
        refine lv_goto (tgt := 99) hx hb dL_holdsAll_95 (by decide) ?_
        exact z_zret hx hb hr hlocks rfl hw (by omega) (by omega) dL_holdsAll_99 rfl
      · rw [nI_leI (by omega) (by omega)] at c_1
        refine lv_iload_n hx hb dL_holdsAll_20 rfl (lv_at hl 2 rfl) ?_
        refine lv_if_eq (tgt := 80) hx hb dL_holdsAll_21 (by decide) (fun c_4 => absurd c_4 (by decide)) (fun c_4 => ?_)
        refine lv_aload_n hx hb dL_holdsAll_24 rfl (lv_at hl 0 rfl) ?_
        refine lv_iconst (v := 4) hx hb dL_holdsAll_25 (by decide) ?_
        refine z_callVL (As := [.int 4]) (rest := []) ⟨hx, hb, hml, hown, hts⟩ hw hX hXs hbl hbA hS.cell.choose_spec rfl (c_L_draw l g _ _ b n xs hN a h _ _ (by omega) 4 (by omega) (by omega) hS) (cwV 1 hts gL_holdsAll_L_draw rfl rfl rfl (by decide +kernel) ⟨(Nat.le_of_ble_eq_true rfl), (Nat.le_of_ble_eq_true rfl)⟩) rfl hl.1 rfl (Nat.le_of_ble_eq_true rfl) dL_holdsAll_26 ⟨by show _ ≤ (2400 : Nat); omega, by show _ ≤ (15000 : Nat); omega⟩ (fun r9 L9 f9 H locs hp hw => ?_)
        obtain ⟨v2, hv2, rfl, hS⟩ := hp
        refine W.eq (g2 := F0 m 29 ls [.int (nI v2)]) rfl ?_
        refine lv_istore (lv' := [(4, .int (nI v2)), (0, .ref a), (1, .ref b), (2, .int 1), (3, .int (nI j))]) hx hb dL_holdsAll_29 hl (by decide) rfl (fun ls hl => ?_)
        refine lv_iload hx hb dL_holdsAll_31 (lv_at hl 0 rfl) ?_
        refine lv_if_ne (tgt := 43) hx hb dL_holdsAll_33 (by decide) (fun c_5 => ?_) (fun c_5 => ?_)
        · refine lv_iload hx hb dL_holdsAll_43 (lv_at hl 0 rfl) ?_
          refine lv_iconst (v := 1) hx hb dL_holdsAll_45 (by decide) ?_
          refine lv_icmp_ne (tgt := 56) hx hb dL_holdsAll_46 (by decide) (fun c_6 => ?_) (fun c_6 => ?_)
          · refine lv_iload hx hb dL_holdsAll_56 (lv_at hl 0 rfl) ?_
            refine lv_iconst (v := 2) hx hb dL_holdsAll_58 (by decide) ?_
            refine lv_icmp_ne (tgt := 69) hx hb dL_holdsAll_59 (by decide) (fun c_7 => ?_) (fun c_7 => ?_)
            · refine lv_aload_n hx hb dL_holdsAll_69 rfl (lv_at hl 1 rfl) ?_
              refine z_callVL (As := []) (rest := []) ⟨hx, hb, hml, hown, hts⟩ hw hX hXs hbl hbA hS.cell.choose_spec rfl (c_L_isWrapped l hl0 g _ _ b n xs hN a h _ _ (by omega) hS) (cwV 0 hts gL_holdsAll_L_isWrapped rfl rfl rfl (by decide +kernel) ⟨(Nat.le_of_ble_eq_true rfl), (Nat.le_of_ble_eq_true rfl)⟩) rfl hl.1 rfl (Nat.le_of_ble_eq_true rfl) dL_holdsAll_70 ⟨by show _ ≤ (2400 : Nat); omega, by show _ ≤ (15000 : Nat); omega⟩ (fun r9 L9 f9 H locs hp hw => ?_)
              obtain ⟨rfl, σ1, hS⟩ := hp
              refine W.eq (g2 := F0 m 73 ls [.int 1]) rfl ?_
              refine lv_istore_n (lv' := [(2, .int 1), (4, .int (nI v2)), (0, .ref a), (1, .ref b), (3, .int (nI j))]) hx hb dL_holdsAll_73 rfl hl (by decide) rfl (fun ls hl => ?_)
              refine lv_iinc (v := (nI (j + 1))) (lv' := [(3, .int (nI (j + 1))), (2, .int 1), (4, .int (nI v2)), (0, .ref a), (1, .ref b)]) hx hb dL_holdsAll_74 hl (k := 4) rfl (nI_1 j) (by decide) rfl (fun ls hl => ?_)
              refine lv_goto (tgt := 9) hx hb dL_holdsAll_77 (by decide) ?_
              refine W.widen (k := 0 + 450 * (j + 1)) (n := 0 + 2800 * (j + 1)) (by omega) (by omega) ?_
              refine ih_9 (j + 1) σ1 _ _ _ _ _ (by omega) (by omega) (hS.le (by omega)) hw ?_
              have hl := lv_sub hl (l' := [(0, .ref a), (1, .ref b), (2, .int 1), (3, .int (nI (j + 1)))]) [3, 4, 1, 0] rfl
              exact hl
            · refine lv_aload_n hx hb dL_holdsAll_62 rfl (lv_at hl 1 rfl) ?_
              refine z_callVL (As := []) (rest := []) ⟨hx, hb, hml, hown, hts⟩ hw hX hXs hbl hbA hS.cell.choose_spec rfl (c_L_isStill l hl0 g _ _ b n xs hN a h _ _ (by omega) hS) (cwV 0 hts gL_holdsAll_L_isStill rfl rfl rfl (by decide +kernel) ⟨(Nat.le_of_ble_eq_true rfl), (Nat.le_of_ble_eq_true rfl)⟩) rfl hl.1 rfl (Nat.le_of_ble_eq_true rfl) dL_holdsAll_63 ⟨by show _ ≤ (2400 : Nat); omega, by show _ ≤ (15000 : Nat); omega⟩ (fun r9 L9 f9 H locs hp hw => ?_)
              obtain ⟨rfl, σ1, hS⟩ := hp
              refine W.eq (g2 := F0 m 66 ls [.int 1]) rfl ?_
              refine lv_goto (tgt := 73) hx hb dL_holdsAll_66 (by decide) ?_
              refine lv_istore_n (lv' := [(2, .int 1), (4, .int (nI v2)), (0, .ref a), (1, .ref b), (3, .int (nI j))]) hx hb dL_holdsAll_73 rfl hl (by decide) rfl (fun ls hl => ?_)
              refine lv_iinc (v := (nI (j + 1))) (lv' := [(3, .int (nI (j + 1))), (2, .int 1), (4, .int (nI v2)), (0, .ref a), (1, .ref b)]) hx hb dL_holdsAll_74 hl (k := 4) rfl (nI_1 j) (by decide) rfl (fun ls hl => ?_)
              refine lv_goto (tgt := 9) hx hb dL_holdsAll_77 (by decide) ?_
              refine W.widen (k := 0 + 450 * (j + 1)) (n := 0 + 2800 * (j + 1)) (by omega) (by omega) ?_
              refine ih_9 (j + 1) σ1 _ _ _ _ _ (by omega) (by omega) (hS.le (by omega)) hw ?_
              have hl := lv_sub hl (l' := [(0, .ref a), (1, .ref b), (2, .int 1), (3, .int (nI (j + 1)))]) [3, 4, 1, 0] rfl
              exact hl
          · refine lv_aload_n hx hb dL_holdsAll_49 rfl (lv_at hl 1 rfl) ?_
            refine z_callVL (As := []) (rest := []) ⟨hx, hb, hml, hown, hts⟩ hw hX hXs hbl hbA hS.cell.choose_spec rfl (c_L_isKept l hl0 g _ _ b n xs hN a h _ _ (by omega) hS) (cwV 0 hts gL_holdsAll_L_isKept rfl rfl rfl (by decide +kernel) ⟨(Nat.le_of_ble_eq_true rfl), (Nat.le_of_ble_eq_true rfl)⟩) rfl hl.1 rfl (Nat.le_of_ble_eq_true rfl) dL_holdsAll_50 ⟨by show _ ≤ (2400 : Nat); omega, by show _ ≤ (15000 : Nat); omega⟩ (fun r9 L9 f9 H locs hp hw => ?_)
            obtain ⟨rfl, σ1, hS⟩ := hp
            refine W.eq (g2 := F0 m 53 ls [.int 1]) rfl ?_
            refine lv_goto (tgt := 73) hx hb dL_holdsAll_53 (by decide) ?_
            refine lv_istore_n (lv' := [(2, .int 1), (4, .int (nI v2)), (0, .ref a), (1, .ref b), (3, .int (nI j))]) hx hb dL_holdsAll_73 rfl hl (by decide) rfl (fun ls hl => ?_)
            refine lv_iinc (v := (nI (j + 1))) (lv' := [(3, .int (nI (j + 1))), (2, .int 1), (4, .int (nI v2)), (0, .ref a), (1, .ref b)]) hx hb dL_holdsAll_74 hl (k := 4) rfl (nI_1 j) (by decide) rfl (fun ls hl => ?_)
            refine lv_goto (tgt := 9) hx hb dL_holdsAll_77 (by decide) ?_
            refine W.widen (k := 0 + 450 * (j + 1)) (n := 0 + 2800 * (j + 1)) (by omega) (by omega) ?_
            refine ih_9 (j + 1) σ1 _ _ _ _ _ (by omega) (by omega) (hS.le (by omega)) hw ?_
            have hl := lv_sub hl (l' := [(0, .ref a), (1, .ref b), (2, .int 1), (3, .int (nI (j + 1)))]) [3, 4, 1, 0] rfl
            exact hl
        · refine lv_aload_n hx hb dL_holdsAll_36 rfl (lv_at hl 1 rfl) ?_
          refine z_callVL (As := []) (rest := []) ⟨hx, hb, hml, hown, hts⟩ hw hX hXs hbl hbA hS.cell.choose_spec rfl (c_L_isSeen l hl0 g _ _ b n xs hN a h _ _ (by omega) hS) (cwV 0 hts gL_holdsAll_L_isSeen rfl rfl rfl (by decide +kernel) ⟨(Nat.le_of_ble_eq_true rfl), (Nat.le_of_ble_eq_true rfl)⟩) rfl hl.1 rfl (Nat.le_of_ble_eq_true rfl) dL_holdsAll_37 ⟨by show _ ≤ (2400 : Nat); omega, by show _ ≤ (15000 : Nat); omega⟩ (fun r9 L9 f9 H locs hp hw => ?_)
          obtain ⟨rfl, σ1, hS⟩ := hp
          refine W.eq (g2 := F0 m 40 ls [.int 1]) rfl ?_
          refine lv_goto (tgt := 73) hx hb dL_holdsAll_40 (by decide) ?_
          refine lv_istore_n (lv' := [(2, .int 1), (4, .int (nI v2)), (0, .ref a), (1, .ref b), (3, .int (nI j))]) hx hb dL_holdsAll_73 rfl hl (by decide) rfl (fun ls hl => ?_)
          refine lv_iinc (v := (nI (j + 1))) (lv' := [(3, .int (nI (j + 1))), (2, .int 1), (4, .int (nI v2)), (0, .ref a), (1, .ref b)]) hx hb dL_holdsAll_74 hl (k := 4) rfl (nI_1 j) (by decide) rfl (fun ls hl => ?_)
          refine lv_goto (tgt := 9) hx hb dL_holdsAll_77 (by decide) ?_
          refine W.widen (k := 0 + 450 * (j + 1)) (n := 0 + 2800 * (j + 1)) (by omega) (by omega) ?_
          refine ih_9 (j + 1) σ1 _ _ _ _ _ (by omega) (by omega) (hS.le (by omega)) hw ?_
          have hl := lv_sub hl (l' := [(0, .ref a), (1, .ref b), (2, .int 1), (3, .int (nI (j + 1)))]) [3, 4, 1, 0] rfl
          exact hl
  refine loop_9 (6) 0 σ _ _ _ _ _ (by omega) (by omega) (hS.le (by omega)) hw ?_
  have hl := lv_sub hl (l' := [(0, .ref a), (1, .ref b), (2, .int 1), (3, .int 0)]) [2, 3, 1, 0] rfl
  exact hl
