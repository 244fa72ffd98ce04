theorem hi_L_isRefused_L : ∀ w ∈ wsL0, w ∈ wsL_isRefused := by decide +kernel
theorem hf_L_isRefused_10 : Cond.fieldLink RL 10 (TL 3).1 (TL 3).2.1 (TL 3).2.2.1 ∈ wsL_isRefused := by decide +kernel
set_option maxRecDepth 100000 in
set_option maxHeartbeats 4000000 in
theorem c_L_isRefused (l : Launch) (hl0 : l.stackTraces = false) (g : zG) (L : List Nat) (f : Nat → va_E) (b a h : Nat) (σ : ZS) (T i : Nat) {k : Int32} {d fr sz pl en : Nat} {mk : Int32} (hV : zV σ i k d fr sz pl en mk 1) (hi : i < 8) (hk : ¬ k = 0) (hS : zLs T g b a h σ L f) : zC l yL_isRefused wsL_isRefused { frames := 10, cells := 4, slots := 24, locals := 170 } 4 24 g [.ref a, .int (nI i)] L f (fun r L1 f1 => some (.int 1) = r ∧ zLs T g b a h σ L1 f1) zNo := by
  refine z_ofWH (cc := cL_isRefused) (maxL := 6) (ret := (some .boolean)) (hh := [(11, 22, 25, 112)]) (by decide) rfl (Nat.le_of_ble_eq_true rfl) ?_
  intro p e s m args below meth c ls A hx hb hr hts hown hlocks hml htab hw hX hl
  have hl : lv_has ls 6 [(0, .ref a), (1, .int (nI i))] := hl
  have hown : s.vm.findClass RL = some m.cls := hown
  refine lv_aload_n hx hb dL_isRefused_0 rfl (lv_at hl 0 rfl) ?_
  refine zs_x hx hb hts hi_L_isRefused_L hown hw hS hf_L_isRefused_10 dL_isRefused_1 ?_
  refine zs_callN (α := Int64) Value.long (As := []) (rest := []) (v := zCkrs σ 2) (σ1 := σ) rfl ⟨hx, hb, hml, hown, hts⟩ hw hX hS (c_X1_checksum l g _ _ h _ _ (zs_H hS)) (cwV 0 hts gL_isRefused_X1_checksum rfl rfl rfl (by decide +kernel) ⟨(Nat.le_of_ble_eq_true rfl), (Nat.le_of_ble_eq_true rfl)⟩) rfl hl.1 rfl (Nat.le_of_ble_eq_true rfl) dL_isRefused_4 ⟨by show _ ≤ (4 : Nat); omega, by show _ ≤ (24 : Nat); omega⟩ (fun L f H locs hS hw => ?_)
  refine W.eq (g2 := F0 m 7 ls [.long (zCkrs σ 2)]) rfl ?_
  refine lv_lstore_n (lv' := [(2, .long (zCkrs σ 2)), (0, .ref a), (1, .int (nI i))]) hx hb dL_isRefused_7 rfl hl (by decide) rfl (fun ls hl => ?_)
  refine lv_iconst (v := 0) hx hb dL_isRefused_8 (by decide) ?_
  refine lv_istore (lv' := [(4, .int 0), (2, .long (zCkrs σ 2)), (0, .ref a), (1, .int (nI i))]) hx hb dL_isRefused_9 hl (by decide) rfl (fun ls hl => ?_)
  refine lv_aload_n hx hb dL_isRefused_11 rfl (lv_at hl 2 rfl) ?_
  refine zs_x hx hb hts hi_L_isRefused_L hown hw hS hf_L_isRefused_10 dL_isRefused_12 ?_
  refine lv_iload_n hx hb dL_isRefused_15 rfl (lv_at hl 3 rfl) ?_
  refine lv_lconst (v := 1) hx hb dL_isRefused_16 (by decide) ?_
  obtain ⟨t9, k19, ht9, hc9, hH9⟩ := id hS
  obtain ⟨fs9, hcb⟩ := zHC_obj hH9
  refine z_callV (As := [.int (nI i), .long 1]) (rest := []) ⟨hx, hb, hml, hown, hts⟩ hw hX hcb rfl (c_X1_put l hl0 g _ _ h _ _ (nI i) 1 hH9) (cwV 2 hts gL_isRefused_X1_put rfl rfl rfl (by decide +kernel) ⟨(Nat.le_of_ble_eq_true rfl), (Nat.le_of_ble_eq_true rfl)⟩) rfl hl.1 rfl (Nat.le_of_ble_eq_true rfl) dL_isRefused_17 ⟨(Nat.le_of_ble_eq_true rfl), (Nat.le_of_ble_eq_true rfl)⟩ (fun E ce q9 L9 f9 H locs hp hw hce hcv hcl => ?_) (fun r9 L9 f9 H locs hp hw => ?_)
  · obtain ⟨⟨j9, hj, hk9⟩, rfl, rfl, -⟩ := hp
    rw [v_putRO hV hi hk] at hk9
    cases j9 with
    | zero => exact absurd (show (2 : Int32) = nI 1 from hk9) (by decide)
    | succ j9 =>
      cases j9 with
      | zero =>
        obtain rfl : "java/lang/UnsupportedOperationException" = E := Option.some.inj hj
        refine vx_catch (E := "java/lang/UnsupportedOperationException") hown (tableOf []) ⟨11, 22, 25, 112⟩ (tableOf []) htab (fun z hz => nomatch hz) rfl (by decide) (hts (.classLink RL 112 "java/lang/UnsupportedOperationException") (by decide +kernel)) (va_tabs rfl rfl (hX.2.2.1 "java/lang/UnsupportedOperationException" (by decide))) hce hcv hcl ?_
        refine W.eq (g2 := F0 m 25 ls [.ref q9]) rfl ?_
        refine lv_astore (lv' := [(5, .ref q9), (4, .int 0), (2, .long (zCkrs σ 2)), (0, .ref a), (1, .int (nI i))]) hx hb dL_isRefused_25 hl (by decide) rfl (fun ls hl => ?_)
        refine lv_iconst (v := 1) hx hb dL_isRefused_27 (by decide) ?_
        refine lv_istore (lv' := [(4, .int 1), (5, .ref q9), (2, .long (zCkrs σ 2)), (0, .ref a), (1, .int (nI i))]) hx hb dL_isRefused_28 hl (by decide) rfl (fun ls hl => ?_)
        refine lv_iload hx hb dL_isRefused_30 (lv_at hl 0 rfl) ?_
        refine lv_if_eq (tgt := 51) hx hb dL_isRefused_32 (by decide) (fun c_1 => absurd c_1 (by decide)) (fun c_1 => ?_)
        refine lv_aload_n hx hb dL_isRefused_35 rfl (lv_at hl 3 rfl) ?_
        refine zs_x hx hb hts hi_L_isRefused_L hown hw hS hf_L_isRefused_10 dL_isRefused_36 ?_
        refine zs_callN (α := Int64) Value.long (As := []) (rest := []) (v := zCkrs σ 2) (σ1 := σ) rfl ⟨hx, hb, hml, hown, hts⟩ hw hX hS (c_X1_checksum l g _ _ h _ _ (zs_H hS)) (cwV 0 hts gL_isRefused_X1_checksum rfl rfl rfl (by decide +kernel) ⟨(Nat.le_of_ble_eq_true rfl), (Nat.le_of_ble_eq_true rfl)⟩) rfl hl.1 rfl (Nat.le_of_ble_eq_true rfl) dL_isRefused_39 ⟨by show _ ≤ (4 : Nat); omega, by show _ ≤ (24 : Nat); omega⟩ (fun L f H locs hS hw => ?_)
        refine W.eq (g2 := F0 m 42 ls [.long (zCkrs σ 2)]) rfl ?_
        refine lv_lload_n hx hb dL_isRefused_42 rfl (lv_at hl 2 rfl) ?_
        refine W.lcmp hx hb dL_isRefused_43 ?_
        refine lv_if_ne (tgt := 51) hx hb dL_isRefused_44 (by decide) (fun c9 => absurd (zcmp0.mpr rfl) c9) (fun _ => ?_)
        refine lv_iconst (v := 1) hx hb dL_isRefused_47 (by decide) ?_
        refine lv_goto (tgt := 52) hx hb dL_isRefused_48 (by decide) ?_
        exact z_zret hx hb hr hlocks rfl hw (by omega) (by omega) dL_isRefused_52 ⟨rfl, hS⟩
      | succ j9 =>
        cases j9 with
        | zero => exact absurd (show (2 : Int32) = nI 3 from hk9) (by decide)
        | succ j9 => exact absurd hj (by simp)
  · obtain ⟨h9, -⟩ := hp
    rw [v_putRO hV hi hk] at h9
    exact absurd (show (2 : Int32) = 0 from h9) (by decide)
