set_option maxRecDepth 100000 in
set_option maxHeartbeats 8000000 in
theorem whole_start {p : Program} {e : Env} {s : State} {m : MethodId} {below : List Frame} {meth : Method} {c : Code} (l : Launch) (hflags : l.flags = flags0) {b L : Nat} {xs : Nat → Int32} (hL : L ≤ 3584) (C0 : lw_At p s m meth c b L xs) : W p l e room_1 s m #[Value.ref b] below meth c s.heap [] 0 0 (lw_Z below #[Value.ref b] s) (entryFrame m ([Value.ref b] : List Value).toArray 9) := by
  obtain ⟨hx, hb, hr, hml, hown, hts0, hXs0, hbl0, hlocks, hgv⟩ := id C0
  have hl0 : l.stackTraces = false := by
    unfold Launch.stackTraces
    rw [hflags]
    decide
  have hd0 := Drawn.sameBut.refl s.drawn lw_cs
  have hflat : ∀ w ∈ flatC narrow_1, w.before #[Value.ref b] s = true := fun w hw9 => flat_of_before _ hgv w (show w ∈ flatC given_1 ++ flatC narrow_1 from List.mem_append_right _ hw9)
  obtain ⟨cC1, kC1, hfc1, -⟩ := Cond.instantiable_spec (hts0 (.instantiable RX1 4) (by decide +kernel))
  have hX0 := z_X0 hts0 hfc1 hflat
  obtain ⟨c0, iS0, hK0⟩ := u_known (C := RX0) (T := TX0) (N := 8) (n := 8) hts0 inX0 (hts0 (.instantiable RX0 8) (by decide +kernel))
  obtain ⟨c1, iS1, hK1⟩ := u_known (C := RX1) (T := TX1) (N := 4) (n := 4) hts0 inX1 (hts0 (.instantiable RX1 4) (by decide +kernel))
  obtain ⟨c2, iS2, hK2⟩ := u_known (C := RX2) (T := TX2) (N := 13) (n := 13) hts0 inX2 (hts0 (.instantiable RX2 13) (by decide +kernel))
  obtain ⟨a0, ha0⟩ := z_arr (hts0 (.arrayClass .int) (by decide +kernel)) (fun C h => by cases h)
  obtain ⟨a1, ha1⟩ := z_arr (hts0 (.arrayClass .long) (by decide +kernel)) (fun C h => by cases h)
  obtain ⟨a2, ha2⟩ := z_arr (hts0 (.arrayClass .boolean) (by decide +kernel)) (fun C h => by cases h)
  obtain ⟨a3, ha3⟩ := z_arr (hts0 (.arrayClass .double) (by decide +kernel)) (fun C h => by cases h)
  obtain ⟨a4, ha4⟩ := z_arrO (hts0 (.arrayOver (.object RX0)) (by decide +kernel))
  obtain ⟨a5, ha5⟩ := z_arrA (hts0 (.arrayOver (.array .long)) (by decide +kernel))
  obtain ⟨g, hK⟩ : ∃ g : zG, va_K g.1 zCl (zTy g) s := by
    refine ⟨((fun k => if k = 0 then c0 else if k = 1 then c1 else c2, fun k => if k = 0 then iS0 else if k = 1 then iS1 else iS2), fun k => if k = 0 then a0 else if k = 1 then a1 else if k = 2 then a2 else if k = 3 then a3 else if k = 4 then a4 else a5), fun k q hq => ?_, fun k q hq => ?_⟩
    · match k, hq with
      | 0, hq => cases hq; exact hK0
      | 1, hq => cases hq; exact hK1
      | 2, hq => cases hq; exact hK2
      | k + 3, hq => simp [zCl] at hq
    · match k, hq with
      | 0, hq => cases hq; exact ha0
      | 1, hq => cases hq; exact ha1
      | 2, hq => cases hq; exact ha2
      | 3, hq => cases hq; exact ha3
      | 4, hq => cases hq; exact ha4
      | 5, hq => cases hq; exact ha5
      | k + 6, hq => simp [zTy] at hq
  refine W.base ?_
  obtain ⟨A, hA9⟩ : ∃ A : Nat → Prop, A = fun q => s.heap.size ≤ q := ⟨_, rfl⟩
  obtain ⟨f0, hf0⟩ : ∃ z : Nat → va_E, z = fun _ => .inr (0, []) := ⟨_, rfl⟩
  have hw : zW g A (s.setDrawn s.drawn) [] f0 s.heap [] := by
    rw [hA9]
    exact ⟨hK, fun k q h => by simp [va_pl] at h, ⟨fun i j p q h => by simp [va_pl] at h, fun k q h => by simp [va_pl] at h⟩, va_S.rf, fun q h => h⟩
  have hX : zX A (s.setDrawn s.drawn) (s.setDrawn s.drawn).heap := by
    rw [hA9]
    exact hX0
  have hts : ∀ w ∈ wsL_law, w.before #[Value.ref b] (s.setDrawn s.drawn) = true := fun w hw9 => dr_words hts0 _ w (wsL_law_in w hw9)
  have hXs : va_X b L xs (s.setDrawn s.drawn) (s.setDrawn s.drawn).heap := hXs0
  have hbl : b < (s.setDrawn s.drawn).heap.size := hbl0
  have hbA : ¬ A b := by
    rw [hA9]
    exact Nat.not_le.mpr hbl0
  have hown : (s.setDrawn s.drawn).vm.findClass RL = some m.cls := hown
  have hl := lv_entry ([.ref b]) (n := 9) (Nat.le_of_ble_eq_true rfl)
  rw [lg_entry_eq]
  generalize (lg_sl ([.ref b]) ++ List.replicate (9 - (lg_sl ([.ref b])).length) Slot.unset).toArray = ls at hl ⊢
  have hl : lv_has ls 9 [(0, .ref b)] := hl
  obtain ⟨N, hN⟩ : ∃ N, N = L := ⟨_, rfl⟩
  rw [← hN] at hL hXs
  have hAf : ∀ q, A q → s.heap.size ≤ q := by
    rw [hA9]
    exact fun q h => h
  refine zr_new (C := RX1) (T := TX1) (N := 4) (ci := 1) (fs := [.null, .null, .null, .null]) hx hb hts inlX1 tyX1 tyX1_ok hown hs_cl1 hs_in1 hs_ii1 hw rfl zfsX1 (Nat.le_of_ble_eq_true rfl) (Nat.le_of_ble_eq_true rfl) dL_law_0 (fun h H hh hw => ?_)
  refine lv_dup hx hb dL_law_3 rfl ?_
  refine z_callI (As := []) (rest := [.ref h]) ⟨hx, hb, hml, hown, hts⟩ hw hX (c_X1_init l g _ _ h (fun _ => False) (fun _ q => q.elim) (fun q => q) zc.new) (cwI 0 hts gL_law_X1_init rfl rfl rfl (hts (.initialized RX1) hs_ii1) (hts (.methodLink RL 149 yX1_init) (by decide +kernel)) (hts (.instanceMethod yX1_init) (by decide +kernel)) rfl (by decide +kernel) ⟨(Nat.le_of_ble_eq_true rfl), (Nat.le_of_ble_eq_true rfl)⟩) rfl hl.1 rfl (Nat.le_of_ble_eq_true rfl) dL_law_4 ⟨(Nat.le_of_ble_eq_true rfl), (Nat.le_of_ble_eq_true rfl)⟩ (fun _ _ _ _ _ _ _ hp => False.elim hp) (fun r9 L1 f1 H locs hp hw => ?_)
  obtain ⟨rfl, hH1, -⟩ := hp
  refine W.eq (g2 := F0 m 7 ls [.ref h]) rfl ?_
  refine lv_astore_n (lv' := [(1, .ref h), (0, .ref b)]) hx hb dL_law_7 rfl hl (by decide) rfl (fun ls hl => ?_)
  refine zr_new (C := RX2) (T := TX2) (N := 13) (ci := 2) (fs := [.null, .null, .null, .null, .null, .null, .null, .null, .null, .null, .null, .null, .int 0]) hx hb hts inlX2 tyX2 tyX2_ok hown hs_cl2 hs_in2 hs_ii2 hw rfl zfsX2 (Nat.le_of_ble_eq_true rfl) (Nat.le_of_ble_eq_true rfl) dL_law_8 (fun q2 H hq2 hw => ?_)
  refine lv_dup hx hb dL_law_11 rfl ?_
  refine z_callI (As := []) (rest := [.ref q2]) ⟨hx, hb, hml, hown, hts⟩ hw hX (c_X2_init l g _ _ q2 (fun z => z ∈ L1) (fun z hz => List.mem_append_left _ hz) hq2 zc.new) (cwI 0 hts gL_law_X2_init rfl rfl rfl (hts (.initialized RX2) hs_ii2) (hts (.methodLink RL 152 yX2_init) (by decide +kernel)) (hts (.instanceMethod yX2_init) (by decide +kernel)) rfl (by decide +kernel) ⟨(Nat.le_of_ble_eq_true rfl), (Nat.le_of_ble_eq_true rfl)⟩) rfl hl.1 rfl (Nat.le_of_ble_eq_true rfl) dL_law_12 ⟨(Nat.le_of_ble_eq_true rfl), (Nat.le_of_ble_eq_true rfl)⟩ (fun _ _ _ _ _ _ _ hp => False.elim hp) (fun r9 L3 f3 H locs hp hw => ?_)
  obtain ⟨rfl, am, bs, ham, hE, hnP, hfr⟩ := hp
  refine W.eq (g2 := F0 m 15 ls [.ref q2]) rfl ?_
  refine lv_astore_n (lv' := [(2, .ref q2), (1, .ref h), (0, .ref b)]) hx hb dL_law_15 rfl hl (by decide) rfl (fun ls hl => ?_)
  refine lv_iconst (v := 1) hx hb dL_law_16 (by decide) ?_
  refine zr_newa (k0 := 1) (N' := 1) (a0 := (1, .inr (.inl (fun _ => 0)))) (ty := .long) (atype := .long) hx hb hts hs_al rfl rfl (fun C h => by cases h) hw (fun _ => rfl) (by decide) rfl (by decide) (Nat.le_of_ble_eq_true rfl) (Nat.le_of_ble_eq_true rfl) dL_law_17 (fun o1 H ho1 hw => ?_)
  refine lv_astore_n (lv' := [(3, .ref o1), (2, .ref q2), (1, .ref h), (0, .ref b)]) hx hb dL_law_19 rfl hl (by decide) rfl (fun ls hl => ?_)
  refine lv_iconst (v := 1) hx hb dL_law_20 (by decide) ?_
  refine zr_newa (k0 := 3) (N' := 1) (a0 := (1, .inr (.inr (.inr (.inl (fun _ => 0)))))) (ty := .double) (atype := .double) hx hb hts hs_ad rfl rfl (fun C h => by cases h) hw (fun _ => rfl) (by decide) rfl (by decide) (Nat.le_of_ble_eq_true rfl) (Nat.le_of_ble_eq_true rfl) dL_law_21 (fun o2 H ho2 hw => ?_)
  refine lv_astore (lv' := [(4, .ref o2), (3, .ref o1), (2, .ref q2), (1, .ref h), (0, .ref b)]) hx hb dL_law_23 hl (by decide) rfl (fun ls hl => ?_)
  refine lv_iconst (v := 0) hx hb dL_law_25 (by decide) ?_
  refine lv_istore (lv' := [(5, .int 0), (4, .ref o2), (3, .ref o1), (2, .ref q2), (1, .ref h), (0, .ref b)]) hx hb dL_law_26 hl (by decide) rfl (fun ls hl => ?_)
  refine W.widen (k := 100) (n := 2000) (Nat.le_of_ble_eq_true rfl) (Nat.le_of_ble_eq_true rfl) ?_
  have hq3 : ∀ z, z ∈ L1 → z ∈ L3 ∧ f3 z = f1 z := fun z hz => ⟨(hfr z hz).1, (hfr z hz).2.trans (va_up_ne _ _ (show z ≠ q2 from fun e9 => hq2 (e9 ▸ hz)))⟩
  have hJ : zLw g h am o1 o2 zS0 ((L3 ++ [o1]) ++ [o2]) (va_up (va_up f3 o1 (.inl (g.2 1, 1, .inr (.inl (fun _ => 0))))) o2 (.inl (g.2 3, 1, .inr (.inr (.inr (.inl (fun _ => 0))))))) := by
    refine ⟨bs, 0, fun _ => 0, fun _ => 0, zHC_ext hH1 (fun z hz => ⟨List.mem_append_left _ (List.mem_append_left _ (hq3 z hz).1), ?_⟩) (fun z hz => ?_), (hE.push ho1).push ho2, zc.new.push ho2, zc.new⟩
    · rw [va_up_ne _ _ (show z ≠ o2 from fun e9 => ho2 (e9 ▸ List.mem_append_left _ (hq3 z hz).1)), va_up_ne _ _ (show z ≠ o1 from fun e9 => ho1 (e9 ▸ (hq3 z hz).1))]
      exact (hq3 z hz).2
    · rcases hz with ⟨k, hk, rfl⟩ | rfl | rfl
      · exact ⟨List.mem_append_left _ (List.mem_append_left _ (hE.1 k hk).1), hnP k hk⟩
      · exact ⟨List.mem_append_left _ (List.mem_append_right _ (List.mem_singleton.mpr rfl)), fun q => ho1 (hq3 _ q).1⟩
      · exact ⟨List.mem_append_right _ (List.mem_singleton.mpr rfl), fun q => ho2 (List.mem_append_left _ (hq3 _ q).1)⟩
  have hwN := hw
  subst ham
  have hRf : 20 ≤ room_1.frames := (Nat.le_of_ble_eq_true rfl)
  have hRl : 1000 ≤ room_1.locals := (Nat.le_of_ble_eq_true rfl)
  have loop : ∀ (n9 j : Nat) (σ : ZS) (L : List Nat) (f : Nat → va_E) (H : Heap) (locs : List Loc) (ls : Array Slot), 7 * j ≤ N → N < 7 * (j + n9) → zLw g h am o1 o2 σ L f → zW g A (s.setDrawn s.drawn) L f H locs → lv_has ls 9 [(0, .ref b), (1, .ref h), (2, .ref (am 0)), (3, .ref o1), (4, .ref o2), (5, .int (nI (7 * j)))] → W p l e room_1 (s.setDrawn s.drawn) m #[Value.ref b] below meth c H locs (100 + 60 * j) (2000 + 1000 * j) (lw_Z below #[Value.ref b] s) (F0 m 28 ls []) := by
    intro n9
    induction n9 with
    | zero => intro j σ L f H locs ls h1 h2; omega
    | succ n9 ih =>
      intro j σ L f H locs ls hj hn hJ hw hl
      refine lv_iload hx hb dL_law_28 (lv_at hl 5 rfl) ?_
      refine lv_aload_n hx hb dL_law_30 rfl (lv_at hl 0 rfl) ?_
      refine va_slen hx hb hXs hbl hbA hw.2.2.2.1 dL_law_31 ?_
      refine lv_bipush (v := 7) hx hb dL_law_32 (by decide) ?_
      refine lv_isub hx hb dL_law_34 ?_
      refine lv_icmp_gt (tgt := 2834) hx hb dL_law_35 (by decide) (fun _ => ?_) (fun hc => ?_)
      · refine lv_iconst (v := 1) hx hb dL_law_2834 (by decide) ?_
        refine va_forget (fun q hq => hAf _ (hw.2.2.2.1.2.2 q hq)) ?_
        refine W.widen (k := 603072) (n := 7215210) (by omega) (by omega) ?_
        exact lw_ret hd0 hx hb hr hlocks dL_law_2835
      · have hg := z_gd hL (Int32.not_lt.mp hc) hj
        have hix : ∀ t : Nat, t < 7 → vp_in (nI (7 * j) + nI t) N := fun t ht => by
          rw [nI_add]
          exact vp_in_nI (by omega) (by omega)
        have back : ∀ (σ1 : ZS) (L1 : List Nat) (f1 : Nat → va_E) (H1 : Heap) (locs1 : List Loc) (ls1 : Array Slot), zLw g h am o1 o2 σ1 L1 f1 → zW g A (s.setDrawn s.drawn) L1 f1 H1 locs1 → lv_has ls1 9 [(0, .ref b), (1, .ref h), (2, .ref (am 0)), (3, .ref o1), (4, .ref o2), (5, .int (nI (7 * j)))] → W p l e room_1 (s.setDrawn s.drawn) m #[Value.ref b] below meth c H1 locs1 (100 + 60 * j + 60) (2000 + 1000 * j + 1000) (lw_Z below #[Value.ref b] s) (F0 m 2828 ls1 []) := by
          intro σ1 L1 f1 H1 locs1 ls1 hJ hw hl
          have he : nI (7 * j) + 7 = nI (7 * (j + 1)) := (show nI (7 * j) + nI 7 = nI (7 * j + 7) from nI_add _ _)
          refine lv_iinc (v := nI (7 * (j + 1))) (lv' := [(5, .int (nI (7 * (j + 1)))), (0, .ref b), (1, .ref h), (2, .ref (am 0)), (3, .ref o1), (4, .ref o2)]) hx hb dL_law_2828 hl (k := 5) rfl he (by decide) rfl (fun ls hl => ?_)
          refine lv_goto (tgt := 28) hx hb dL_law_2831 (by decide) ?_
          refine W.widen (k := 100 + 60 * (j + 1)) (n := 2000 + 1000 * (j + 1)) (by omega) (by omega) ?_
          refine ih (j + 1) σ1 L1 f1 H1 locs1 ls (by omega) (by omega) hJ hw ?_
          have hl := lv_sub hl (l' := [(0, .ref b), (1, .ref h), (2, .ref (am 0)), (3, .ref o1), (4, .ref o2), (5, .int (nI (7 * (j + 1))))]) [1, 2, 3, 4, 5, 0] rfl
          exact hl
        refine lv_aload_n hx hb dL_law_38 rfl (lv_at hl 0 rfl) ?_
        refine lv_iload hx hb dL_law_39 (lv_at hl 5 rfl) ?_
        refine va_sld hx hb hXs hbl hbA hw.2.2.2.1 (vp_in_nI (by omega) (by omega)) dL_law_41 ?_
        refine lv_bipush (v := 63) hx hb dL_law_42 (by decide) ?_
        refine lv_iand hx hb dL_law_44 ?_
        generalize xs (Int32.toNatClampNeg (nI (7 * j))) &&& 63 = x
        rcases z_sw x with ⟨v, hv, hxv⟩ | ho
        · match v, hv, hxv with
          | 0, _, hxv =>
            rw [hxv]
            refine lv_tableIn (off := 171) (tgt := 216) hx hb dL_law_45 (by decide) (by decide) (by decide) (by decide) ?_
            exact k_law_0 hx hb hml hown hts hl0 hw hX hXs hbl hbA hRf hRl (by show _ ≤ (603072 : Nat); omega) (by show _ ≤ (7215210 : Nat); omega) hJ hix hl back
          | 1, _, hxv =>
            rw [hxv]
            refine lv_tableIn (off := 239) (tgt := 284) hx hb dL_law_45 (by decide) (by decide) (by decide) (by decide) ?_
            exact k_law_1 hx hb hml hown hts hl0 hw hX hXs hbl hbA hRf hRl (by show _ ≤ (603072 : Nat); omega) (by show _ ≤ (7215210 : Nat); omega) hJ hix hl back
          | 2, _, hxv =>
            rw [hxv]
            refine lv_tableIn (off := 307) (tgt := 352) hx hb dL_law_45 (by decide) (by decide) (by decide) (by decide) ?_
            exact k_law_2 hx hb hml hown hts hl0 hw hX hXs hbl hbA hRf hRl (by show _ ≤ (603072 : Nat); omega) (by show _ ≤ (7215210 : Nat); omega) hJ hix hl back
          | 3, _, hxv =>
            rw [hxv]
            refine lv_tableIn (off := 387) (tgt := 432) hx hb dL_law_45 (by decide) (by decide) (by decide) (by decide) ?_
            exact k_law_3 hx hb hml hown hts hl0 hw hX hXs hbl hbA hRf hRl (by show _ ≤ (603072 : Nat); omega) (by show _ ≤ (7215210 : Nat); omega) hJ hix hl back
          | 4, _, hxv =>
            rw [hxv]
            refine lv_tableIn (off := 476) (tgt := 521) hx hb dL_law_45 (by decide) (by decide) (by decide) (by decide) ?_
            exact k_law_4 hx hb hml hown hts hl0 hw hX hXs hbl hbA hRf hRl (by show _ ≤ (603072 : Nat); omega) (by show _ ≤ (7215210 : Nat); omega) hJ hix hl back
          | 5, _, hxv =>
            rw [hxv]
            refine lv_tableIn (off := 544) (tgt := 589) hx hb dL_law_45 (by decide) (by decide) (by decide) (by decide) ?_
            exact k_law_5 hx hb hml hown hts hl0 hw hX hXs hbl hbA hRf hRl (by show _ ≤ (603072 : Nat); omega) (by show _ ≤ (7215210 : Nat); omega) hJ hix hl back
          | 6, _, hxv =>
            rw [hxv]
            refine lv_tableIn (off := 600) (tgt := 645) hx hb dL_law_45 (by decide) (by decide) (by decide) (by decide) ?_
            exact k_law_6 hx hb hml hown hts hl0 hw hX hXs hbl hbA hRf hRl (by show _ ≤ (603072 : Nat); omega) (by show _ ≤ (7215210 : Nat); omega) hJ hix hl back
          | 7, _, hxv =>
            rw [hxv]
            refine lv_tableIn (off := 656) (tgt := 701) hx hb dL_law_45 (by decide) (by decide) (by decide) (by decide) ?_
            exact k_law_7 hx hb hml hown hts hl0 hw hX hXs hbl hbA hRf hRl (by show _ ≤ (603072 : Nat); omega) (by show _ ≤ (7215210 : Nat); omega) hJ hix hl back
          | 8, _, hxv =>
            rw [hxv]
            refine lv_tableIn (off := 712) (tgt := 757) hx hb dL_law_45 (by decide) (by decide) (by decide) (by decide) ?_
            exact k_law_8 hx hb hml hown hts hl0 hw hX hXs hbl hbA hRf hRl (by show _ ≤ (603072 : Nat); omega) (by show _ ≤ (7215210 : Nat); omega) hJ hix hl back
          | 9, _, hxv =>
            rw [hxv]
            refine lv_tableIn (off := 768) (tgt := 813) hx hb dL_law_45 (by decide) (by decide) (by decide) (by decide) ?_
            exact k_law_9 hx hb hml hown hts hl0 hw hX hXs hbl hbA hRf hRl (by show _ ≤ (603072 : Nat); omega) (by show _ ≤ (7215210 : Nat); omega) hJ hix hl back
          | 10, _, hxv =>
            rw [hxv]
            refine lv_tableIn (off := 824) (tgt := 869) hx hb dL_law_45 (by decide) (by decide) (by decide) (by decide) ?_
            exact k_law_10 hx hb hml hown hts hl0 hw hX hXs hbl hbA hRf hRl (by show _ ≤ (603072 : Nat); omega) (by show _ ≤ (7215210 : Nat); omega) hJ hix hl back
          | 11, _, hxv =>
            rw [hxv]
            refine lv_tableIn (off := 887) (tgt := 932) hx hb dL_law_45 (by decide) (by decide) (by decide) (by decide) ?_
            exact k_law_11 hx hb hml hown hts hl0 hw hX hXs hbl hbA hRf hRl (by show _ ≤ (603072 : Nat); omega) (by show _ ≤ (7215210 : Nat); omega) hJ hix hl back
          | 12, _, hxv =>
            rw [hxv]
            refine lv_tableIn (off := 950) (tgt := 995) hx hb dL_law_45 (by decide) (by decide) (by decide) (by decide) ?_
            exact k_law_12 hx hb hml hown hts hl0 hw hX hXs hbl hbA hRf hRl (by show _ ≤ (603072 : Nat); omega) (by show _ ≤ (7215210 : Nat); omega) hJ hix hl back
          | 13, _, hxv =>
            rw [hxv]
            refine lv_tableIn (off := 1018) (tgt := 1063) hx hb dL_law_45 (by decide) (by decide) (by decide) (by decide) ?_
            exact k_law_13 hx hb hml hown hts hl0 hw hX hXs hbl hbA hRf hRl (by show _ ≤ (603072 : Nat); omega) (by show _ ≤ (7215210 : Nat); omega) hJ hix hl back
          | 14, _, hxv =>
            rw [hxv]
            refine lv_tableIn (off := 1086) (tgt := 1131) hx hb dL_law_45 (by decide) (by decide) (by decide) (by decide) ?_
            exact k_law_14 hx hb hml hown hts hl0 hw hX hXs hbl hbA hRf hRl (by show _ ≤ (603072 : Nat); omega) (by show _ ≤ (7215210 : Nat); omega) hJ hix hl back
          | 15, _, hxv =>
            rw [hxv]
            refine lv_tableIn (off := 1142) (tgt := 1187) hx hb dL_law_45 (by decide) (by decide) (by decide) (by decide) ?_
            exact k_law_15 hx hb hml hown hts hl0 hw hX hXs hbl hbA hRf hRl (by show _ ≤ (603072 : Nat); omega) (by show _ ≤ (7215210 : Nat); omega) hJ hix hl back
          | 16, _, hxv =>
            rw [hxv]
            refine lv_tableIn (off := 1198) (tgt := 1243) hx hb dL_law_45 (by decide) (by decide) (by decide) (by decide) ?_
            exact k_law_16 hx hb hml hown hts hl0 hw hX hXs hbl hbA hRf hRl (by show _ ≤ (603072 : Nat); omega) (by show _ ≤ (7215210 : Nat); omega) hJ hix hl back
          | 17, _, hxv =>
            rw [hxv]
            refine lv_tableIn (off := 1254) (tgt := 1299) hx hb dL_law_45 (by decide) (by decide) (by decide) (by decide) ?_
            exact k_law_17 hx hb hml hown hts hl0 hw hX hXs hbl hbA hRf hRl (by show _ ≤ (603072 : Nat); omega) (by show _ ≤ (7215210 : Nat); omega) hJ hix hl back
          | 18, _, hxv =>
            rw [hxv]
            refine lv_tableIn (off := 1310) (tgt := 1355) hx hb dL_law_45 (by decide) (by decide) (by decide) (by decide) ?_
            exact k_law_18 hx hb hml hown hts hl0 hw hX hXs hbl hbA hRf hRl (by show _ ≤ (603072 : Nat); omega) (by show _ ≤ (7215210 : Nat); omega) hJ hix hl back
          | 19, _, hxv =>
            rw [hxv]
            refine lv_tableIn (off := 1366) (tgt := 1411) hx hb dL_law_45 (by decide) (by decide) (by decide) (by decide) ?_
            exact k_law_19 hx hb hml hown hts hl0 hw hX hXs hbl hbA hRf hRl (by show _ ≤ (603072 : Nat); omega) (by show _ ≤ (7215210 : Nat); omega) hJ hix hl back
          | 20, _, hxv =>
            rw [hxv]
            refine lv_tableIn (off := 1422) (tgt := 1467) hx hb dL_law_45 (by decide) (by decide) (by decide) (by decide) ?_
            exact k_law_20 hx hb hml hown hts hl0 hw hX hXs hbl hbA hRf hRl (by show _ ≤ (603072 : Nat); omega) (by show _ ≤ (7215210 : Nat); omega) hJ hix hl back
          | 21, _, hxv =>
            rw [hxv]
            refine lv_tableIn (off := 1477) (tgt := 1522) hx hb dL_law_45 (by decide) (by decide) (by decide) (by decide) ?_
            exact k_law_21 hx hb hml hown hts hl0 hw hX hXs hbl hbA hRf hRl (by show _ ≤ (603072 : Nat); omega) (by show _ ≤ (7215210 : Nat); omega) hJ hix hl back
          | 22, _, hxv =>
            rw [hxv]
            refine lv_tableIn (off := 1577) (tgt := 1622) hx hb dL_law_45 (by decide) (by decide) (by decide) (by decide) ?_
            exact k_law_22 hx hb hml hown hts hl0 hw hX hXs hbl hbA hRf hRl (by show _ ≤ (603072 : Nat); omega) (by show _ ≤ (7215210 : Nat); omega) hJ hix hl back
          | 23, _, hxv =>
            rw [hxv]
            refine lv_tableIn (off := 1644) (tgt := 1689) hx hb dL_law_45 (by decide) (by decide) (by decide) (by decide) ?_
            exact k_law_23 hx hb hml hown hts hl0 hw hX hXs hbl hbA hRf hRl (by show _ ≤ (603072 : Nat); omega) (by show _ ≤ (7215210 : Nat); omega) hJ hix hl back
          | 24, _, hxv =>
            rw [hxv]
            refine lv_tableIn (off := 1755) (tgt := 1800) hx hb dL_law_45 (by decide) (by decide) (by decide) (by decide) ?_
            exact k_law_24 hx hb hml hown hts hl0 hw hX hXs hbl hbA hRf hRl (by show _ ≤ (603072 : Nat); omega) (by show _ ≤ (7215210 : Nat); omega) hJ hix hl back
          | 25, _, hxv =>
            rw [hxv]
            refine lv_tableIn (off := 1913) (tgt := 1958) hx hb dL_law_45 (by decide) (by decide) (by decide) (by decide) ?_
            exact k_law_25 hx hb hml hown hts hl0 hw hX hXs hbl hbA hRf hRl (by show _ ≤ (603072 : Nat); omega) (by show _ ≤ (7215210 : Nat); omega) hJ hix hl back
          | 26, _, hxv =>
            rw [hxv]
            refine lv_tableIn (off := 1993) (tgt := 2038) hx hb dL_law_45 (by decide) (by decide) (by decide) (by decide) ?_
            exact k_law_26 hx hb hml hown hts hl0 hw hX hXs hbl hbA hRf hRl (by show _ ≤ (603072 : Nat); omega) (by show _ ≤ (7215210 : Nat); omega) hJ hix hl back
          | 27, _, hxv =>
            rw [hxv]
            refine lv_tableIn (off := 2061) (tgt := 2106) hx hb dL_law_45 (by decide) (by decide) (by decide) (by decide) ?_
            exact k_law_27 hx hb hml hown hts hl0 hw hX hXs hbl hbA hRf hRl (by show _ ≤ (603072 : Nat); omega) (by show _ ≤ (7215210 : Nat); omega) hJ hix hl back
          | 28, _, hxv =>
            rw [hxv]
            refine lv_tableIn (off := 2153) (tgt := 2198) hx hb dL_law_45 (by decide) (by decide) (by decide) (by decide) ?_
            exact k_law_28 hx hb hml hown hts hl0 hw hX hXs hbl hbA hRf hRl (by show _ ≤ (603072 : Nat); omega) (by show _ ≤ (7215210 : Nat); omega) hJ hix hl back
          | 29, _, hxv =>
            rw [hxv]
            refine lv_tableIn (off := 2221) (tgt := 2266) hx hb dL_law_45 (by decide) (by decide) (by decide) (by decide) ?_
            exact k_law_29 hx hb hml hown hts hl0 hw hX hXs hbl hbA hRf hRl (by show _ ≤ (603072 : Nat); omega) (by show _ ≤ (7215210 : Nat); omega) hJ hix hl back
          | 30, _, hxv =>
            rw [hxv]
            refine lv_tableIn (off := 2289) (tgt := 2334) hx hb dL_law_45 (by decide) (by decide) (by decide) (by decide) ?_
            exact k_law_30 hx hb hml hown hts hl0 hw hX hXs hbl hbA hRf hRl (by show _ ≤ (603072 : Nat); omega) (by show _ ≤ (7215210 : Nat); omega) hJ hix hl back
          | 31, _, hxv =>
            rw [hxv]
            refine lv_tableIn (off := 2357) (tgt := 2402) hx hb dL_law_45 (by decide) (by decide) (by decide) (by decide) ?_
            exact k_law_31 hx hb hml hown hts hl0 hw hX hXs hbl hbA hRf hRl (by show _ ≤ (603072 : Nat); omega) (by show _ ≤ (7215210 : Nat); omega) hJ hix hl back
          | 32, _, hxv =>
            rw [hxv]
            refine lv_tableIn (off := 2413) (tgt := 2458) hx hb dL_law_45 (by decide) (by decide) (by decide) (by decide) ?_
            exact k_law_32 hx hb hml hown hts hl0 hw hX hXs hbl hbA hRf hRl (by show _ ≤ (603072 : Nat); omega) (by show _ ≤ (7215210 : Nat); omega) hJ hix hl back
          | 33, _, hxv =>
            rw [hxv]
            refine lv_tableIn (off := 2483) (tgt := 2528) hx hb dL_law_45 (by decide) (by decide) (by decide) (by decide) ?_
            exact k_law_33 hx hb hml hown hts hl0 hw hX hXs hbl hbA hRf hRl (by show _ ≤ (603072 : Nat); omega) (by show _ ≤ (7215210 : Nat); omega) hJ hix hl back
          | 34, _, hxv =>
            rw [hxv]
            refine lv_tableIn (off := 2538) (tgt := 2583) hx hb dL_law_45 (by decide) (by decide) (by decide) (by decide) ?_
            exact k_law_34 hx hb hml hown hts hl0 hw hX hXs hbl hbA hRf hRl (by show _ ≤ (603072 : Nat); omega) (by show _ ≤ (7215210 : Nat); omega) hJ hix hl back
          | 35, _, hxv =>
            rw [hxv]
            refine lv_tableIn (off := 2613) (tgt := 2658) hx hb dL_law_45 (by decide) (by decide) (by decide) (by decide) ?_
            exact k_law_35 hx hb hml hown hts hl0 hw hX hXs hbl hbA hRf hRl (by show _ ≤ (603072 : Nat); omega) (by show _ ≤ (7215210 : Nat); omega) hJ hix hl back
          | 36, _, hxv =>
            rw [hxv]
            refine lv_tableIn (off := 2691) (tgt := 2736) hx hb dL_law_45 (by decide) (by decide) (by decide) (by decide) ?_
            exact k_law_36 hx hb hml hown hts hl0 hw hX hXs hbl hbA hRf hRl (by show _ ≤ (603072 : Nat); omega) (by show _ ≤ (7215210 : Nat); omega) hJ hix hl back
          | 37, _, hxv =>
            rw [hxv]
            refine lv_tableIn (off := 2756) (tgt := 2801) hx hb dL_law_45 (by decide) (by decide) (by decide) (by decide) ?_
            exact k_law_37 hx hb hml hown hts hl0 hw hX hXs hbl hbA hRf hRl (by show _ ≤ (603072 : Nat); omega) (by show _ ≤ (7215210 : Nat); omega) hJ hix hl back
          | 38, _, hxv =>
            rw [hxv]
            refine lv_tableIn (off := 2770) (tgt := 2815) hx hb dL_law_45 (by decide) (by decide) (by decide) (by decide) ?_
            exact k_law_38 hx hb hml hown hts hl0 hw hX hXs hbl hbA hRf hRl (by show _ ≤ (603072 : Nat); omega) (by show _ ≤ (7215210 : Nat); omega) hJ hix hl back
          | v + 39, hv, _ => exact absurd hv (by omega)
        · refine lv_tableOut (tgt := 2828) hx hb dL_law_45 ho (by decide) ?_
          refine W.widen (k := 100 + 60 * j + 60) (n := 2000 + 1000 * j + 1000) (by omega) (by omega) ?_
          exact back σ L f H locs ls hJ hw hl
  refine loop (N + 1) 0 zS0 _ _ _ _ _ (by omega) (by omega) hJ hwN ?_
  have hl := lv_sub hl (l' := [(0, .ref b), (1, .ref h), (2, .ref (am 0)), (3, .ref o1), (4, .ref o2), (5, .int 0)]) [5, 4, 3, 2, 1, 0] rfl
  exact hl

set_option maxHeartbeats 4000000 in
theorem lw_walk (l : Launch) (hflags : l.flags = flags0) (b : Addr) (xs : List Int32) : MetFree l x (headSpec (Jvm.Cond.code x code maxLocals ret :: tables_1) room_1) (lw_P b xs) (fun _ _ _ _ _ => True) lw_Q := by
  refine MetFree.of_bodyS (code := code) (maxLocals := maxLocals) (ret := ret) (by decide) ?_ ?_
  · intro args s m h hn
    obtain ⟨meth, c, h1, h2, h3, h4, h5, h6, -, -⟩ := Cond.code_spec hn (atoms_spec (ws := Jvm.Cond.code x code maxLocals ret :: tables_1) h _ List.mem_cons_self)
    exact ⟨meth, c, h1, h2, h3, h4, h5, h6⟩
  · intro p e s m args below meth c s₁ B hml0 hP _
    obtain ⟨rfl, hx, hbd, hgv⟩ := hP
    obtain ⟨scr, harrAt, hlist, hof, hsmall⟩ := hx
    obtain ⟨hcb, hkn, -, -⟩ := State.arrayAt?_spec harrAt
    have hown : s.vm.findClass R_law = some m.cls := findClass_of_methodNamed B.named
    have hts0 : ∀ c ∈ (Jvm.Cond.code x code maxLocals ret :: tables_1), c.before #[Value.ref b] s = true := atoms_spec (ws := Jvm.Cond.code x code maxLocals ret :: tables_1) B.pre
    have hts : ∀ w ∈ lw_tbl, w.before #[Value.ref b] s = true := k2_hts_sels lw_privs (fun w hw => hts0 w (List.mem_cons_of_mem _ hw)) lw_privs_ok
    have hml : c.maxLocals = 9 := B.maxLocals_eq (hts0 _ List.mem_cons_self)
    have X₀ : Stand p l e room_1 s m #[Value.ref b] below meth c s₁ [] 0 0 := Stand.of_body B
    have hh0 : s₁.heap = s.heap := by rw [B.state]; rfl
    have hsz : scr.slots.size = xs.length := by rw [← Array.length_toList, hlist, List.length_map]
    have hval : ∀ j : Nat, j < xs.length → scr.slots[j]? = some (.int (xs.getD j 0)) := fun j hj => by
      rw [← Array.getElem?_toList, hlist]
      simp [hj]
    have hbl : b < s.heap.size := (Array.getElem?_eq_some_iff.mp hcb).1
    have hX : va_X b xs.length (fun j => xs.getD j 0) s s.heap := ⟨scr, hcb, hof, hkn, hsz, hval⟩
    have K : W p l e room_1 s m #[Value.ref b] below meth c s₁.heap [] 0 0 (lw_Z below #[Value.ref b] s) (entryFrame m ([Value.ref b] : List Value).toArray 9) := by
      rw [hh0]
      exact whole_start l hflags hbd ⟨B.exec, B.bytes, B.returns, hml, hown, hts, hX, hbl, B.notSynchronized, hgv⟩
    obtain ⟨t, a1, o, b1, b2, b3⟩ := K s₁ rfl X₀
    exact ⟨t, o, a1, b1, b2, b3⟩
theorem lw_pre_spec {args : Array Value} {s : State} (h : (Jvm.Cond.and given_1 narrow_1).before args s = true) (hr : rest_1_c.before args s = true) : ∃ (b : Addr) (xs : List Int32), lw_P b xs args s := by
  have hs := flat_of_before _ h
  have hq := flat_of_before _ hr
  have hc : (Cond.count 1).before args s = true := hs _ (by decide +kernel)
  have harr : (Cond.arrayOf (.arg 0) .int).before args s = true := hs _ (by decide +kernel)
  have hle : (Cond.le (.length (.arg 0)) (.int 3584)).before args s = true := hs _ (by decide +kernel)
  have hlen : (Cond.isInt (.length (.arg 0))).before args s = true := hq _ (by decide +kernel)
  have hall : (Cond.all (.arg 0) (.isInt (.elem (.arg 0) (.index 0)))).before args s = true := hq _ (by decide +kernel)
  obtain ⟨b, xs, hb, hx⟩ := State.ints_of_pre rfl harr hlen hall
  have hsm : xs.length < 2 ^ 31 := hx.choose_spec.2.2.2
  have hev : (Term.length (.arg 0)).eval args s none [] s = some (.int xs.length.toInt32) := hx.length_eval hb
  have hv := Cond.le_ints hev (show (Term.int 3584).eval args s none [] s = some (.int 3584) from rfl)
  have hd : xs.length.toInt32 ≤ 3584 := by
    simpa [Cond.before, Cond.holds, hv] using hle
  have hN : xs.length ≤ 3584 := (Int32.ofNat_le_ofNat hsm (by decide)).mp (show Int32.ofNat xs.length ≤ Int32.ofNat 3584 from hd)
  exact ⟨b, xs, Cond.one_arg hc (show args[0]? = some (.ref b) from hb), hx, hN, h⟩
theorem lw_comes (l : Launch) (hflags : l.flags = flags0) : Comes l x (Jvm.Cond.code x code maxLocals ret :: tables_1) room_1 (fun tb e args s => Calls_1 tb e args s ∧ rest_1 tb e args s ∧ Pre_1 tb e args s)
    (fun _ _ args s o t => lw_Q args s o t) := by
  intro p e ha hc hk s m args below hf hfit hheap happ hpre
  obtain ⟨b, xs, hP⟩ := lw_pre_spec hpre.2.2 hpre.2.1
  obtain ⟨k, o, h1, h2, h3, hQ⟩ := lw_walk l hflags b xs p e ha hc hk s m args below hf ((Spec.applies_iff_loose hf).mp happ).1 hP trivial
  exact ⟨k, o, h1, h2, h3, hQ⟩
theorem lw_frame {s t : State} {o : Outcome} {args : Array Value} (h : State.butDraws s t lw_cs (fun t1 => Framed s o t1 [] 603072 7215210)) :
    State.butDraws s t [Jvm.Choice.named "NaN.bits"] (fun t1 => Framed s o t1 (fieldLocs frame_1_writes args s ++ arrayLocs frame_1_arrays args s ++ staticLocs frame_1_statics s) 603072 7215210) := h
theorem lw_limb (L : Cond) (hL : ∀ (args : Array Value) (s t : State), L.after args s (.returned (some (.int 1))) t = true) :
    ArmFor flags0 classFile x code maxLocals ret World_1 tables_1 room_1 Calls_1 rest_1 Pre_1
      (fun tb e a s o t => postC L tb e a s o t ∧ State.butDraws s t [Jvm.Choice.named "NaN.bits"] (fun t1 => Framed s o t1 (fieldLocs frame_1_writes a s ++ arrayLocs frame_1_arrays a s ++ staticLocs frame_1_statics s) 603072 7215210)) := by
  intro l hflags _ _ p e ha hc hk s m args below hf hfit hheap happ hpre
  obtain ⟨k, o, h1, h2, h3, rfl, hF⟩ := lw_comes l hflags p e ha hc hk s m args below hf hfit hheap happ hpre
  exact ⟨k, _, h1, h2, h3, hL args s _, lw_frame hF⟩
theorem i_vc : Claimed_1_1 ∧ Claimed_1_2 := ⟨lw_limb limb_1_1 (fun args s t => by simp [limb_1_1, Cond.after, Cond.holds, Cond.value]), lw_limb limb_1_2 (fun args s t => Cond.after_iff.mpr (by
  first | (rw [show limb_1_2 = Cond.eq .result (.int 1) from rfl, Cond.eq_ints (x := 1) (y := 1) rfl rfl]; simp; done) | (simp [limb_1_2, Cond.value, Term.eval]; done)))⟩
