set_option maxRecDepth 100000 in
set_option maxHeartbeats 4000000 in
theorem k_law_20 {p : Program} {l : Launch} {e : Env} {R : Room} {s : State} {m : MethodId} {args : Array Value} {below : List Frame} {meth : Method} {c : Code} {H : Heap} {locs : List Loc} {cells slots : Nat} {Q : State → Prop} {ls : Array Slot} {g : zG} {A : Nat → Prop} {L : List Nat} {f : Nat → va_E} {am : Nat → Nat} {h o1 o2 b N : Nat} {σ : ZS} {xs : Nat → Int32} {i : Int32}
    (hx : p.tables.exec = Jvm.exec) (hb : c.code = cL_law) (hml : c.maxLocals = 9) (hown : s.vm.findClass RL = some m.cls) (hts : ∀ w ∈ wsL_law, w.before args s = true) (hl0 : l.stackTraces = false) (hw : zW g A s L f H locs) (hX : zX A s s.heap) (hXs : va_X b N xs s s.heap) (hbl : b < s.heap.size) (hbA : ¬ A b) (hRf : 20 ≤ R.frames) (hRl : 1000 ≤ R.locals) (hRc : cells + 60 ≤ R.cells) (hRs : slots + 1000 ≤ R.slots) (hJ : zLw g h am o1 o2 σ L f) (hix : ∀ j : Nat, j < 7 → vp_in (i + nI j) N) (hl : lv_has ls 9 [(0, .ref b), (1, .ref h), (2, .ref (am 0)), (3, .ref o1), (4, .ref o2), (5, .int i)])
    (hback : ∀ (σ1 : ZS) (L1 : List Nat) (f1 : Nat → va_E) (H1 : Heap) (locs1 : List Loc) (ls1 : Array Slot), zLw g h am o1 o2 σ1 L1 f1 → zW g A s L1 f1 H1 locs1 → lv_has ls1 9 [(0, .ref b), (1, .ref h), (2, .ref (am 0)), (3, .ref o1), (4, .ref o2), (5, .int i)] → W p l e R s m args below meth c H1 locs1 (cells + 60) (slots + 1000) Q (F0 m 2828 ls1 [])) : W p l e R s m args below meth c H locs cells slots Q (F0 m 1467 ls []) := by
  obtain ⟨bs, th, F, D, hH, hE, h10, h20⟩ := hJ
  obtain ⟨ln, kd, hI⟩ := zHC_I hH
  obtain ⟨fs9, hcb⟩ := zHC_obj hH
  have hn1 := zMe_ne1 hE h10
  have hn2 := zMe_ne2 hE h20
  have hn12 := zo_ne h10 h20
  refine lv_aload_n hx hb dL_law_1467 rfl (lv_at hl 1 rfl) ?_
  refine lv_aload_n hx hb dL_law_1468 rfl (lv_at hl 0 rfl) ?_
  refine lv_iload hx hb dL_law_1469 (lv_at hl 5 rfl) ?_
  refine lv_iconst (v := 1) hx hb dL_law_1471 (by decide) ?_
  refine lv_iadd hx hb dL_law_1472 ?_
  refine va_sld hx hb hXs hbl hbA hw.2.2.2.1 (hix 1 (by decide)) dL_law_1473 ?_
  refine lv_aload_n hx hb dL_law_1474 rfl (lv_at hl 3 rfl) ?_
  refine z_callSX (As := [.ref h, .int (xs (Int32.toNatClampNeg (i + 1))), .ref o1]) (rest := []) ⟨hx, hb, hml, hown, hts⟩ hw hX (c_L_get l hl0 g L f h (zPm am o1 o2) σ (xs (Int32.toNatClampNeg (i + 1))) o1 F hH h10 zPm_1) (vx_cwSW 3 hts gL_law_L_get rfl rfl rfl (by decide +kernel) ⟨Nat.le_trans (Nat.le_of_ble_eq_true rfl) hRf, Nat.le_trans (Nat.le_of_ble_eq_true rfl) hRl⟩) rfl hl.1 rfl (Nat.le_of_ble_eq_true rfl) dL_law_1475 ⟨by omega, by omega⟩ (fun _ _ _ _ _ _ _ hp => False.elim hp) (fun r9 L1 f1 H locs hp hw => ?_)
  obtain ⟨rfl, hH1, ⟨F1, hF1, hv1⟩, hfr1⟩ := hp
  have hE1 := zMe_kept hE hH1 (fun k hk => hfr1 _ (zPm_m hk) (hn1 k hk))
  refine W.eq (g2 := F0 m 1478 ls [.int (o_get σ (xs (Int32.toNatClampNeg (i + 1)))).1]) rfl ?_
  refine lv_istore (lv' := [(6, .int (o_get σ (xs (Int32.toNatClampNeg (i + 1)))).1), (0, .ref b), (1, .ref h), (2, .ref (am 0)), (3, .ref o1), (4, .ref o2), (5, .int i)]) hx hb dL_law_1478 hl (by decide) rfl (fun ls hl => ?_)
  refine lv_aload_n hx hb dL_law_1480 rfl (lv_at hl 3 rfl) ?_
  refine lv_aload_n hx hb dL_law_1481 rfl (lv_at hl 1 rfl) ?_
  refine lv_iload hx hb dL_law_1482 (lv_at hl 6 rfl) ?_
  refine lv_iconst (v := 1) hx hb dL_law_1484 (by decide) ?_
  refine lv_iadd hx hb dL_law_1485 ?_
  refine va_sld hx hb hXs hbl hbA hw.2.2.2.1 (hix 1 (by decide)) dL_law_1486 ?_
  refine z_callV (As := [.int (xs (Int32.toNatClampNeg (i + 1)))]) (rest := []) ⟨hx, hb, hml, hown, hts⟩ hw hX (hE1.1 0 (by decide)) rfl (c_X2_get l g am L1 f1 σ bs th (xs (Int32.toNatClampNeg (i + 1))) ⟨hE1, fun _ _ => rfl⟩ hI) (cwV 1 hts gL_law_X2_get rfl rfl rfl (by decide +kernel) ⟨Nat.le_trans (Nat.le_of_ble_eq_true rfl) hRf, Nat.le_trans (Nat.le_of_ble_eq_true rfl) hRl⟩) rfl hl.1 rfl (Nat.le_of_ble_eq_true rfl) dL_law_1487 ⟨by omega, by omega⟩ (fun _ _ _ _ _ _ _ hp => False.elim hp) (fun r9 L2 f2 H locs hp hw => ?_)
  obtain ⟨rfl, b9, bs9, rfl, hm9, hb9⟩ := hp
  have ho1 : zc L1 f2 o1 (.inl (g.2 1, 1, .inr (.inl F1))) := ⟨zHC_in hH1 zPm_1, (hm9.2 _ (fun k hk e => hn1 k hk e.symm)).trans hF1⟩
  have ho2 : zc L1 f2 o2 (.inl (g.2 3, 1, .inr (.inr (.inr (.inl D))))) := ⟨zHC_in hH1 zPm_2, (hm9.2 _ (fun k hk e => hn2 k hk e.symm)).trans ((hfr1 _ zPm_2 (Ne.symm hn12)).trans h20.2)⟩
  have hH2 := zHC_mod hH1 hm9.2
  refine W.eq (g2 := F0 m 1490 ls [.long b9]) rfl ?_
  refine lv_lstore (lv' := [(7, .long b9), (6, .int (o_get σ (xs (Int32.toNatClampNeg (i + 1)))).1), (0, .ref b), (1, .ref h), (2, .ref (am 0)), (3, .ref o1), (4, .ref o2), (5, .int i)]) hx hb dL_law_1490 hl (by decide) rfl (fun ls hl => ?_)
  refine lv_aload_n hx hb dL_law_1492 rfl (lv_at hl 4 rfl) ?_
  refine z_callV (As := []) (rest := []) ⟨hx, hb, hml, hown, hts⟩ hw hX (hm9.1.1 0 (by decide)) rfl (c_X2_thrown l g am L1 f2 (o_get σ (xs (Int32.toNatClampNeg (i + 1)))).2.2 bs9 (o_get σ (xs (Int32.toNatClampNeg (i + 1)))).1 hm9.rf) (cwV 0 hts gL_law_X2_thrown rfl rfl rfl (by decide +kernel) ⟨Nat.le_trans (Nat.le_of_ble_eq_true rfl) hRf, Nat.le_trans (Nat.le_of_ble_eq_true rfl) hRl⟩) rfl hl.1 rfl (Nat.le_of_ble_eq_true rfl) dL_law_1493 ⟨by omega, by omega⟩ (fun _ _ _ _ _ _ _ hp => False.elim hp) (fun r9 L3 f3 H locs hp hw => ?_)
  obtain ⟨rfl, rfl, rfl⟩ := hp
  refine W.eq (g2 := F0 m 1496 ls [.int (o_get σ (xs (Int32.toNatClampNeg (i + 1)))).1]) rfl ?_
  refine lv_iload hx hb dL_law_1496 (lv_at hl 1 rfl) ?_
  refine lv_icmp_eq (tgt := 1503) hx hb dL_law_1498 (by decide) (fun _ => ?_) (fun c => absurd rfl c)
  refine lv_iload hx hb dL_law_1503 (lv_at hl 1 rfl) ?_
  refine lv_if_ne (tgt := 1519) hx hb dL_law_1505 (by decide) (fun c_1 => ?_) (fun c_1 => ?_)
  · refine lv_goto (tgt := 2828) hx hb dL_law_1519 (by decide) ?_
    refine W.widen (k := cells + 60) (n := slots + 1000) (by omega) (by omega) ?_
    have hl := lv_sub hl (l' := [(0, .ref b), (1, .ref h), (2, .ref (am 0)), (3, .ref o1), (4, .ref o2), (5, .int i)]) [2, 3, 4, 5, 6, 7] rfl
    exact hback _ _ _ _ _ _ ⟨_, _, _, _, hH2, hm9.1, ho1, ho2⟩ hw hl
  · refine lv_aload_n hx hb dL_law_1508 rfl (lv_at hl 5 rfl) ?_
    refine lv_iconst (v := 0) hx hb dL_law_1509 (by decide) ?_
    refine zr_lald hx hb hw ho1 (vp_in_iff.mpr (by decide)) dL_law_1510 ?_
    refine lv_lload hx hb dL_law_1511 (lv_at hl 0 rfl) ?_
    refine W.lcmp hx hb dL_law_1513 ?_
    have hq_2 : (lg_cmp (F1 (Int32.toNatClampNeg 0)) b9) = 0 := zcmp0.mpr (by rw [hb9 c_1]; exact hv1 c_1)
    refine lv_if_eq (tgt := 1519) hx hb dL_law_1514 (by decide) (fun c_3 => ?_) (fun c_3 => absurd hq_2 c_3)
    refine lv_goto (tgt := 2828) hx hb dL_law_1519 (by decide) ?_
    refine W.widen (k := cells + 60) (n := slots + 1000) (by omega) (by omega) ?_
    have hl := lv_sub hl (l' := [(0, .ref b), (1, .ref h), (2, .ref (am 0)), (3, .ref o1), (4, .ref o2), (5, .int i)]) [2, 3, 4, 5, 6, 7] rfl
    exact hback _ _ _ _ _ _ ⟨_, _, _, _, hH2, hm9.1, ho1, ho2⟩ hw hl

set_option maxRecDepth 100000 in
set_option maxHeartbeats 4000000 in
theorem k_law_21 {p : Program} {l : Launch} {e : Env} {R : Room} {s : State} {m : MethodId} {args : Array Value} {below : List Frame} {meth : Method} {c : Code} {H : Heap} {locs : List Loc} {cells slots : Nat} {Q : State → Prop} {ls : Array Slot} {g : zG} {A : Nat → Prop} {L : List Nat} {f : Nat → va_E} {am : Nat → Nat} {h o1 o2 b N : Nat} {σ : ZS} {xs : Nat → Int32} {i : Int32}
    (hx : p.tables.exec = Jvm.exec) (hb : c.code = cL_law) (hml : c.maxLocals = 9) (hown : s.vm.findClass RL = some m.cls) (hts : ∀ w ∈ wsL_law, w.before args s = true) (hl0 : l.stackTraces = false) (hw : zW g A s L f H locs) (hX : zX A s s.heap) (hXs : va_X b N xs s s.heap) (hbl : b < s.heap.size) (hbA : ¬ A b) (hRf : 20 ≤ R.frames) (hRl : 1000 ≤ R.locals) (hRc : cells + 60 ≤ R.cells) (hRs : slots + 1000 ≤ R.slots) (hJ : zLw g h am o1 o2 σ L f) (hix : ∀ j : Nat, j < 7 → vp_in (i + nI j) N) (hl : lv_has ls 9 [(0, .ref b), (1, .ref h), (2, .ref (am 0)), (3, .ref o1), (4, .ref o2), (5, .int i)])
    (hback : ∀ (σ1 : ZS) (L1 : List Nat) (f1 : Nat → va_E) (H1 : Heap) (locs1 : List Loc) (ls1 : Array Slot), zLw g h am o1 o2 σ1 L1 f1 → zW g A s L1 f1 H1 locs1 → lv_has ls1 9 [(0, .ref b), (1, .ref h), (2, .ref (am 0)), (3, .ref o1), (4, .ref o2), (5, .int i)] → W p l e R s m args below meth c H1 locs1 (cells + 60) (slots + 1000) Q (F0 m 2828 ls1 [])) : W p l e R s m args below meth c H locs cells slots Q (F0 m 1522 ls []) := by
  obtain ⟨bs, th, F, D, hH, hE, h10, h20⟩ := hJ
  obtain ⟨ln, kd, hI⟩ := zHC_I hH
  obtain ⟨fs9, hcb⟩ := zHC_obj hH
  have hn1 := zMe_ne1 hE h10
  have hn2 := zMe_ne2 hE h20
  have hn12 := zo_ne h10 h20
  refine lv_aload_n hx hb dL_law_1522 rfl (lv_at hl 1 rfl) ?_
  refine lv_aload_n hx hb dL_law_1523 rfl (lv_at hl 0 rfl) ?_
  refine lv_iload hx hb dL_law_1524 (lv_at hl 5 rfl) ?_
  refine lv_iconst (v := 1) hx hb dL_law_1526 (by decide) ?_
  refine lv_iadd hx hb dL_law_1527 ?_
  refine va_sld hx hb hXs hbl hbA hw.2.2.2.1 (hix 1 (by decide)) dL_law_1528 ?_
  refine lv_aload_n hx hb dL_law_1529 rfl (lv_at hl 0 rfl) ?_
  refine lv_iload hx hb dL_law_1530 (lv_at hl 5 rfl) ?_
  refine lv_iconst (v := 2) hx hb dL_law_1532 (by decide) ?_
  refine lv_iadd hx hb dL_law_1533 ?_
  refine va_sld hx hb hXs hbl hbA hw.2.2.2.1 (hix 2 (by decide)) dL_law_1534 ?_
  refine lv_i2l (v := (xs (Int32.toNatClampNeg (i + 2))).toInt64) hx hb dL_law_1535 rfl ?_
  refine lv_bipush (v := 32) hx hb dL_law_1536 (by decide) ?_
  refine lv_lshl (v := ((xs (Int32.toNatClampNeg (i + 2))).toInt64 <<< (((32 : Int32)).toInt64 &&& 63))) hx hb dL_law_1538 rfl ?_
  refine lv_aload_n hx hb dL_law_1539 rfl (lv_at hl 0 rfl) ?_
  refine lv_iload hx hb dL_law_1540 (lv_at hl 5 rfl) ?_
  refine lv_iconst (v := 3) hx hb dL_law_1542 (by decide) ?_
  refine lv_iadd hx hb dL_law_1543 ?_
  refine va_sld hx hb hXs hbl hbA hw.2.2.2.1 (hix 3 (by decide)) dL_law_1544 ?_
  refine lv_i2l (v := (xs (Int32.toNatClampNeg (i + 3))).toInt64) hx hb dL_law_1545 rfl ?_
  refine lv_ldc2 (v := 4294967295) hx hb hown (hts (.constantLong RL 226 4294967295) (by decide +kernel)) dL_law_1546 ?_
  refine lv_land hx hb dL_law_1549 ?_
  refine lv_lor hx hb dL_law_1550 ?_
  refine lv_aload_n hx hb dL_law_1551 rfl (lv_at hl 3 rfl) ?_
  refine z_callSX (As := [.ref h, .int (xs (Int32.toNatClampNeg (i + 1))), .long (((xs (Int32.toNatClampNeg (i + 2))).toInt64 <<< (((32 : Int32)).toInt64 &&& 63)) ||| ((xs (Int32.toNatClampNeg (i + 3))).toInt64 &&& 4294967295)), .ref o1]) (rest := []) ⟨hx, hb, hml, hown, hts⟩ hw hX (c_L_put l hl0 g L f h (zPm am o1 o2) σ (xs (Int32.toNatClampNeg (i + 1))) (((xs (Int32.toNatClampNeg (i + 2))).toInt64 <<< (((32 : Int32)).toInt64 &&& 63)) ||| ((xs (Int32.toNatClampNeg (i + 3))).toInt64 &&& 4294967295)) o1 F hH h10 zPm_1) (vx_cwSW 4 hts gL_law_L_put rfl rfl rfl (by decide +kernel) ⟨Nat.le_trans (Nat.le_of_ble_eq_true rfl) hRf, Nat.le_trans (Nat.le_of_ble_eq_true rfl) hRl⟩) rfl hl.1 rfl (Nat.le_of_ble_eq_true rfl) dL_law_1552 ⟨by omega, by omega⟩ (fun _ _ _ _ _ _ _ hp => False.elim hp) (fun r9 L1 f1 H locs hp hw => ?_)
  obtain ⟨rfl, hH1, ⟨F1, hF1, hv1⟩, hfr1⟩ := hp
  have hE1 := zMe_kept hE hH1 (fun k hk => hfr1 _ (zPm_m hk) (hn1 k hk))
  refine W.eq (g2 := F0 m 1555 ls [.int (o_put σ (xs (Int32.toNatClampNeg (i + 1))) (((xs (Int32.toNatClampNeg (i + 2))).toInt64 <<< (((32 : Int32)).toInt64 &&& 63)) ||| ((xs (Int32.toNatClampNeg (i + 3))).toInt64 &&& 4294967295))).1]) rfl ?_
  refine lv_istore (lv' := [(6, .int (o_put σ (xs (Int32.toNatClampNeg (i + 1))) (((xs (Int32.toNatClampNeg (i + 2))).toInt64 <<< (((32 : Int32)).toInt64 &&& 63)) ||| ((xs (Int32.toNatClampNeg (i + 3))).toInt64 &&& 4294967295))).1), (0, .ref b), (1, .ref h), (2, .ref (am 0)), (3, .ref o1), (4, .ref o2), (5, .int i)]) hx hb dL_law_1555 hl (by decide) rfl (fun ls hl => ?_)
  refine lv_aload_n hx hb dL_law_1557 rfl (lv_at hl 3 rfl) ?_
  refine lv_aload_n hx hb dL_law_1558 rfl (lv_at hl 1 rfl) ?_
  refine lv_iload hx hb dL_law_1559 (lv_at hl 6 rfl) ?_
  refine lv_iconst (v := 1) hx hb dL_law_1561 (by decide) ?_
  refine lv_iadd hx hb dL_law_1562 ?_
  refine va_sld hx hb hXs hbl hbA hw.2.2.2.1 (hix 1 (by decide)) dL_law_1563 ?_
  refine lv_aload_n hx hb dL_law_1564 rfl (lv_at hl 1 rfl) ?_
  refine lv_iload hx hb dL_law_1565 (lv_at hl 6 rfl) ?_
  refine lv_iconst (v := 2) hx hb dL_law_1567 (by decide) ?_
  refine lv_iadd hx hb dL_law_1568 ?_
  refine va_sld hx hb hXs hbl hbA hw.2.2.2.1 (hix 2 (by decide)) dL_law_1569 ?_
  refine lv_i2l (v := (xs (Int32.toNatClampNeg (i + 2))).toInt64) hx hb dL_law_1570 rfl ?_
  refine lv_bipush (v := 32) hx hb dL_law_1571 (by decide) ?_
  refine lv_lshl (v := ((xs (Int32.toNatClampNeg (i + 2))).toInt64 <<< (((32 : Int32)).toInt64 &&& 63))) hx hb dL_law_1573 rfl ?_
  refine lv_aload_n hx hb dL_law_1574 rfl (lv_at hl 1 rfl) ?_
  refine lv_iload hx hb dL_law_1575 (lv_at hl 6 rfl) ?_
  refine lv_iconst (v := 3) hx hb dL_law_1577 (by decide) ?_
  refine lv_iadd hx hb dL_law_1578 ?_
  refine va_sld hx hb hXs hbl hbA hw.2.2.2.1 (hix 3 (by decide)) dL_law_1579 ?_
  refine lv_i2l (v := (xs (Int32.toNatClampNeg (i + 3))).toInt64) hx hb dL_law_1580 rfl ?_
  refine lv_ldc2 (v := 4294967295) hx hb hown (hts (.constantLong RL 226 4294967295) (by decide +kernel)) dL_law_1581 ?_
  refine lv_land hx hb dL_law_1584 ?_
  refine lv_lor hx hb dL_law_1585 ?_
  refine z_callV (As := [.int (xs (Int32.toNatClampNeg (i + 1))), .long (((xs (Int32.toNatClampNeg (i + 2))).toInt64 <<< (((32 : Int32)).toInt64 &&& 63)) ||| ((xs (Int32.toNatClampNeg (i + 3))).toInt64 &&& 4294967295))]) (rest := []) ⟨hx, hb, hml, hown, hts⟩ hw hX (hE1.1 0 (by decide)) rfl (c_X2_put l g am L1 f1 σ bs th (xs (Int32.toNatClampNeg (i + 1))) (((xs (Int32.toNatClampNeg (i + 2))).toInt64 <<< (((32 : Int32)).toInt64 &&& 63)) ||| ((xs (Int32.toNatClampNeg (i + 3))).toInt64 &&& 4294967295)) ⟨hE1, fun _ _ => rfl⟩ hI) (cwV 2 hts gL_law_X2_put rfl rfl rfl (by decide +kernel) ⟨Nat.le_trans (Nat.le_of_ble_eq_true rfl) hRf, Nat.le_trans (Nat.le_of_ble_eq_true rfl) hRl⟩) rfl hl.1 rfl (Nat.le_of_ble_eq_true rfl) dL_law_1586 ⟨by omega, by omega⟩ (fun _ _ _ _ _ _ _ hp => False.elim hp) (fun r9 L2 f2 H locs hp hw => ?_)
  obtain ⟨rfl, b9, bs9, rfl, hm9, hb9⟩ := hp
  have ho1 : zc L1 f2 o1 (.inl (g.2 1, 1, .inr (.inl F1))) := ⟨zHC_in hH1 zPm_1, (hm9.2 _ (fun k hk e => hn1 k hk e.symm)).trans hF1⟩
  have ho2 : zc L1 f2 o2 (.inl (g.2 3, 1, .inr (.inr (.inr (.inl D))))) := ⟨zHC_in hH1 zPm_2, (hm9.2 _ (fun k hk e => hn2 k hk e.symm)).trans ((hfr1 _ zPm_2 (Ne.symm hn12)).trans h20.2)⟩
  have hH2 := zHC_mod hH1 hm9.2
  refine W.eq (g2 := F0 m 1589 ls [.int b9]) rfl ?_
  refine lv_istore (lv' := [(7, .int b9), (6, .int (o_put σ (xs (Int32.toNatClampNeg (i + 1))) (((xs (Int32.toNatClampNeg (i + 2))).toInt64 <<< (((32 : Int32)).toInt64 &&& 63)) ||| ((xs (Int32.toNatClampNeg (i + 3))).toInt64 &&& 4294967295))).1), (0, .ref b), (1, .ref h), (2, .ref (am 0)), (3, .ref o1), (4, .ref o2), (5, .int i)]) hx hb dL_law_1589 hl (by decide) rfl (fun ls hl => ?_)
  refine lv_aload_n hx hb dL_law_1591 rfl (lv_at hl 4 rfl) ?_
  refine z_callV (As := []) (rest := []) ⟨hx, hb, hml, hown, hts⟩ hw hX (hm9.1.1 0 (by decide)) rfl (c_X2_thrown l g am L1 f2 (o_put σ (xs (Int32.toNatClampNeg (i + 1))) (((xs (Int32.toNatClampNeg (i + 2))).toInt64 <<< (((32 : Int32)).toInt64 &&& 63)) ||| ((xs (Int32.toNatClampNeg (i + 3))).toInt64 &&& 4294967295))).2.2 bs9 (o_put σ (xs (Int32.toNatClampNeg (i + 1))) (((xs (Int32.toNatClampNeg (i + 2))).toInt64 <<< (((32 : Int32)).toInt64 &&& 63)) ||| ((xs (Int32.toNatClampNeg (i + 3))).toInt64 &&& 4294967295))).1 hm9.rf) (cwV 0 hts gL_law_X2_thrown rfl rfl rfl (by decide +kernel) ⟨Nat.le_trans (Nat.le_of_ble_eq_true rfl) hRf, Nat.le_trans (Nat.le_of_ble_eq_true rfl) hRl⟩) rfl hl.1 rfl (Nat.le_of_ble_eq_true rfl) dL_law_1592 ⟨by omega, by omega⟩ (fun _ _ _ _ _ _ _ hp => False.elim hp) (fun r9 L3 f3 H locs hp hw => ?_)
  obtain ⟨rfl, rfl, rfl⟩ := hp
  refine W.eq (g2 := F0 m 1595 ls [.int (o_put σ (xs (Int32.toNatClampNeg (i + 1))) (((xs (Int32.toNatClampNeg (i + 2))).toInt64 <<< (((32 : Int32)).toInt64 &&& 63)) ||| ((xs (Int32.toNatClampNeg (i + 3))).toInt64 &&& 4294967295))).1]) rfl ?_
  refine lv_iload hx hb dL_law_1595 (lv_at hl 1 rfl) ?_
  refine lv_icmp_eq (tgt := 1602) hx hb dL_law_1597 (by decide) (fun _ => ?_) (fun c => absurd rfl c)
  refine lv_iload hx hb dL_law_1602 (lv_at hl 1 rfl) ?_
  refine lv_if_ne (tgt := 1619) hx hb dL_law_1604 (by decide) (fun c_1 => ?_) (fun c_1 => ?_)
  · refine lv_goto (tgt := 2828) hx hb dL_law_1619 (by decide) ?_
    refine W.widen (k := cells + 60) (n := slots + 1000) (by omega) (by omega) ?_
    have hl := lv_sub hl (l' := [(0, .ref b), (1, .ref h), (2, .ref (am 0)), (3, .ref o1), (4, .ref o2), (5, .int i)]) [2, 3, 4, 5, 6, 7] rfl
    exact hback _ _ _ _ _ _ ⟨_, _, _, _, hH2, hm9.1, ho1, ho2⟩ hw hl
  · refine lv_aload_n hx hb dL_law_1607 rfl (lv_at hl 5 rfl) ?_
    refine lv_iconst (v := 0) hx hb dL_law_1608 (by decide) ?_
    refine zr_lald hx hb hw ho1 (vp_in_iff.mpr (by decide)) dL_law_1609 ?_
    refine lv_iload hx hb dL_law_1610 (lv_at hl 0 rfl) ?_
    refine lv_i2l (v := b9.toInt64) hx hb dL_law_1612 rfl ?_
    refine W.lcmp hx hb dL_law_1613 ?_
    have hq_2 : (lg_cmp (F1 (Int32.toNatClampNeg 0)) b9.toInt64) = 0 := zcmp0.mpr (by rw [hb9 c_1]; exact hv1 c_1)
    refine lv_if_eq (tgt := 1619) hx hb dL_law_1614 (by decide) (fun c_3 => ?_) (fun c_3 => absurd hq_2 c_3)
    refine lv_goto (tgt := 2828) hx hb dL_law_1619 (by decide) ?_
    refine W.widen (k := cells + 60) (n := slots + 1000) (by omega) (by omega) ?_
    have hl := lv_sub hl (l' := [(0, .ref b), (1, .ref h), (2, .ref (am 0)), (3, .ref o1), (4, .ref o2), (5, .int i)]) [2, 3, 4, 5, 6, 7] rfl
    exact hback _ _ _ _ _ _ ⟨_, _, _, _, hH2, hm9.1, ho1, ho2⟩ hw hl

set_option maxRecDepth 100000 in
set_option maxHeartbeats 4000000 in
theorem k_law_22 {p : Program} {l : Launch} {e : Env} {R : Room} {s : State} {m : MethodId} {args : Array Value} {below : List Frame} {meth : Method} {c : Code} {H : Heap} {locs : List Loc} {cells slots : Nat} {Q : State → Prop} {ls : Array Slot} {g : zG} {A : Nat → Prop} {L : List Nat} {f : Nat → va_E} {am : Nat → Nat} {h o1 o2 b N : Nat} {σ : ZS} {xs : Nat → Int32} {i : Int32}
    (hx : p.tables.exec = Jvm.exec) (hb : c.code = cL_law) (hml : c.maxLocals = 9) (hown : s.vm.findClass RL = some m.cls) (hts : ∀ w ∈ wsL_law, w.before args s = true) (hl0 : l.stackTraces = false) (hw : zW g A s L f H locs) (hX : zX A s s.heap) (hXs : va_X b N xs s s.heap) (hbl : b < s.heap.size) (hbA : ¬ A b) (hRf : 20 ≤ R.frames) (hRl : 1000 ≤ R.locals) (hRc : cells + 60 ≤ R.cells) (hRs : slots + 1000 ≤ R.slots) (hJ : zLw g h am o1 o2 σ L f) (hix : ∀ j : Nat, j < 7 → vp_in (i + nI j) N) (hl : lv_has ls 9 [(0, .ref b), (1, .ref h), (2, .ref (am 0)), (3, .ref o1), (4, .ref o2), (5, .int i)])
    (hback : ∀ (σ1 : ZS) (L1 : List Nat) (f1 : Nat → va_E) (H1 : Heap) (locs1 : List Loc) (ls1 : Array Slot), zLw g h am o1 o2 σ1 L1 f1 → zW g A s L1 f1 H1 locs1 → lv_has ls1 9 [(0, .ref b), (1, .ref h), (2, .ref (am 0)), (3, .ref o1), (4, .ref o2), (5, .int i)] → W p l e R s m args below meth c H1 locs1 (cells + 60) (slots + 1000) Q (F0 m 2828 ls1 [])) : W p l e R s m args below meth c H locs cells slots Q (F0 m 1622 ls []) := by
  obtain ⟨bs, th, F, D, hH, hE, h10, h20⟩ := hJ
  obtain ⟨ln, kd, hI⟩ := zHC_I hH
  obtain ⟨fs9, hcb⟩ := zHC_obj hH
  have hn1 := zMe_ne1 hE h10
  have hn2 := zMe_ne2 hE h20
  have hn12 := zo_ne h10 h20
  refine lv_aload_n hx hb dL_law_1622 rfl (lv_at hl 1 rfl) ?_
  refine lv_aload_n hx hb dL_law_1623 rfl (lv_at hl 0 rfl) ?_
  refine lv_iload hx hb dL_law_1624 (lv_at hl 5 rfl) ?_
  refine lv_iconst (v := 1) hx hb dL_law_1626 (by decide) ?_
  refine lv_iadd hx hb dL_law_1627 ?_
  refine va_sld hx hb hXs hbl hbA hw.2.2.2.1 (hix 1 (by decide)) dL_law_1628 ?_
  refine lv_aload_n hx hb dL_law_1629 rfl (lv_at hl 0 rfl) ?_
  refine lv_iload hx hb dL_law_1630 (lv_at hl 5 rfl) ?_
  refine lv_iconst (v := 2) hx hb dL_law_1632 (by decide) ?_
  refine lv_iadd hx hb dL_law_1633 ?_
  refine va_sld hx hb hXs hbl hbA hw.2.2.2.1 (hix 2 (by decide)) dL_law_1634 ?_
  refine lv_aload_n hx hb dL_law_1635 rfl (lv_at hl 3 rfl) ?_
  refine z_callSX (As := [.ref h, .int (xs (Int32.toNatClampNeg (i + 1))), .int (xs (Int32.toNatClampNeg (i + 2))), .ref o1]) (rest := []) ⟨hx, hb, hml, hown, hts⟩ hw hX (c_L_getAt l hl0 g L f h (zPm am o1 o2) σ (xs (Int32.toNatClampNeg (i + 1))) (xs (Int32.toNatClampNeg (i + 2))) o1 F hH h10 zPm_1) (vx_cwSW 4 hts gL_law_L_getAt rfl rfl rfl (by decide +kernel) ⟨Nat.le_trans (Nat.le_of_ble_eq_true rfl) hRf, Nat.le_trans (Nat.le_of_ble_eq_true rfl) hRl⟩) rfl hl.1 rfl (Nat.le_of_ble_eq_true rfl) dL_law_1636 ⟨by omega, by omega⟩ (fun _ _ _ _ _ _ _ hp => False.elim hp) (fun r9 L1 f1 H locs hp hw => ?_)
  obtain ⟨rfl, hH1, ⟨F1, hF1, hv1⟩, hfr1⟩ := hp
  have hE1 := zMe_kept hE hH1 (fun k hk => hfr1 _ (zPm_m hk) (hn1 k hk))
  refine W.eq (g2 := F0 m 1639 ls [.int (o_getAt σ (xs (Int32.toNatClampNeg (i + 1))) (xs (Int32.toNatClampNeg (i + 2)))).1]) rfl ?_
  refine lv_istore (lv' := [(6, .int (o_getAt σ (xs (Int32.toNatClampNeg (i + 1))) (xs (Int32.toNatClampNeg (i + 2)))).1), (0, .ref b), (1, .ref h), (2, .ref (am 0)), (3, .ref o1), (4, .ref o2), (5, .int i)]) hx hb dL_law_1639 hl (by decide) rfl (fun ls hl => ?_)
  refine lv_aload_n hx hb dL_law_1641 rfl (lv_at hl 3 rfl) ?_
  refine lv_aload_n hx hb dL_law_1642 rfl (lv_at hl 1 rfl) ?_
  refine lv_iload hx hb dL_law_1643 (lv_at hl 6 rfl) ?_
  refine lv_iconst (v := 1) hx hb dL_law_1645 (by decide) ?_
  refine lv_iadd hx hb dL_law_1646 ?_
  refine va_sld hx hb hXs hbl hbA hw.2.2.2.1 (hix 1 (by decide)) dL_law_1647 ?_
  refine lv_aload_n hx hb dL_law_1648 rfl (lv_at hl 1 rfl) ?_
  refine lv_iload hx hb dL_law_1649 (lv_at hl 6 rfl) ?_
  refine lv_iconst (v := 2) hx hb dL_law_1651 (by decide) ?_
  refine lv_iadd hx hb dL_law_1652 ?_
  refine va_sld hx hb hXs hbl hbA hw.2.2.2.1 (hix 2 (by decide)) dL_law_1653 ?_
  refine z_callV (As := [.int (xs (Int32.toNatClampNeg (i + 1))), .int (xs (Int32.toNatClampNeg (i + 2)))]) (rest := []) ⟨hx, hb, hml, hown, hts⟩ hw hX (hE1.1 0 (by decide)) rfl (c_X2_getAt l g am L1 f1 σ bs th (xs (Int32.toNatClampNeg (i + 1))) (xs (Int32.toNatClampNeg (i + 2))) ⟨hE1, fun _ _ => rfl⟩ hI) (cwV 2 hts gL_law_X2_getAt rfl rfl rfl (by decide +kernel) ⟨Nat.le_trans (Nat.le_of_ble_eq_true rfl) hRf, Nat.le_trans (Nat.le_of_ble_eq_true rfl) hRl⟩) rfl hl.1 rfl (Nat.le_of_ble_eq_true rfl) dL_law_1654 ⟨by omega, by omega⟩ (fun _ _ _ _ _ _ _ hp => False.elim hp) (fun r9 L2 f2 H locs hp hw => ?_)
  obtain ⟨rfl, b9, bs9, rfl, hm9, hb9⟩ := hp
  have ho1 : zc L1 f2 o1 (.inl (g.2 1, 1, .inr (.inl F1))) := ⟨zHC_in hH1 zPm_1, (hm9.2 _ (fun k hk e => hn1 k hk e.symm)).trans hF1⟩
  have ho2 : zc L1 f2 o2 (.inl (g.2 3, 1, .inr (.inr (.inr (.inl D))))) := ⟨zHC_in hH1 zPm_2, (hm9.2 _ (fun k hk e => hn2 k hk e.symm)).trans ((hfr1 _ zPm_2 (Ne.symm hn12)).trans h20.2)⟩
  have hH2 := zHC_mod hH1 hm9.2
  refine W.eq (g2 := F0 m 1657 ls [.long b9]) rfl ?_
  refine lv_lstore (lv' := [(7, .long b9), (6, .int (o_getAt σ (xs (Int32.toNatClampNeg (i + 1))) (xs (Int32.toNatClampNeg (i + 2)))).1), (0, .ref b), (1, .ref h), (2, .ref (am 0)), (3, .ref o1), (4, .ref o2), (5, .int i)]) hx hb dL_law_1657 hl (by decide) rfl (fun ls hl => ?_)
  refine lv_aload_n hx hb dL_law_1659 rfl (lv_at hl 4 rfl) ?_
  refine z_callV (As := []) (rest := []) ⟨hx, hb, hml, hown, hts⟩ hw hX (hm9.1.1 0 (by decide)) rfl (c_X2_thrown l g am L1 f2 (o_getAt σ (xs (Int32.toNatClampNeg (i + 1))) (xs (Int32.toNatClampNeg (i + 2)))).2.2 bs9 (o_getAt σ (xs (Int32.toNatClampNeg (i + 1))) (xs (Int32.toNatClampNeg (i + 2)))).1 hm9.rf) (cwV 0 hts gL_law_X2_thrown rfl rfl rfl (by decide +kernel) ⟨Nat.le_trans (Nat.le_of_ble_eq_true rfl) hRf, Nat.le_trans (Nat.le_of_ble_eq_true rfl) hRl⟩) rfl hl.1 rfl (Nat.le_of_ble_eq_true rfl) dL_law_1660 ⟨by omega, by omega⟩ (fun _ _ _ _ _ _ _ hp => False.elim hp) (fun r9 L3 f3 H locs hp hw => ?_)
  obtain ⟨rfl, rfl, rfl⟩ := hp
  refine W.eq (g2 := F0 m 1663 ls [.int (o_getAt σ (xs (Int32.toNatClampNeg (i + 1))) (xs (Int32.toNatClampNeg (i + 2)))).1]) rfl ?_
  refine lv_iload hx hb dL_law_1663 (lv_at hl 1 rfl) ?_
  refine lv_icmp_eq (tgt := 1670) hx hb dL_law_1665 (by decide) (fun _ => ?_) (fun c => absurd rfl c)
  refine lv_iload hx hb dL_law_1670 (lv_at hl 1 rfl) ?_
  refine lv_if_ne (tgt := 1686) hx hb dL_law_1672 (by decide) (fun c_1 => ?_) (fun c_1 => ?_)
  · refine lv_goto (tgt := 2828) hx hb dL_law_1686 (by decide) ?_
    refine W.widen (k := cells + 60) (n := slots + 1000) (by omega) (by omega) ?_
    have hl := lv_sub hl (l' := [(0, .ref b), (1, .ref h), (2, .ref (am 0)), (3, .ref o1), (4, .ref o2), (5, .int i)]) [2, 3, 4, 5, 6, 7] rfl
    exact hback _ _ _ _ _ _ ⟨_, _, _, _, hH2, hm9.1, ho1, ho2⟩ hw hl
  · refine lv_aload_n hx hb dL_law_1675 rfl (lv_at hl 5 rfl) ?_
    refine lv_iconst (v := 0) hx hb dL_law_1676 (by decide) ?_
    refine zr_lald hx hb hw ho1 (vp_in_iff.mpr (by decide)) dL_law_1677 ?_
    refine lv_lload hx hb dL_law_1678 (lv_at hl 0 rfl) ?_
    refine W.lcmp hx hb dL_law_1680 ?_
    have hq_2 : (lg_cmp (F1 (Int32.toNatClampNeg 0)) b9) = 0 := zcmp0.mpr (by rw [hb9 c_1]; exact hv1 c_1)
    refine lv_if_eq (tgt := 1686) hx hb dL_law_1681 (by decide) (fun c_3 => ?_) (fun c_3 => absurd hq_2 c_3)
    refine lv_goto (tgt := 2828) hx hb dL_law_1686 (by decide) ?_
    refine W.widen (k := cells + 60) (n := slots + 1000) (by omega) (by omega) ?_
    have hl := lv_sub hl (l' := [(0, .ref b), (1, .ref h), (2, .ref (am 0)), (3, .ref o1), (4, .ref o2), (5, .int i)]) [2, 3, 4, 5, 6, 7] rfl
    exact hback _ _ _ _ _ _ ⟨_, _, _, _, hH2, hm9.1, ho1, ho2⟩ hw hl

set_option maxRecDepth 100000 in
set_option maxHeartbeats 4000000 in
theorem k_law_23 {p : Program} {l : Launch} {e : Env} {R : Room} {s : State} {m : MethodId} {args : Array Value} {below : List Frame} {meth : Method} {c : Code} {H : Heap} {locs : List Loc} {cells slots : Nat} {Q : State → Prop} {ls : Array Slot} {g : zG} {A : Nat → Prop} {L : List Nat} {f : Nat → va_E} {am : Nat → Nat} {h o1 o2 b N : Nat} {σ : ZS} {xs : Nat → Int32} {i : Int32}
    (hx : p.tables.exec = Jvm.exec) (hb : c.code = cL_law) (hml : c.maxLocals = 9) (hown : s.vm.findClass RL = some m.cls) (hts : ∀ w ∈ wsL_law, w.before args s = true) (hl0 : l.stackTraces = false) (hw : zW g A s L f H locs) (hX : zX A s s.heap) (hXs : va_X b N xs s s.heap) (hbl : b < s.heap.size) (hbA : ¬ A b) (hRf : 20 ≤ R.frames) (hRl : 1000 ≤ R.locals) (hRc : cells + 60 ≤ R.cells) (hRs : slots + 1000 ≤ R.slots) (hJ : zLw g h am o1 o2 σ L f) (hix : ∀ j : Nat, j < 7 → vp_in (i + nI j) N) (hl : lv_has ls 9 [(0, .ref b), (1, .ref h), (2, .ref (am 0)), (3, .ref o1), (4, .ref o2), (5, .int i)])
    (hback : ∀ (σ1 : ZS) (L1 : List Nat) (f1 : Nat → va_E) (H1 : Heap) (locs1 : List Loc) (ls1 : Array Slot), zLw g h am o1 o2 σ1 L1 f1 → zW g A s L1 f1 H1 locs1 → lv_has ls1 9 [(0, .ref b), (1, .ref h), (2, .ref (am 0)), (3, .ref o1), (4, .ref o2), (5, .int i)] → W p l e R s m args below meth c H1 locs1 (cells + 60) (slots + 1000) Q (F0 m 2828 ls1 [])) : W p l e R s m args below meth c H locs cells slots Q (F0 m 1689 ls []) := by
  obtain ⟨bs, th, F, D, hH, hE, h10, h20⟩ := hJ
  obtain ⟨ln, kd, hI⟩ := zHC_I hH
  obtain ⟨fs9, hcb⟩ := zHC_obj hH
  have hn1 := zMe_ne1 hE h10
  have hn2 := zMe_ne2 hE h20
  have hn12 := zo_ne h10 h20
  refine lv_aload_n hx hb dL_law_1689 rfl (lv_at hl 1 rfl) ?_
  refine lv_aload_n hx hb dL_law_1690 rfl (lv_at hl 0 rfl) ?_
  refine lv_iload hx hb dL_law_1691 (lv_at hl 5 rfl) ?_
  refine lv_iconst (v := 1) hx hb dL_law_1693 (by decide) ?_
  refine lv_iadd hx hb dL_law_1694 ?_
  refine va_sld hx hb hXs hbl hbA hw.2.2.2.1 (hix 1 (by decide)) dL_law_1695 ?_
  refine lv_aload_n hx hb dL_law_1696 rfl (lv_at hl 0 rfl) ?_
  refine lv_iload hx hb dL_law_1697 (lv_at hl 5 rfl) ?_
  refine lv_iconst (v := 2) hx hb dL_law_1699 (by decide) ?_
  refine lv_iadd hx hb dL_law_1700 ?_
  refine va_sld hx hb hXs hbl hbA hw.2.2.2.1 (hix 2 (by decide)) dL_law_1701 ?_
  refine lv_aload_n hx hb dL_law_1702 rfl (lv_at hl 0 rfl) ?_
  refine lv_iload hx hb dL_law_1703 (lv_at hl 5 rfl) ?_
  refine lv_iconst (v := 3) hx hb dL_law_1705 (by decide) ?_
  refine lv_iadd hx hb dL_law_1706 ?_
  refine va_sld hx hb hXs hbl hbA hw.2.2.2.1 (hix 3 (by decide)) dL_law_1707 ?_
  refine lv_i2l (v := (xs (Int32.toNatClampNeg (i + 3))).toInt64) hx hb dL_law_1708 rfl ?_
  refine lv_bipush (v := 32) hx hb dL_law_1709 (by decide) ?_
  refine lv_lshl (v := ((xs (Int32.toNatClampNeg (i + 3))).toInt64 <<< (((32 : Int32)).toInt64 &&& 63))) hx hb dL_law_1711 rfl ?_
  refine lv_aload_n hx hb dL_law_1712 rfl (lv_at hl 0 rfl) ?_
  refine lv_iload hx hb dL_law_1713 (lv_at hl 5 rfl) ?_
  refine lv_iconst (v := 4) hx hb dL_law_1715 (by decide) ?_
  refine lv_iadd hx hb dL_law_1716 ?_
  refine va_sld hx hb hXs hbl hbA hw.2.2.2.1 (hix 4 (by decide)) dL_law_1717 ?_
  refine lv_i2l (v := (xs (Int32.toNatClampNeg (i + 4))).toInt64) hx hb dL_law_1718 rfl ?_
  refine lv_ldc2 (v := 4294967295) hx hb hown (hts (.constantLong RL 226 4294967295) (by decide +kernel)) dL_law_1719 ?_
  refine lv_land hx hb dL_law_1722 ?_
  refine lv_lor hx hb dL_law_1723 ?_
  refine lv_aload_n hx hb dL_law_1724 rfl (lv_at hl 3 rfl) ?_
  refine z_callSX (As := [.ref h, .int (xs (Int32.toNatClampNeg (i + 1))), .int (xs (Int32.toNatClampNeg (i + 2))), .long (((xs (Int32.toNatClampNeg (i + 3))).toInt64 <<< (((32 : Int32)).toInt64 &&& 63)) ||| ((xs (Int32.toNatClampNeg (i + 4))).toInt64 &&& 4294967295)), .ref o1]) (rest := []) ⟨hx, hb, hml, hown, hts⟩ hw hX (c_L_putAt l hl0 g L f h (zPm am o1 o2) σ (xs (Int32.toNatClampNeg (i + 1))) (xs (Int32.toNatClampNeg (i + 2))) (((xs (Int32.toNatClampNeg (i + 3))).toInt64 <<< (((32 : Int32)).toInt64 &&& 63)) ||| ((xs (Int32.toNatClampNeg (i + 4))).toInt64 &&& 4294967295)) o1 F hH h10 zPm_1) (vx_cwSW 5 hts gL_law_L_putAt rfl rfl rfl (by decide +kernel) ⟨Nat.le_trans (Nat.le_of_ble_eq_true rfl) hRf, Nat.le_trans (Nat.le_of_ble_eq_true rfl) hRl⟩) rfl hl.1 rfl (Nat.le_of_ble_eq_true rfl) dL_law_1725 ⟨by omega, by omega⟩ (fun _ _ _ _ _ _ _ hp => False.elim hp) (fun r9 L1 f1 H locs hp hw => ?_)
  obtain ⟨rfl, hH1, ⟨F1, hF1, hv1⟩, hfr1⟩ := hp
  have hE1 := zMe_kept hE hH1 (fun k hk => hfr1 _ (zPm_m hk) (hn1 k hk))
  refine W.eq (g2 := F0 m 1728 ls [.int (o_putAt σ (xs (Int32.toNatClampNeg (i + 1))) (xs (Int32.toNatClampNeg (i + 2))) (((xs (Int32.toNatClampNeg (i + 3))).toInt64 <<< (((32 : Int32)).toInt64 &&& 63)) ||| ((xs (Int32.toNatClampNeg (i + 4))).toInt64 &&& 4294967295))).1]) rfl ?_
  refine lv_istore (lv' := [(6, .int (o_putAt σ (xs (Int32.toNatClampNeg (i + 1))) (xs (Int32.toNatClampNeg (i + 2))) (((xs (Int32.toNatClampNeg (i + 3))).toInt64 <<< (((32 : Int32)).toInt64 &&& 63)) ||| ((xs (Int32.toNatClampNeg (i + 4))).toInt64 &&& 4294967295))).1), (0, .ref b), (1, .ref h), (2, .ref (am 0)), (3, .ref o1), (4, .ref o2), (5, .int i)]) hx hb dL_law_1728 hl (by decide) rfl (fun ls hl => ?_)
  refine lv_aload_n hx hb dL_law_1730 rfl (lv_at hl 3 rfl) ?_
  refine lv_aload_n hx hb dL_law_1731 rfl (lv_at hl 1 rfl) ?_
  refine lv_iload hx hb dL_law_1732 (lv_at hl 6 rfl) ?_
  refine lv_iconst (v := 1) hx hb dL_law_1734 (by decide) ?_
  refine lv_iadd hx hb dL_law_1735 ?_
  refine va_sld hx hb hXs hbl hbA hw.2.2.2.1 (hix 1 (by decide)) dL_law_1736 ?_
  refine lv_aload_n hx hb dL_law_1737 rfl (lv_at hl 1 rfl) ?_
  refine lv_iload hx hb dL_law_1738 (lv_at hl 6 rfl) ?_
  refine lv_iconst (v := 2) hx hb dL_law_1740 (by decide) ?_
  refine lv_iadd hx hb dL_law_1741 ?_
  refine va_sld hx hb hXs hbl hbA hw.2.2.2.1 (hix 2 (by decide)) dL_law_1742 ?_
  refine lv_aload_n hx hb dL_law_1743 rfl (lv_at hl 1 rfl) ?_
  refine lv_iload hx hb dL_law_1744 (lv_at hl 6 rfl) ?_
  refine lv_iconst (v := 3) hx hb dL_law_1746 (by decide) ?_
  refine lv_iadd hx hb dL_law_1747 ?_
  refine va_sld hx hb hXs hbl hbA hw.2.2.2.1 (hix 3 (by decide)) dL_law_1748 ?_
  refine lv_i2l (v := (xs (Int32.toNatClampNeg (i + 3))).toInt64) hx hb dL_law_1749 rfl ?_
  refine lv_bipush (v := 32) hx hb dL_law_1750 (by decide) ?_
  refine lv_lshl (v := ((xs (Int32.toNatClampNeg (i + 3))).toInt64 <<< (((32 : Int32)).toInt64 &&& 63))) hx hb dL_law_1752 rfl ?_
  refine lv_aload_n hx hb dL_law_1753 rfl (lv_at hl 1 rfl) ?_
  refine lv_iload hx hb dL_law_1754 (lv_at hl 6 rfl) ?_
  refine lv_iconst (v := 4) hx hb dL_law_1756 (by decide) ?_
  refine lv_iadd hx hb dL_law_1757 ?_
  refine va_sld hx hb hXs hbl hbA hw.2.2.2.1 (hix 4 (by decide)) dL_law_1758 ?_
  refine lv_i2l (v := (xs (Int32.toNatClampNeg (i + 4))).toInt64) hx hb dL_law_1759 rfl ?_
  refine lv_ldc2 (v := 4294967295) hx hb hown (hts (.constantLong RL 226 4294967295) (by decide +kernel)) dL_law_1760 ?_
  refine lv_land hx hb dL_law_1763 ?_
  refine lv_lor hx hb dL_law_1764 ?_
  refine z_callV (As := [.int (xs (Int32.toNatClampNeg (i + 1))), .int (xs (Int32.toNatClampNeg (i + 2))), .long (((xs (Int32.toNatClampNeg (i + 3))).toInt64 <<< (((32 : Int32)).toInt64 &&& 63)) ||| ((xs (Int32.toNatClampNeg (i + 4))).toInt64 &&& 4294967295))]) (rest := []) ⟨hx, hb, hml, hown, hts⟩ hw hX (hE1.1 0 (by decide)) rfl (c_X2_putAt l g am L1 f1 σ bs th (xs (Int32.toNatClampNeg (i + 1))) (xs (Int32.toNatClampNeg (i + 2))) (((xs (Int32.toNatClampNeg (i + 3))).toInt64 <<< (((32 : Int32)).toInt64 &&& 63)) ||| ((xs (Int32.toNatClampNeg (i + 4))).toInt64 &&& 4294967295)) ⟨hE1, fun _ _ => rfl⟩ hI) (cwV 3 hts gL_law_X2_putAt rfl rfl rfl (by decide +kernel) ⟨Nat.le_trans (Nat.le_of_ble_eq_true rfl) hRf, Nat.le_trans (Nat.le_of_ble_eq_true rfl) hRl⟩) rfl hl.1 rfl (Nat.le_of_ble_eq_true rfl) dL_law_1765 ⟨by omega, by omega⟩ (fun _ _ _ _ _ _ _ hp => False.elim hp) (fun r9 L2 f2 H locs hp hw => ?_)
  obtain ⟨rfl, b9, bs9, rfl, hm9, hb9⟩ := hp
  have ho1 : zc L1 f2 o1 (.inl (g.2 1, 1, .inr (.inl F1))) := ⟨zHC_in hH1 zPm_1, (hm9.2 _ (fun k hk e => hn1 k hk e.symm)).trans hF1⟩
  have ho2 : zc L1 f2 o2 (.inl (g.2 3, 1, .inr (.inr (.inr (.inl D))))) := ⟨zHC_in hH1 zPm_2, (hm9.2 _ (fun k hk e => hn2 k hk e.symm)).trans ((hfr1 _ zPm_2 (Ne.symm hn12)).trans h20.2)⟩
  have hH2 := zHC_mod hH1 hm9.2
  refine W.eq (g2 := F0 m 1768 ls [.long b9]) rfl ?_
  refine lv_lstore (lv' := [(7, .long b9), (6, .int (o_putAt σ (xs (Int32.toNatClampNeg (i + 1))) (xs (Int32.toNatClampNeg (i + 2))) (((xs (Int32.toNatClampNeg (i + 3))).toInt64 <<< (((32 : Int32)).toInt64 &&& 63)) ||| ((xs (Int32.toNatClampNeg (i + 4))).toInt64 &&& 4294967295))).1), (0, .ref b), (1, .ref h), (2, .ref (am 0)), (3, .ref o1), (4, .ref o2), (5, .int i)]) hx hb dL_law_1768 hl (by decide) rfl (fun ls hl => ?_)
  refine lv_aload_n hx hb dL_law_1770 rfl (lv_at hl 4 rfl) ?_
  refine z_callV (As := []) (rest := []) ⟨hx, hb, hml, hown, hts⟩ hw hX (hm9.1.1 0 (by decide)) rfl (c_X2_thrown l g am L1 f2 (o_putAt σ (xs (Int32.toNatClampNeg (i + 1))) (xs (Int32.toNatClampNeg (i + 2))) (((xs (Int32.toNatClampNeg (i + 3))).toInt64 <<< (((32 : Int32)).toInt64 &&& 63)) ||| ((xs (Int32.toNatClampNeg (i + 4))).toInt64 &&& 4294967295))).2.2 bs9 (o_putAt σ (xs (Int32.toNatClampNeg (i + 1))) (xs (Int32.toNatClampNeg (i + 2))) (((xs (Int32.toNatClampNeg (i + 3))).toInt64 <<< (((32 : Int32)).toInt64 &&& 63)) ||| ((xs (Int32.toNatClampNeg (i + 4))).toInt64 &&& 4294967295))).1 hm9.rf) (cwV 0 hts gL_law_X2_thrown rfl rfl rfl (by decide +kernel) ⟨Nat.le_trans (Nat.le_of_ble_eq_true rfl) hRf, Nat.le_trans (Nat.le_of_ble_eq_true rfl) hRl⟩) rfl hl.1 rfl (Nat.le_of_ble_eq_true rfl) dL_law_1771 ⟨by omega, by omega⟩ (fun _ _ _ _ _ _ _ hp => False.elim hp) (fun r9 L3 f3 H locs hp hw => ?_)
  obtain ⟨rfl, rfl, rfl⟩ := hp
  refine W.eq (g2 := F0 m 1774 ls [.int (o_putAt σ (xs (Int32.toNatClampNeg (i + 1))) (xs (Int32.toNatClampNeg (i + 2))) (((xs (Int32.toNatClampNeg (i + 3))).toInt64 <<< (((32 : Int32)).toInt64 &&& 63)) ||| ((xs (Int32.toNatClampNeg (i + 4))).toInt64 &&& 4294967295))).1]) rfl ?_
  refine lv_iload hx hb dL_law_1774 (lv_at hl 1 rfl) ?_
  refine lv_icmp_eq (tgt := 1781) hx hb dL_law_1776 (by decide) (fun _ => ?_) (fun c => absurd rfl c)
  refine lv_iload hx hb dL_law_1781 (lv_at hl 1 rfl) ?_
  refine lv_if_ne (tgt := 1797) hx hb dL_law_1783 (by decide) (fun c_1 => ?_) (fun c_1 => ?_)
  · refine lv_goto (tgt := 2828) hx hb dL_law_1797 (by decide) ?_
    refine W.widen (k := cells + 60) (n := slots + 1000) (by omega) (by omega) ?_
    have hl := lv_sub hl (l' := [(0, .ref b), (1, .ref h), (2, .ref (am 0)), (3, .ref o1), (4, .ref o2), (5, .int i)]) [2, 3, 4, 5, 6, 7] rfl
    exact hback _ _ _ _ _ _ ⟨_, _, _, _, hH2, hm9.1, ho1, ho2⟩ hw hl
  · refine lv_aload_n hx hb dL_law_1786 rfl (lv_at hl 5 rfl) ?_
    refine lv_iconst (v := 0) hx hb dL_law_1787 (by decide) ?_
    refine zr_lald hx hb hw ho1 (vp_in_iff.mpr (by decide)) dL_law_1788 ?_
    refine lv_lload hx hb dL_law_1789 (lv_at hl 0 rfl) ?_
    refine W.lcmp hx hb dL_law_1791 ?_
    have hq_2 : (lg_cmp (F1 (Int32.toNatClampNeg 0)) b9) = 0 := zcmp0.mpr (by rw [hb9 c_1]; exact hv1 c_1)
    refine lv_if_eq (tgt := 1797) hx hb dL_law_1792 (by decide) (fun c_3 => ?_) (fun c_3 => absurd hq_2 c_3)
    refine lv_goto (tgt := 2828) hx hb dL_law_1797 (by decide) ?_
    refine W.widen (k := cells + 60) (n := slots + 1000) (by omega) (by omega) ?_
    have hl := lv_sub hl (l' := [(0, .ref b), (1, .ref h), (2, .ref (am 0)), (3, .ref o1), (4, .ref o2), (5, .int i)]) [2, 3, 4, 5, 6, 7] rfl
    exact hback _ _ _ _ _ _ ⟨_, _, _, _, hH2, hm9.1, ho1, ho2⟩ hw hl

set_option maxRecDepth 100000 in
set_option maxHeartbeats 4000000 in
theorem k_law_24 {p : Program} {l : Launch} {e : Env} {R : Room} {s : State} {m : MethodId} {args : Array Value} {below : List Frame} {meth : Method} {c : Code} {H : Heap} {locs : List Loc} {cells slots : Nat} {Q : State → Prop} {ls : Array Slot} {g : zG} {A : Nat → Prop} {L : List Nat} {f : Nat → va_E} {am : Nat → Nat} {h o1 o2 b N : Nat} {σ : ZS} {xs : Nat → Int32} {i : Int32}
    (hx : p.tables.exec = Jvm.exec) (hb : c.code = cL_law) (hml : c.maxLocals = 9) (hown : s.vm.findClass RL = some m.cls) (hts : ∀ w ∈ wsL_law, w.before args s = true) (hl0 : l.stackTraces = false) (hw : zW g A s L f H locs) (hX : zX A s s.heap) (hXs : va_X b N xs s s.heap) (hbl : b < s.heap.size) (hbA : ¬ A b) (hRf : 20 ≤ R.frames) (hRl : 1000 ≤ R.locals) (hRc : cells + 60 ≤ R.cells) (hRs : slots + 1000 ≤ R.slots) (hJ : zLw g h am o1 o2 σ L f) (hix : ∀ j : Nat, j < 7 → vp_in (i + nI j) N) (hl : lv_has ls 9 [(0, .ref b), (1, .ref h), (2, .ref (am 0)), (3, .ref o1), (4, .ref o2), (5, .int i)])
    (hback : ∀ (σ1 : ZS) (L1 : List Nat) (f1 : Nat → va_E) (H1 : Heap) (locs1 : List Loc) (ls1 : Array Slot), zLw g h am o1 o2 σ1 L1 f1 → zW g A s L1 f1 H1 locs1 → lv_has ls1 9 [(0, .ref b), (1, .ref h), (2, .ref (am 0)), (3, .ref o1), (4, .ref o2), (5, .int i)] → W p l e R s m args below meth c H1 locs1 (cells + 60) (slots + 1000) Q (F0 m 2828 ls1 [])) : W p l e R s m args below meth c H locs cells slots Q (F0 m 1800 ls []) := by
  obtain ⟨bs, th, F, D, hH, hE, h10, h20⟩ := hJ
  obtain ⟨ln, kd, hI⟩ := zHC_I hH
  obtain ⟨fs9, hcb⟩ := zHC_obj hH
  have hn1 := zMe_ne1 hE h10
  have hn2 := zMe_ne2 hE h20
  have hn12 := zo_ne h10 h20
  refine lv_aload_n hx hb dL_law_1800 rfl (lv_at hl 1 rfl) ?_
  refine lv_aload_n hx hb dL_law_1801 rfl (lv_at hl 0 rfl) ?_
  refine lv_iload hx hb dL_law_1802 (lv_at hl 5 rfl) ?_
  refine lv_iconst (v := 1) hx hb dL_law_1804 (by decide) ?_
  refine lv_iadd hx hb dL_law_1805 ?_
  refine va_sld hx hb hXs hbl hbA hw.2.2.2.1 (hix 1 (by decide)) dL_law_1806 ?_
  refine lv_aload_n hx hb dL_law_1807 rfl (lv_at hl 0 rfl) ?_
  refine lv_iload hx hb dL_law_1808 (lv_at hl 5 rfl) ?_
  refine lv_iconst (v := 2) hx hb dL_law_1810 (by decide) ?_
  refine lv_iadd hx hb dL_law_1811 ?_
  refine va_sld hx hb hXs hbl hbA hw.2.2.2.1 (hix 2 (by decide)) dL_law_1812 ?_
  refine lv_aload_n hx hb dL_law_1813 rfl (lv_at hl 0 rfl) ?_
  refine lv_iload hx hb dL_law_1814 (lv_at hl 5 rfl) ?_
  refine lv_iconst (v := 3) hx hb dL_law_1816 (by decide) ?_
  refine lv_iadd hx hb dL_law_1817 ?_
  refine va_sld hx hb hXs hbl hbA hw.2.2.2.1 (hix 3 (by decide)) dL_law_1818 ?_
  refine lv_i2l (v := (xs (Int32.toNatClampNeg (i + 3))).toInt64) hx hb dL_law_1819 rfl ?_
  refine lv_bipush (v := 32) hx hb dL_law_1820 (by decide) ?_
  refine lv_lshl (v := ((xs (Int32.toNatClampNeg (i + 3))).toInt64 <<< (((32 : Int32)).toInt64 &&& 63))) hx hb dL_law_1822 rfl ?_
  refine lv_aload_n hx hb dL_law_1823 rfl (lv_at hl 0 rfl) ?_
  refine lv_iload hx hb dL_law_1824 (lv_at hl 5 rfl) ?_
  refine lv_iconst (v := 4) hx hb dL_law_1826 (by decide) ?_
  refine lv_iadd hx hb dL_law_1827 ?_
  refine va_sld hx hb hXs hbl hbA hw.2.2.2.1 (hix 4 (by decide)) dL_law_1828 ?_
  refine lv_i2l (v := (xs (Int32.toNatClampNeg (i + 4))).toInt64) hx hb dL_law_1829 rfl ?_
  refine lv_ldc2 (v := 4294967295) hx hb hown (hts (.constantLong RL 226 4294967295) (by decide +kernel)) dL_law_1830 ?_
  refine lv_land hx hb dL_law_1833 ?_
  refine lv_lor hx hb dL_law_1834 ?_
  refine lv_aload_n hx hb dL_law_1835 rfl (lv_at hl 0 rfl) ?_
  refine lv_iload hx hb dL_law_1836 (lv_at hl 5 rfl) ?_
  refine lv_iconst (v := 5) hx hb dL_law_1838 (by decide) ?_
  refine lv_iadd hx hb dL_law_1839 ?_
  refine va_sld hx hb hXs hbl hbA hw.2.2.2.1 (hix 5 (by decide)) dL_law_1840 ?_
  refine lv_i2l (v := (xs (Int32.toNatClampNeg (i + 5))).toInt64) hx hb dL_law_1841 rfl ?_
  refine lv_bipush (v := 32) hx hb dL_law_1842 (by decide) ?_
  refine lv_lshl (v := ((xs (Int32.toNatClampNeg (i + 5))).toInt64 <<< (((32 : Int32)).toInt64 &&& 63))) hx hb dL_law_1844 rfl ?_
  refine lv_aload_n hx hb dL_law_1845 rfl (lv_at hl 0 rfl) ?_
  refine lv_iload hx hb dL_law_1846 (lv_at hl 5 rfl) ?_
  refine lv_bipush (v := 6) hx hb dL_law_1848 (by decide) ?_
  refine lv_iadd hx hb dL_law_1850 ?_
  refine va_sld hx hb hXs hbl hbA hw.2.2.2.1 (hix 6 (by decide)) dL_law_1851 ?_
  refine lv_i2l (v := (xs (Int32.toNatClampNeg (i + 6))).toInt64) hx hb dL_law_1852 rfl ?_
  refine lv_ldc2 (v := 4294967295) hx hb hown (hts (.constantLong RL 226 4294967295) (by decide +kernel)) dL_law_1853 ?_
  refine lv_land hx hb dL_law_1856 ?_
  refine lv_lor hx hb dL_law_1857 ?_
  refine lv_aload_n hx hb dL_law_1858 rfl (lv_at hl 3 rfl) ?_
  refine z_callSX (As := [.ref h, .int (xs (Int32.toNatClampNeg (i + 1))), .int (xs (Int32.toNatClampNeg (i + 2))), .long (((xs (Int32.toNatClampNeg (i + 3))).toInt64 <<< (((32 : Int32)).toInt64 &&& 63)) ||| ((xs (Int32.toNatClampNeg (i + 4))).toInt64 &&& 4294967295)), .long (((xs (Int32.toNatClampNeg (i + 5))).toInt64 <<< (((32 : Int32)).toInt64 &&& 63)) ||| ((xs (Int32.toNatClampNeg (i + 6))).toInt64 &&& 4294967295)), .ref o1]) (rest := []) ⟨hx, hb, hml, hown, hts⟩ hw hX (c_L_fill l hl0 g L f h (zPm am o1 o2) σ (xs (Int32.toNatClampNeg (i + 1))) (xs (Int32.toNatClampNeg (i + 2))) (((xs (Int32.toNatClampNeg (i + 3))).toInt64 <<< (((32 : Int32)).toInt64 &&& 63)) ||| ((xs (Int32.toNatClampNeg (i + 4))).toInt64 &&& 4294967295)) (((xs (Int32.toNatClampNeg (i + 5))).toInt64 <<< (((32 : Int32)).toInt64 &&& 63)) ||| ((xs (Int32.toNatClampNeg (i + 6))).toInt64 &&& 4294967295)) o1 F hH h10 zPm_1) (vx_cwSW 6 hts gL_law_L_fill rfl rfl rfl (by decide +kernel) ⟨Nat.le_trans (Nat.le_of_ble_eq_true rfl) hRf, Nat.le_trans (Nat.le_of_ble_eq_true rfl) hRl⟩) rfl hl.1 rfl (Nat.le_of_ble_eq_true rfl) dL_law_1859 ⟨by omega, by omega⟩ (fun _ _ _ _ _ _ _ hp => False.elim hp) (fun r9 L1 f1 H locs hp hw => ?_)
  obtain ⟨rfl, hH1, ⟨F1, hF1, hv1⟩, hfr1⟩ := hp
  have hE1 := zMe_kept hE hH1 (fun k hk => hfr1 _ (zPm_m hk) (hn1 k hk))
  refine W.eq (g2 := F0 m 1862 ls [.int (o_fill σ (xs (Int32.toNatClampNeg (i + 1))) (xs (Int32.toNatClampNeg (i + 2))) (((xs (Int32.toNatClampNeg (i + 3))).toInt64 <<< (((32 : Int32)).toInt64 &&& 63)) ||| ((xs (Int32.toNatClampNeg (i + 4))).toInt64 &&& 4294967295)) (((xs (Int32.toNatClampNeg (i + 5))).toInt64 <<< (((32 : Int32)).toInt64 &&& 63)) ||| ((xs (Int32.toNatClampNeg (i + 6))).toInt64 &&& 4294967295))).1]) rfl ?_
  refine lv_istore (lv' := [(6, .int (o_fill σ (xs (Int32.toNatClampNeg (i + 1))) (xs (Int32.toNatClampNeg (i + 2))) (((xs (Int32.toNatClampNeg (i + 3))).toInt64 <<< (((32 : Int32)).toInt64 &&& 63)) ||| ((xs (Int32.toNatClampNeg (i + 4))).toInt64 &&& 4294967295)) (((xs (Int32.toNatClampNeg (i + 5))).toInt64 <<< (((32 : Int32)).toInt64 &&& 63)) ||| ((xs (Int32.toNatClampNeg (i + 6))).toInt64 &&& 4294967295))).1), (0, .ref b), (1, .ref h), (2, .ref (am 0)), (3, .ref o1), (4, .ref o2), (5, .int i)]) hx hb dL_law_1862 hl (by decide) rfl (fun ls hl => ?_)
  refine lv_aload_n hx hb dL_law_1864 rfl (lv_at hl 3 rfl) ?_
  refine lv_aload_n hx hb dL_law_1865 rfl (lv_at hl 1 rfl) ?_
  refine lv_iload hx hb dL_law_1866 (lv_at hl 6 rfl) ?_
  refine lv_iconst (v := 1) hx hb dL_law_1868 (by decide) ?_
  refine lv_iadd hx hb dL_law_1869 ?_
  refine va_sld hx hb hXs hbl hbA hw.2.2.2.1 (hix 1 (by decide)) dL_law_1870 ?_
  refine lv_aload_n hx hb dL_law_1871 rfl (lv_at hl 1 rfl) ?_
  refine lv_iload hx hb dL_law_1872 (lv_at hl 6 rfl) ?_
  refine lv_iconst (v := 2) hx hb dL_law_1874 (by decide) ?_
  refine lv_iadd hx hb dL_law_1875 ?_
  refine va_sld hx hb hXs hbl hbA hw.2.2.2.1 (hix 2 (by decide)) dL_law_1876 ?_
  refine lv_aload_n hx hb dL_law_1877 rfl (lv_at hl 1 rfl) ?_
  refine lv_iload hx hb dL_law_1878 (lv_at hl 6 rfl) ?_
  refine lv_iconst (v := 3) hx hb dL_law_1880 (by decide) ?_
  refine lv_iadd hx hb dL_law_1881 ?_
  refine va_sld hx hb hXs hbl hbA hw.2.2.2.1 (hix 3 (by decide)) dL_law_1882 ?_
  refine lv_i2l (v := (xs (Int32.toNatClampNeg (i + 3))).toInt64) hx hb dL_law_1883 rfl ?_
  refine lv_bipush (v := 32) hx hb dL_law_1884 (by decide) ?_
  refine lv_lshl (v := ((xs (Int32.toNatClampNeg (i + 3))).toInt64 <<< (((32 : Int32)).toInt64 &&& 63))) hx hb dL_law_1886 rfl ?_
  refine lv_aload_n hx hb dL_law_1887 rfl (lv_at hl 1 rfl) ?_
  refine lv_iload hx hb dL_law_1888 (lv_at hl 6 rfl) ?_
  refine lv_iconst (v := 4) hx hb dL_law_1890 (by decide) ?_
  refine lv_iadd hx hb dL_law_1891 ?_
  refine va_sld hx hb hXs hbl hbA hw.2.2.2.1 (hix 4 (by decide)) dL_law_1892 ?_
  refine lv_i2l (v := (xs (Int32.toNatClampNeg (i + 4))).toInt64) hx hb dL_law_1893 rfl ?_
  refine lv_ldc2 (v := 4294967295) hx hb hown (hts (.constantLong RL 226 4294967295) (by decide +kernel)) dL_law_1894 ?_
  refine lv_land hx hb dL_law_1897 ?_
  refine lv_lor hx hb dL_law_1898 ?_
  refine lv_aload_n hx hb dL_law_1899 rfl (lv_at hl 1 rfl) ?_
  refine lv_iload hx hb dL_law_1900 (lv_at hl 6 rfl) ?_
  refine lv_iconst (v := 5) hx hb dL_law_1902 (by decide) ?_
  refine lv_iadd hx hb dL_law_1903 ?_
  refine va_sld hx hb hXs hbl hbA hw.2.2.2.1 (hix 5 (by decide)) dL_law_1904 ?_
  refine lv_i2l (v := (xs (Int32.toNatClampNeg (i + 5))).toInt64) hx hb dL_law_1905 rfl ?_
  refine lv_bipush (v := 32) hx hb dL_law_1906 (by decide) ?_
  refine lv_lshl (v := ((xs (Int32.toNatClampNeg (i + 5))).toInt64 <<< (((32 : Int32)).toInt64 &&& 63))) hx hb dL_law_1908 rfl ?_
  refine lv_aload_n hx hb dL_law_1909 rfl (lv_at hl 1 rfl) ?_
  refine lv_iload hx hb dL_law_1910 (lv_at hl 6 rfl) ?_
  refine lv_bipush (v := 6) hx hb dL_law_1912 (by decide) ?_
  refine lv_iadd hx hb dL_law_1914 ?_
  refine va_sld hx hb hXs hbl hbA hw.2.2.2.1 (hix 6 (by decide)) dL_law_1915 ?_
  refine lv_i2l (v := (xs (Int32.toNatClampNeg (i + 6))).toInt64) hx hb dL_law_1916 rfl ?_
  refine lv_ldc2 (v := 4294967295) hx hb hown (hts (.constantLong RL 226 4294967295) (by decide +kernel)) dL_law_1917 ?_
  refine lv_land hx hb dL_law_1920 ?_
  refine lv_lor hx hb dL_law_1921 ?_
  refine z_callV (As := [.int (xs (Int32.toNatClampNeg (i + 1))), .int (xs (Int32.toNatClampNeg (i + 2))), .long (((xs (Int32.toNatClampNeg (i + 3))).toInt64 <<< (((32 : Int32)).toInt64 &&& 63)) ||| ((xs (Int32.toNatClampNeg (i + 4))).toInt64 &&& 4294967295)), .long (((xs (Int32.toNatClampNeg (i + 5))).toInt64 <<< (((32 : Int32)).toInt64 &&& 63)) ||| ((xs (Int32.toNatClampNeg (i + 6))).toInt64 &&& 4294967295))]) (rest := []) ⟨hx, hb, hml, hown, hts⟩ hw hX (hE1.1 0 (by decide)) rfl (c_X2_fill l g am L1 f1 σ bs th (xs (Int32.toNatClampNeg (i + 1))) (xs (Int32.toNatClampNeg (i + 2))) (((xs (Int32.toNatClampNeg (i + 3))).toInt64 <<< (((32 : Int32)).toInt64 &&& 63)) ||| ((xs (Int32.toNatClampNeg (i + 4))).toInt64 &&& 4294967295)) (((xs (Int32.toNatClampNeg (i + 5))).toInt64 <<< (((32 : Int32)).toInt64 &&& 63)) ||| ((xs (Int32.toNatClampNeg (i + 6))).toInt64 &&& 4294967295)) ⟨hE1, fun _ _ => rfl⟩ hI) (cwV 4 hts gL_law_X2_fill rfl rfl rfl (by decide +kernel) ⟨Nat.le_trans (Nat.le_of_ble_eq_true rfl) hRf, Nat.le_trans (Nat.le_of_ble_eq_true rfl) hRl⟩) rfl hl.1 rfl (Nat.le_of_ble_eq_true rfl) dL_law_1922 ⟨by omega, by omega⟩ (fun _ _ _ _ _ _ _ hp => False.elim hp) (fun r9 L2 f2 H locs hp hw => ?_)
  obtain ⟨rfl, b9, bs9, rfl, hm9, hb9⟩ := hp
  have ho1 : zc L1 f2 o1 (.inl (g.2 1, 1, .inr (.inl F1))) := ⟨zHC_in hH1 zPm_1, (hm9.2 _ (fun k hk e => hn1 k hk e.symm)).trans hF1⟩
  have ho2 : zc L1 f2 o2 (.inl (g.2 3, 1, .inr (.inr (.inr (.inl D))))) := ⟨zHC_in hH1 zPm_2, (hm9.2 _ (fun k hk e => hn2 k hk e.symm)).trans ((hfr1 _ zPm_2 (Ne.symm hn12)).trans h20.2)⟩
  have hH2 := zHC_mod hH1 hm9.2
  refine W.eq (g2 := F0 m 1925 ls [.int b9]) rfl ?_
  refine lv_istore (lv' := [(7, .int b9), (6, .int (o_fill σ (xs (Int32.toNatClampNeg (i + 1))) (xs (Int32.toNatClampNeg (i + 2))) (((xs (Int32.toNatClampNeg (i + 3))).toInt64 <<< (((32 : Int32)).toInt64 &&& 63)) ||| ((xs (Int32.toNatClampNeg (i + 4))).toInt64 &&& 4294967295)) (((xs (Int32.toNatClampNeg (i + 5))).toInt64 <<< (((32 : Int32)).toInt64 &&& 63)) ||| ((xs (Int32.toNatClampNeg (i + 6))).toInt64 &&& 4294967295))).1), (0, .ref b), (1, .ref h), (2, .ref (am 0)), (3, .ref o1), (4, .ref o2), (5, .int i)]) hx hb dL_law_1925 hl (by decide) rfl (fun ls hl => ?_)
  refine lv_aload_n hx hb dL_law_1927 rfl (lv_at hl 4 rfl) ?_
  refine z_callV (As := []) (rest := []) ⟨hx, hb, hml, hown, hts⟩ hw hX (hm9.1.1 0 (by decide)) rfl (c_X2_thrown l g am L1 f2 (o_fill σ (xs (Int32.toNatClampNeg (i + 1))) (xs (Int32.toNatClampNeg (i + 2))) (((xs (Int32.toNatClampNeg (i + 3))).toInt64 <<< (((32 : Int32)).toInt64 &&& 63)) ||| ((xs (Int32.toNatClampNeg (i + 4))).toInt64 &&& 4294967295)) (((xs (Int32.toNatClampNeg (i + 5))).toInt64 <<< (((32 : Int32)).toInt64 &&& 63)) ||| ((xs (Int32.toNatClampNeg (i + 6))).toInt64 &&& 4294967295))).2.2 bs9 (o_fill σ (xs (Int32.toNatClampNeg (i + 1))) (xs (Int32.toNatClampNeg (i + 2))) (((xs (Int32.toNatClampNeg (i + 3))).toInt64 <<< (((32 : Int32)).toInt64 &&& 63)) ||| ((xs (Int32.toNatClampNeg (i + 4))).toInt64 &&& 4294967295)) (((xs (Int32.toNatClampNeg (i + 5))).toInt64 <<< (((32 : Int32)).toInt64 &&& 63)) ||| ((xs (Int32.toNatClampNeg (i + 6))).toInt64 &&& 4294967295))).1 hm9.rf) (cwV 0 hts gL_law_X2_thrown rfl rfl rfl (by decide +kernel) ⟨Nat.le_trans (Nat.le_of_ble_eq_true rfl) hRf, Nat.le_trans (Nat.le_of_ble_eq_true rfl) hRl⟩) rfl hl.1 rfl (Nat.le_of_ble_eq_true rfl) dL_law_1928 ⟨by omega, by omega⟩ (fun _ _ _ _ _ _ _ hp => False.elim hp) (fun r9 L3 f3 H locs hp hw => ?_)
  obtain ⟨rfl, rfl, rfl⟩ := hp
  refine W.eq (g2 := F0 m 1931 ls [.int (o_fill σ (xs (Int32.toNatClampNeg (i + 1))) (xs (Int32.toNatClampNeg (i + 2))) (((xs (Int32.toNatClampNeg (i + 3))).toInt64 <<< (((32 : Int32)).toInt64 &&& 63)) ||| ((xs (Int32.toNatClampNeg (i + 4))).toInt64 &&& 4294967295)) (((xs (Int32.toNatClampNeg (i + 5))).toInt64 <<< (((32 : Int32)).toInt64 &&& 63)) ||| ((xs (Int32.toNatClampNeg (i + 6))).toInt64 &&& 4294967295))).1]) rfl ?_
  refine lv_iload hx hb dL_law_1931 (lv_at hl 1 rfl) ?_
  refine lv_icmp_eq (tgt := 1938) hx hb dL_law_1933 (by decide) (fun _ => ?_) (fun c => absurd rfl c)
  refine lv_iload hx hb dL_law_1938 (lv_at hl 1 rfl) ?_
  refine lv_if_ne (tgt := 1955) hx hb dL_law_1940 (by decide) (fun c_1 => ?_) (fun c_1 => ?_)
  · refine lv_goto (tgt := 2828) hx hb dL_law_1955 (by decide) ?_
    refine W.widen (k := cells + 60) (n := slots + 1000) (by omega) (by omega) ?_
    have hl := lv_sub hl (l' := [(0, .ref b), (1, .ref h), (2, .ref (am 0)), (3, .ref o1), (4, .ref o2), (5, .int i)]) [2, 3, 4, 5, 6, 7] rfl
    exact hback _ _ _ _ _ _ ⟨_, _, _, _, hH2, hm9.1, ho1, ho2⟩ hw hl
  · refine lv_aload_n hx hb dL_law_1943 rfl (lv_at hl 5 rfl) ?_
    refine lv_iconst (v := 0) hx hb dL_law_1944 (by decide) ?_
    refine zr_lald hx hb hw ho1 (vp_in_iff.mpr (by decide)) dL_law_1945 ?_
    refine lv_iload hx hb dL_law_1946 (lv_at hl 0 rfl) ?_
    refine lv_i2l (v := b9.toInt64) hx hb dL_law_1948 rfl ?_
    refine W.lcmp hx hb dL_law_1949 ?_
    have hq_2 : (lg_cmp (F1 (Int32.toNatClampNeg 0)) b9.toInt64) = 0 := zcmp0.mpr (by rw [hb9 c_1]; exact hv1 c_1)
    refine lv_if_eq (tgt := 1955) hx hb dL_law_1950 (by decide) (fun c_3 => ?_) (fun c_3 => absurd hq_2 c_3)
    refine lv_goto (tgt := 2828) hx hb dL_law_1955 (by decide) ?_
    refine W.widen (k := cells + 60) (n := slots + 1000) (by omega) (by omega) ?_
    have hl := lv_sub hl (l' := [(0, .ref b), (1, .ref h), (2, .ref (am 0)), (3, .ref o1), (4, .ref o2), (5, .int i)]) [2, 3, 4, 5, 6, 7] rfl
    exact hback _ _ _ _ _ _ ⟨_, _, _, _, hH2, hm9.1, ho1, ho2⟩ hw hl

set_option maxRecDepth 100000 in
set_option maxHeartbeats 4000000 in
theorem k_law_25 {p : Program} {l : Launch} {e : Env} {R : Room} {s : State} {m : MethodId} {args : Array Value} {below : List Frame} {meth : Method} {c : Code} {H : Heap} {locs : List Loc} {cells slots : Nat} {Q : State → Prop} {ls : Array Slot} {g : zG} {A : Nat → Prop} {L : List Nat} {f : Nat → va_E} {am : Nat → Nat} {h o1 o2 b N : Nat} {σ : ZS} {xs : Nat → Int32} {i : Int32}
    (hx : p.tables.exec = Jvm.exec) (hb : c.code = cL_law) (hml : c.maxLocals = 9) (hown : s.vm.findClass RL = some m.cls) (hts : ∀ w ∈ wsL_law, w.before args s = true) (hl0 : l.stackTraces = false) (hw : zW g A s L f H locs) (hX : zX A s s.heap) (hXs : va_X b N xs s s.heap) (hbl : b < s.heap.size) (hbA : ¬ A b) (hRf : 20 ≤ R.frames) (hRl : 1000 ≤ R.locals) (hRc : cells + 60 ≤ R.cells) (hRs : slots + 1000 ≤ R.slots) (hJ : zLw g h am o1 o2 σ L f) (hix : ∀ j : Nat, j < 7 → vp_in (i + nI j) N) (hl : lv_has ls 9 [(0, .ref b), (1, .ref h), (2, .ref (am 0)), (3, .ref o1), (4, .ref o2), (5, .int i)])
    (hback : ∀ (σ1 : ZS) (L1 : List Nat) (f1 : Nat → va_E) (H1 : Heap) (locs1 : List Loc) (ls1 : Array Slot), zLw g h am o1 o2 σ1 L1 f1 → zW g A s L1 f1 H1 locs1 → lv_has ls1 9 [(0, .ref b), (1, .ref h), (2, .ref (am 0)), (3, .ref o1), (4, .ref o2), (5, .int i)] → W p l e R s m args below meth c H1 locs1 (cells + 60) (slots + 1000) Q (F0 m 2828 ls1 [])) : W p l e R s m args below meth c H locs cells slots Q (F0 m 1958 ls []) := by
  obtain ⟨bs, th, F, D, hH, hE, h10, h20⟩ := hJ
  obtain ⟨ln, kd, hI⟩ := zHC_I hH
  obtain ⟨fs9, hcb⟩ := zHC_obj hH
  have hn1 := zMe_ne1 hE h10
  have hn2 := zMe_ne2 hE h20
  have hn12 := zo_ne h10 h20
  refine lv_aload_n hx hb dL_law_1958 rfl (lv_at hl 1 rfl) ?_
  refine lv_aload_n hx hb dL_law_1959 rfl (lv_at hl 0 rfl) ?_
  refine lv_iload hx hb dL_law_1960 (lv_at hl 5 rfl) ?_
  refine lv_iconst (v := 1) hx hb dL_law_1962 (by decide) ?_
  refine lv_iadd hx hb dL_law_1963 ?_
  refine va_sld hx hb hXs hbl hbA hw.2.2.2.1 (hix 1 (by decide)) dL_law_1964 ?_
  refine lv_aload_n hx hb dL_law_1965 rfl (lv_at hl 0 rfl) ?_
  refine lv_iload hx hb dL_law_1966 (lv_at hl 5 rfl) ?_
  refine lv_iconst (v := 2) hx hb dL_law_1968 (by decide) ?_
  refine lv_iadd hx hb dL_law_1969 ?_
  refine va_sld hx hb hXs hbl hbA hw.2.2.2.1 (hix 2 (by decide)) dL_law_1970 ?_
  refine lv_aload_n hx hb dL_law_1971 rfl (lv_at hl 0 rfl) ?_
  refine lv_iload hx hb dL_law_1972 (lv_at hl 5 rfl) ?_
  refine lv_iconst (v := 3) hx hb dL_law_1974 (by decide) ?_
  refine lv_iadd hx hb dL_law_1975 ?_
  refine va_sld hx hb hXs hbl hbA hw.2.2.2.1 (hix 3 (by decide)) dL_law_1976 ?_
  refine lv_aload_n hx hb dL_law_1977 rfl (lv_at hl 3 rfl) ?_
  refine z_callSX (As := [.ref h, .int (xs (Int32.toNatClampNeg (i + 1))), .int (xs (Int32.toNatClampNeg (i + 2))), .int (xs (Int32.toNatClampNeg (i + 3))), .ref o1]) (rest := []) ⟨hx, hb, hml, hown, hts⟩ hw hX (c_L_pour l hl0 g L f h (zPm am o1 o2) σ (xs (Int32.toNatClampNeg (i + 1))) (xs (Int32.toNatClampNeg (i + 2))) (xs (Int32.toNatClampNeg (i + 3))) o1 F hH h10 zPm_1) (vx_cwSW 5 hts gL_law_L_pour rfl rfl rfl (by decide +kernel) ⟨Nat.le_trans (Nat.le_of_ble_eq_true rfl) hRf, Nat.le_trans (Nat.le_of_ble_eq_true rfl) hRl⟩) rfl hl.1 rfl (Nat.le_of_ble_eq_true rfl) dL_law_1978 ⟨by omega, by omega⟩ (fun _ _ _ _ _ _ _ hp => False.elim hp) (fun r9 L1 f1 H locs hp hw => ?_)
  obtain ⟨rfl, hH1, ⟨F1, hF1, hv1⟩, hfr1⟩ := hp
  have hE1 := zMe_kept hE hH1 (fun k hk => hfr1 _ (zPm_m hk) (hn1 k hk))
  refine W.eq (g2 := F0 m 1981 ls [.int (o_pour σ (xs (Int32.toNatClampNeg (i + 1))) (xs (Int32.toNatClampNeg (i + 2))) (xs (Int32.toNatClampNeg (i + 3)))).1]) rfl ?_
  refine lv_istore (lv' := [(6, .int (o_pour σ (xs (Int32.toNatClampNeg (i + 1))) (xs (Int32.toNatClampNeg (i + 2))) (xs (Int32.toNatClampNeg (i + 3)))).1), (0, .ref b), (1, .ref h), (2, .ref (am 0)), (3, .ref o1), (4, .ref o2), (5, .int i)]) hx hb dL_law_1981 hl (by decide) rfl (fun ls hl => ?_)
  refine lv_aload_n hx hb dL_law_1983 rfl (lv_at hl 3 rfl) ?_
  refine lv_aload_n hx hb dL_law_1984 rfl (lv_at hl 1 rfl) ?_
  refine lv_iload hx hb dL_law_1985 (lv_at hl 6 rfl) ?_
  refine lv_iconst (v := 1) hx hb dL_law_1987 (by decide) ?_
  refine lv_iadd hx hb dL_law_1988 ?_
  refine va_sld hx hb hXs hbl hbA hw.2.2.2.1 (hix 1 (by decide)) dL_law_1989 ?_
  refine lv_aload_n hx hb dL_law_1990 rfl (lv_at hl 1 rfl) ?_
  refine lv_iload hx hb dL_law_1991 (lv_at hl 6 rfl) ?_
  refine lv_iconst (v := 2) hx hb dL_law_1993 (by decide) ?_
  refine lv_iadd hx hb dL_law_1994 ?_
  refine va_sld hx hb hXs hbl hbA hw.2.2.2.1 (hix 2 (by decide)) dL_law_1995 ?_
  refine lv_aload_n hx hb dL_law_1996 rfl (lv_at hl 1 rfl) ?_
  refine lv_iload hx hb dL_law_1997 (lv_at hl 6 rfl) ?_
  refine lv_iconst (v := 3) hx hb dL_law_1999 (by decide) ?_
  refine lv_iadd hx hb dL_law_2000 ?_
  refine va_sld hx hb hXs hbl hbA hw.2.2.2.1 (hix 3 (by decide)) dL_law_2001 ?_
  refine z_callV (As := [.int (xs (Int32.toNatClampNeg (i + 1))), .int (xs (Int32.toNatClampNeg (i + 2))), .int (xs (Int32.toNatClampNeg (i + 3)))]) (rest := []) ⟨hx, hb, hml, hown, hts⟩ hw hX (hE1.1 0 (by decide)) rfl (c_X2_pour l g am L1 f1 σ bs th (xs (Int32.toNatClampNeg (i + 1))) (xs (Int32.toNatClampNeg (i + 2))) (xs (Int32.toNatClampNeg (i + 3))) ⟨hE1, fun _ _ => rfl⟩ hI) (cwV 3 hts gL_law_X2_pour rfl rfl rfl (by decide +kernel) ⟨Nat.le_trans (Nat.le_of_ble_eq_true rfl) hRf, Nat.le_trans (Nat.le_of_ble_eq_true rfl) hRl⟩) rfl hl.1 rfl (Nat.le_of_ble_eq_true rfl) dL_law_2002 ⟨by omega, by omega⟩ (fun _ _ _ _ _ _ _ hp => False.elim hp) (fun r9 L2 f2 H locs hp hw => ?_)
  obtain ⟨rfl, b9, bs9, rfl, hm9, hb9⟩ := hp
  have ho1 : zc L1 f2 o1 (.inl (g.2 1, 1, .inr (.inl F1))) := ⟨zHC_in hH1 zPm_1, (hm9.2 _ (fun k hk e => hn1 k hk e.symm)).trans hF1⟩
  have ho2 : zc L1 f2 o2 (.inl (g.2 3, 1, .inr (.inr (.inr (.inl D))))) := ⟨zHC_in hH1 zPm_2, (hm9.2 _ (fun k hk e => hn2 k hk e.symm)).trans ((hfr1 _ zPm_2 (Ne.symm hn12)).trans h20.2)⟩
  have hH2 := zHC_mod hH1 hm9.2
  refine W.eq (g2 := F0 m 2005 ls [.int b9]) rfl ?_
  refine lv_istore (lv' := [(7, .int b9), (6, .int (o_pour σ (xs (Int32.toNatClampNeg (i + 1))) (xs (Int32.toNatClampNeg (i + 2))) (xs (Int32.toNatClampNeg (i + 3)))).1), (0, .ref b), (1, .ref h), (2, .ref (am 0)), (3, .ref o1), (4, .ref o2), (5, .int i)]) hx hb dL_law_2005 hl (by decide) rfl (fun ls hl => ?_)
  refine lv_aload_n hx hb dL_law_2007 rfl (lv_at hl 4 rfl) ?_
  refine z_callV (As := []) (rest := []) ⟨hx, hb, hml, hown, hts⟩ hw hX (hm9.1.1 0 (by decide)) rfl (c_X2_thrown l g am L1 f2 (o_pour σ (xs (Int32.toNatClampNeg (i + 1))) (xs (Int32.toNatClampNeg (i + 2))) (xs (Int32.toNatClampNeg (i + 3)))).2.2 bs9 (o_pour σ (xs (Int32.toNatClampNeg (i + 1))) (xs (Int32.toNatClampNeg (i + 2))) (xs (Int32.toNatClampNeg (i + 3)))).1 hm9.rf) (cwV 0 hts gL_law_X2_thrown rfl rfl rfl (by decide +kernel) ⟨Nat.le_trans (Nat.le_of_ble_eq_true rfl) hRf, Nat.le_trans (Nat.le_of_ble_eq_true rfl) hRl⟩) rfl hl.1 rfl (Nat.le_of_ble_eq_true rfl) dL_law_2008 ⟨by omega, by omega⟩ (fun _ _ _ _ _ _ _ hp => False.elim hp) (fun r9 L3 f3 H locs hp hw => ?_)
  obtain ⟨rfl, rfl, rfl⟩ := hp
  refine W.eq (g2 := F0 m 2011 ls [.int (o_pour σ (xs (Int32.toNatClampNeg (i + 1))) (xs (Int32.toNatClampNeg (i + 2))) (xs (Int32.toNatClampNeg (i + 3)))).1]) rfl ?_
  refine lv_iload hx hb dL_law_2011 (lv_at hl 1 rfl) ?_
  refine lv_icmp_eq (tgt := 2018) hx hb dL_law_2013 (by decide) (fun _ => ?_) (fun c => absurd rfl c)
  refine lv_iload hx hb dL_law_2018 (lv_at hl 1 rfl) ?_
  refine lv_if_ne (tgt := 2035) hx hb dL_law_2020 (by decide) (fun c_1 => ?_) (fun c_1 => ?_)
  · refine lv_goto (tgt := 2828) hx hb dL_law_2035 (by decide) ?_
    refine W.widen (k := cells + 60) (n := slots + 1000) (by omega) (by omega) ?_
    have hl := lv_sub hl (l' := [(0, .ref b), (1, .ref h), (2, .ref (am 0)), (3, .ref o1), (4, .ref o2), (5, .int i)]) [2, 3, 4, 5, 6, 7] rfl
    exact hback _ _ _ _ _ _ ⟨_, _, _, _, hH2, hm9.1, ho1, ho2⟩ hw hl
  · refine lv_aload_n hx hb dL_law_2023 rfl (lv_at hl 5 rfl) ?_
    refine lv_iconst (v := 0) hx hb dL_law_2024 (by decide) ?_
    refine zr_lald hx hb hw ho1 (vp_in_iff.mpr (by decide)) dL_law_2025 ?_
    refine lv_iload hx hb dL_law_2026 (lv_at hl 0 rfl) ?_
    refine lv_i2l (v := b9.toInt64) hx hb dL_law_2028 rfl ?_
    refine W.lcmp hx hb dL_law_2029 ?_
    have hq_2 : (lg_cmp (F1 (Int32.toNatClampNeg 0)) b9.toInt64) = 0 := zcmp0.mpr (by rw [hb9 c_1]; exact hv1 c_1)
    refine lv_if_eq (tgt := 2035) hx hb dL_law_2030 (by decide) (fun c_3 => ?_) (fun c_3 => absurd hq_2 c_3)
    refine lv_goto (tgt := 2828) hx hb dL_law_2035 (by decide) ?_
    refine W.widen (k := cells + 60) (n := slots + 1000) (by omega) (by omega) ?_
    have hl := lv_sub hl (l' := [(0, .ref b), (1, .ref h), (2, .ref (am 0)), (3, .ref o1), (4, .ref o2), (5, .int i)]) [2, 3, 4, 5, 6, 7] rfl
    exact hback _ _ _ _ _ _ ⟨_, _, _, _, hH2, hm9.1, ho1, ho2⟩ hw hl

set_option maxRecDepth 100000 in
set_option maxHeartbeats 4000000 in
theorem k_law_26 {p : Program} {l : Launch} {e : Env} {R : Room} {s : State} {m : MethodId} {args : Array Value} {below : List Frame} {meth : Method} {c : Code} {H : Heap} {locs : List Loc} {cells slots : Nat} {Q : State → Prop} {ls : Array Slot} {g : zG} {A : Nat → Prop} {L : List Nat} {f : Nat → va_E} {am : Nat → Nat} {h o1 o2 b N : Nat} {σ : ZS} {xs : Nat → Int32} {i : Int32}
    (hx : p.tables.exec = Jvm.exec) (hb : c.code = cL_law) (hml : c.maxLocals = 9) (hown : s.vm.findClass RL = some m.cls) (hts : ∀ w ∈ wsL_law, w.before args s = true) (hl0 : l.stackTraces = false) (hw : zW g A s L f H locs) (hX : zX A s s.heap) (hXs : va_X b N xs s s.heap) (hbl : b < s.heap.size) (hbA : ¬ A b) (hRf : 20 ≤ R.frames) (hRl : 1000 ≤ R.locals) (hRc : cells + 60 ≤ R.cells) (hRs : slots + 1000 ≤ R.slots) (hJ : zLw g h am o1 o2 σ L f) (hix : ∀ j : Nat, j < 7 → vp_in (i + nI j) N) (hl : lv_has ls 9 [(0, .ref b), (1, .ref h), (2, .ref (am 0)), (3, .ref o1), (4, .ref o2), (5, .int i)])
    (hback : ∀ (σ1 : ZS) (L1 : List Nat) (f1 : Nat → va_E) (H1 : Heap) (locs1 : List Loc) (ls1 : Array Slot), zLw g h am o1 o2 σ1 L1 f1 → zW g A s L1 f1 H1 locs1 → lv_has ls1 9 [(0, .ref b), (1, .ref h), (2, .ref (am 0)), (3, .ref o1), (4, .ref o2), (5, .int i)] → W p l e R s m args below meth c H1 locs1 (cells + 60) (slots + 1000) Q (F0 m 2828 ls1 [])) : W p l e R s m args below meth c H locs cells slots Q (F0 m 2038 ls []) := by
  obtain ⟨bs, th, F, D, hH, hE, h10, h20⟩ := hJ
  obtain ⟨ln, kd, hI⟩ := zHC_I hH
  obtain ⟨fs9, hcb⟩ := zHC_obj hH
  have hn1 := zMe_ne1 hE h10
  have hn2 := zMe_ne2 hE h20
  have hn12 := zo_ne h10 h20
  refine lv_aload_n hx hb dL_law_2038 rfl (lv_at hl 1 rfl) ?_
  refine lv_aload_n hx hb dL_law_2039 rfl (lv_at hl 0 rfl) ?_
  refine lv_iload hx hb dL_law_2040 (lv_at hl 5 rfl) ?_
  refine lv_iconst (v := 1) hx hb dL_law_2042 (by decide) ?_
  refine lv_iadd hx hb dL_law_2043 ?_
  refine va_sld hx hb hXs hbl hbA hw.2.2.2.1 (hix 1 (by decide)) dL_law_2044 ?_
  refine lv_aload_n hx hb dL_law_2045 rfl (lv_at hl 0 rfl) ?_
  refine lv_iload hx hb dL_law_2046 (lv_at hl 5 rfl) ?_
  refine lv_iconst (v := 2) hx hb dL_law_2048 (by decide) ?_
  refine lv_iadd hx hb dL_law_2049 ?_
  refine va_sld hx hb hXs hbl hbA hw.2.2.2.1 (hix 2 (by decide)) dL_law_2050 ?_
  refine lv_aload_n hx hb dL_law_2051 rfl (lv_at hl 3 rfl) ?_
  refine z_callSX (As := [.ref h, .int (xs (Int32.toNatClampNeg (i + 1))), .int (xs (Int32.toNatClampNeg (i + 2))), .ref o1]) (rest := []) ⟨hx, hb, hml, hown, hts⟩ hw hX (c_L_slice l hl0 g L f h (zPm am o1 o2) σ (xs (Int32.toNatClampNeg (i + 1))) (xs (Int32.toNatClampNeg (i + 2))) o1 F hH h10 zPm_1) (vx_cwSW 4 hts gL_law_L_slice rfl rfl rfl (by decide +kernel) ⟨Nat.le_trans (Nat.le_of_ble_eq_true rfl) hRf, Nat.le_trans (Nat.le_of_ble_eq_true rfl) hRl⟩) rfl hl.1 rfl (Nat.le_of_ble_eq_true rfl) dL_law_2052 ⟨by omega, by omega⟩ (fun _ _ _ _ _ _ _ hp => False.elim hp) (fun r9 L1 f1 H locs hp hw => ?_)
  obtain ⟨rfl, hH1, ⟨F1, hF1, hv1⟩, hfr1⟩ := hp
  have hE1 := zMe_kept hE hH1 (fun k hk => hfr1 _ (zPm_m hk) (hn1 k hk))
  refine W.eq (g2 := F0 m 2055 ls [.int (o_slice σ (xs (Int32.toNatClampNeg (i + 1))) (xs (Int32.toNatClampNeg (i + 2)))).1]) rfl ?_
  refine lv_istore (lv' := [(6, .int (o_slice σ (xs (Int32.toNatClampNeg (i + 1))) (xs (Int32.toNatClampNeg (i + 2)))).1), (0, .ref b), (1, .ref h), (2, .ref (am 0)), (3, .ref o1), (4, .ref o2), (5, .int i)]) hx hb dL_law_2055 hl (by decide) rfl (fun ls hl => ?_)
  refine lv_aload_n hx hb dL_law_2057 rfl (lv_at hl 3 rfl) ?_
  refine lv_aload_n hx hb dL_law_2058 rfl (lv_at hl 1 rfl) ?_
  refine lv_iload hx hb dL_law_2059 (lv_at hl 6 rfl) ?_
  refine lv_iconst (v := 1) hx hb dL_law_2061 (by decide) ?_
  refine lv_iadd hx hb dL_law_2062 ?_
  refine va_sld hx hb hXs hbl hbA hw.2.2.2.1 (hix 1 (by decide)) dL_law_2063 ?_
  refine lv_aload_n hx hb dL_law_2064 rfl (lv_at hl 1 rfl) ?_
  refine lv_iload hx hb dL_law_2065 (lv_at hl 6 rfl) ?_
  refine lv_iconst (v := 2) hx hb dL_law_2067 (by decide) ?_
  refine lv_iadd hx hb dL_law_2068 ?_
  refine va_sld hx hb hXs hbl hbA hw.2.2.2.1 (hix 2 (by decide)) dL_law_2069 ?_
  refine z_callV (As := [.int (xs (Int32.toNatClampNeg (i + 1))), .int (xs (Int32.toNatClampNeg (i + 2)))]) (rest := []) ⟨hx, hb, hml, hown, hts⟩ hw hX (hE1.1 0 (by decide)) rfl (c_X2_slice l g am L1 f1 σ bs th (xs (Int32.toNatClampNeg (i + 1))) (xs (Int32.toNatClampNeg (i + 2))) ⟨hE1, fun _ _ => rfl⟩ hI) (cwV 2 hts gL_law_X2_slice rfl rfl rfl (by decide +kernel) ⟨Nat.le_trans (Nat.le_of_ble_eq_true rfl) hRf, Nat.le_trans (Nat.le_of_ble_eq_true rfl) hRl⟩) rfl hl.1 rfl (Nat.le_of_ble_eq_true rfl) dL_law_2070 ⟨by omega, by omega⟩ (fun _ _ _ _ _ _ _ hp => False.elim hp) (fun r9 L2 f2 H locs hp hw => ?_)
  obtain ⟨rfl, b9, bs9, rfl, hm9, hb9⟩ := hp
  have ho1 : zc L1 f2 o1 (.inl (g.2 1, 1, .inr (.inl F1))) := ⟨zHC_in hH1 zPm_1, (hm9.2 _ (fun k hk e => hn1 k hk e.symm)).trans hF1⟩
  have ho2 : zc L1 f2 o2 (.inl (g.2 3, 1, .inr (.inr (.inr (.inl D))))) := ⟨zHC_in hH1 zPm_2, (hm9.2 _ (fun k hk e => hn2 k hk e.symm)).trans ((hfr1 _ zPm_2 (Ne.symm hn12)).trans h20.2)⟩
  have hH2 := zHC_mod hH1 hm9.2
  refine W.eq (g2 := F0 m 2073 ls [.int b9]) rfl ?_
  refine lv_istore (lv' := [(7, .int b9), (6, .int (o_slice σ (xs (Int32.toNatClampNeg (i + 1))) (xs (Int32.toNatClampNeg (i + 2)))).1), (0, .ref b), (1, .ref h), (2, .ref (am 0)), (3, .ref o1), (4, .ref o2), (5, .int i)]) hx hb dL_law_2073 hl (by decide) rfl (fun ls hl => ?_)
  refine lv_aload_n hx hb dL_law_2075 rfl (lv_at hl 4 rfl) ?_
  refine z_callV (As := []) (rest := []) ⟨hx, hb, hml, hown, hts⟩ hw hX (hm9.1.1 0 (by decide)) rfl (c_X2_thrown l g am L1 f2 (o_slice σ (xs (Int32.toNatClampNeg (i + 1))) (xs (Int32.toNatClampNeg (i + 2)))).2.2 bs9 (o_slice σ (xs (Int32.toNatClampNeg (i + 1))) (xs (Int32.toNatClampNeg (i + 2)))).1 hm9.rf) (cwV 0 hts gL_law_X2_thrown rfl rfl rfl (by decide +kernel) ⟨Nat.le_trans (Nat.le_of_ble_eq_true rfl) hRf, Nat.le_trans (Nat.le_of_ble_eq_true rfl) hRl⟩) rfl hl.1 rfl (Nat.le_of_ble_eq_true rfl) dL_law_2076 ⟨by omega, by omega⟩ (fun _ _ _ _ _ _ _ hp => False.elim hp) (fun r9 L3 f3 H locs hp hw => ?_)
  obtain ⟨rfl, rfl, rfl⟩ := hp
  refine W.eq (g2 := F0 m 2079 ls [.int (o_slice σ (xs (Int32.toNatClampNeg (i + 1))) (xs (Int32.toNatClampNeg (i + 2)))).1]) rfl ?_
  refine lv_iload hx hb dL_law_2079 (lv_at hl 1 rfl) ?_
  refine lv_icmp_eq (tgt := 2086) hx hb dL_law_2081 (by decide) (fun _ => ?_) (fun c => absurd rfl c)
  refine lv_iload hx hb dL_law_2086 (lv_at hl 1 rfl) ?_
  refine lv_if_ne (tgt := 2103) hx hb dL_law_2088 (by decide) (fun c_1 => ?_) (fun c_1 => ?_)
  · refine lv_goto (tgt := 2828) hx hb dL_law_2103 (by decide) ?_
    refine W.widen (k := cells + 60) (n := slots + 1000) (by omega) (by omega) ?_
    have hl := lv_sub hl (l' := [(0, .ref b), (1, .ref h), (2, .ref (am 0)), (3, .ref o1), (4, .ref o2), (5, .int i)]) [2, 3, 4, 5, 6, 7] rfl
    exact hback _ _ _ _ _ _ ⟨_, _, _, _, hH2, hm9.1, ho1, ho2⟩ hw hl
  · refine lv_aload_n hx hb dL_law_2091 rfl (lv_at hl 5 rfl) ?_
    refine lv_iconst (v := 0) hx hb dL_law_2092 (by decide) ?_
    refine zr_lald hx hb hw ho1 (vp_in_iff.mpr (by decide)) dL_law_2093 ?_
    refine lv_iload hx hb dL_law_2094 (lv_at hl 0 rfl) ?_
    refine lv_i2l (v := b9.toInt64) hx hb dL_law_2096 rfl ?_
    refine W.lcmp hx hb dL_law_2097 ?_
    have hq_2 : (lg_cmp (F1 (Int32.toNatClampNeg 0)) b9.toInt64) = 0 := zcmp0.mpr (by rw [hb9 c_1]; exact hv1 c_1)
    refine lv_if_eq (tgt := 2103) hx hb dL_law_2098 (by decide) (fun c_3 => ?_) (fun c_3 => absurd hq_2 c_3)
    refine lv_goto (tgt := 2828) hx hb dL_law_2103 (by decide) ?_
    refine W.widen (k := cells + 60) (n := slots + 1000) (by omega) (by omega) ?_
    have hl := lv_sub hl (l' := [(0, .ref b), (1, .ref h), (2, .ref (am 0)), (3, .ref o1), (4, .ref o2), (5, .int i)]) [2, 3, 4, 5, 6, 7] rfl
    exact hback _ _ _ _ _ _ ⟨_, _, _, _, hH2, hm9.1, ho1, ho2⟩ hw hl

set_option maxRecDepth 100000 in
set_option maxHeartbeats 4000000 in
theorem k_law_27 {p : Program} {l : Launch} {e : Env} {R : Room} {s : State} {m : MethodId} {args : Array Value} {below : List Frame} {meth : Method} {c : Code} {H : Heap} {locs : List Loc} {cells slots : Nat} {Q : State → Prop} {ls : Array Slot} {g : zG} {A : Nat → Prop} {L : List Nat} {f : Nat → va_E} {am : Nat → Nat} {h o1 o2 b N : Nat} {σ : ZS} {xs : Nat → Int32} {i : Int32}
    (hx : p.tables.exec = Jvm.exec) (hb : c.code = cL_law) (hml : c.maxLocals = 9) (hown : s.vm.findClass RL = some m.cls) (hts : ∀ w ∈ wsL_law, w.before args s = true) (hl0 : l.stackTraces = false) (hw : zW g A s L f H locs) (hX : zX A s s.heap) (hXs : va_X b N xs s s.heap) (hbl : b < s.heap.size) (hbA : ¬ A b) (hRf : 20 ≤ R.frames) (hRl : 1000 ≤ R.locals) (hRc : cells + 60 ≤ R.cells) (hRs : slots + 1000 ≤ R.slots) (hJ : zLw g h am o1 o2 σ L f) (hix : ∀ j : Nat, j < 7 → vp_in (i + nI j) N) (hl : lv_has ls 9 [(0, .ref b), (1, .ref h), (2, .ref (am 0)), (3, .ref o1), (4, .ref o2), (5, .int i)])
    (hback : ∀ (σ1 : ZS) (L1 : List Nat) (f1 : Nat → va_E) (H1 : Heap) (locs1 : List Loc) (ls1 : Array Slot), zLw g h am o1 o2 σ1 L1 f1 → zW g A s L1 f1 H1 locs1 → lv_has ls1 9 [(0, .ref b), (1, .ref h), (2, .ref (am 0)), (3, .ref o1), (4, .ref o2), (5, .int i)] → W p l e R s m args below meth c H1 locs1 (cells + 60) (slots + 1000) Q (F0 m 2828 ls1 [])) : W p l e R s m args below meth c H locs cells slots Q (F0 m 2106 ls []) := by
  obtain ⟨bs, th, F, D, hH, hE, h10, h20⟩ := hJ
  obtain ⟨ln, kd, hI⟩ := zHC_I hH
  obtain ⟨fs9, hcb⟩ := zHC_obj hH
  have hn1 := zMe_ne1 hE h10
  have hn2 := zMe_ne2 hE h20
  have hn12 := zo_ne h10 h20
  refine lv_aload_n hx hb dL_law_2106 rfl (lv_at hl 1 rfl) ?_
  refine lv_aload_n hx hb dL_law_2107 rfl (lv_at hl 0 rfl) ?_
  refine lv_iload hx hb dL_law_2108 (lv_at hl 5 rfl) ?_
  refine lv_iconst (v := 1) hx hb dL_law_2110 (by decide) ?_
  refine lv_iadd hx hb dL_law_2111 ?_
  refine va_sld hx hb hXs hbl hbA hw.2.2.2.1 (hix 1 (by decide)) dL_law_2112 ?_
  refine lv_aload_n hx hb dL_law_2113 rfl (lv_at hl 0 rfl) ?_
  refine lv_iload hx hb dL_law_2114 (lv_at hl 5 rfl) ?_
  refine lv_iconst (v := 2) hx hb dL_law_2116 (by decide) ?_
  refine lv_iadd hx hb dL_law_2117 ?_
  refine va_sld hx hb hXs hbl hbA hw.2.2.2.1 (hix 2 (by decide)) dL_law_2118 ?_
  refine lv_aload_n hx hb dL_law_2119 rfl (lv_at hl 0 rfl) ?_
  refine lv_iload hx hb dL_law_2120 (lv_at hl 5 rfl) ?_
  refine lv_iconst (v := 3) hx hb dL_law_2122 (by decide) ?_
  refine lv_iadd hx hb dL_law_2123 ?_
  refine va_sld hx hb hXs hbl hbA hw.2.2.2.1 (hix 3 (by decide)) dL_law_2124 ?_
  refine lv_aload_n hx hb dL_law_2125 rfl (lv_at hl 0 rfl) ?_
  refine lv_iload hx hb dL_law_2126 (lv_at hl 5 rfl) ?_
  refine lv_iconst (v := 4) hx hb dL_law_2128 (by decide) ?_
  refine lv_iadd hx hb dL_law_2129 ?_
  refine va_sld hx hb hXs hbl hbA hw.2.2.2.1 (hix 4 (by decide)) dL_law_2130 ?_
  refine lv_aload_n hx hb dL_law_2131 rfl (lv_at hl 3 rfl) ?_
  refine z_callSX (As := [.ref h, .int (xs (Int32.toNatClampNeg (i + 1))), .int (xs (Int32.toNatClampNeg (i + 2))), .int (xs (Int32.toNatClampNeg (i + 3))), .int (xs (Int32.toNatClampNeg (i + 4))), .ref o1]) (rest := []) ⟨hx, hb, hml, hown, hts⟩ hw hX (c_L_sliceAt l hl0 g L f h (zPm am o1 o2) σ (xs (Int32.toNatClampNeg (i + 1))) (xs (Int32.toNatClampNeg (i + 2))) (xs (Int32.toNatClampNeg (i + 3))) (xs (Int32.toNatClampNeg (i + 4))) o1 F hH h10 zPm_1) (vx_cwSW 6 hts gL_law_L_sliceAt rfl rfl rfl (by decide +kernel) ⟨Nat.le_trans (Nat.le_of_ble_eq_true rfl) hRf, Nat.le_trans (Nat.le_of_ble_eq_true rfl) hRl⟩) rfl hl.1 rfl (Nat.le_of_ble_eq_true rfl) dL_law_2132 ⟨by omega, by omega⟩ (fun _ _ _ _ _ _ _ hp => False.elim hp) (fun r9 L1 f1 H locs hp hw => ?_)
  obtain ⟨rfl, hH1, ⟨F1, hF1, hv1⟩, hfr1⟩ := hp
  have hE1 := zMe_kept hE hH1 (fun k hk => hfr1 _ (zPm_m hk) (hn1 k hk))
  refine W.eq (g2 := F0 m 2135 ls [.int (o_sliceAt σ (xs (Int32.toNatClampNeg (i + 1))) (xs (Int32.toNatClampNeg (i + 2))) (xs (Int32.toNatClampNeg (i + 3))) (xs (Int32.toNatClampNeg (i + 4)))).1]) rfl ?_
  refine lv_istore (lv' := [(6, .int (o_sliceAt σ (xs (Int32.toNatClampNeg (i + 1))) (xs (Int32.toNatClampNeg (i + 2))) (xs (Int32.toNatClampNeg (i + 3))) (xs (Int32.toNatClampNeg (i + 4)))).1), (0, .ref b), (1, .ref h), (2, .ref (am 0)), (3, .ref o1), (4, .ref o2), (5, .int i)]) hx hb dL_law_2135 hl (by decide) rfl (fun ls hl => ?_)
  refine lv_aload_n hx hb dL_law_2137 rfl (lv_at hl 3 rfl) ?_
  refine lv_aload_n hx hb dL_law_2138 rfl (lv_at hl 1 rfl) ?_
  refine lv_iload hx hb dL_law_2139 (lv_at hl 6 rfl) ?_
  refine lv_iconst (v := 1) hx hb dL_law_2141 (by decide) ?_
  refine lv_iadd hx hb dL_law_2142 ?_
  refine va_sld hx hb hXs hbl hbA hw.2.2.2.1 (hix 1 (by decide)) dL_law_2143 ?_
  refine lv_aload_n hx hb dL_law_2144 rfl (lv_at hl 1 rfl) ?_
  refine lv_iload hx hb dL_law_2145 (lv_at hl 6 rfl) ?_
  refine lv_iconst (v := 2) hx hb dL_law_2147 (by decide) ?_
  refine lv_iadd hx hb dL_law_2148 ?_
  refine va_sld hx hb hXs hbl hbA hw.2.2.2.1 (hix 2 (by decide)) dL_law_2149 ?_
  refine lv_aload_n hx hb dL_law_2150 rfl (lv_at hl 1 rfl) ?_
  refine lv_iload hx hb dL_law_2151 (lv_at hl 6 rfl) ?_
  refine lv_iconst (v := 3) hx hb dL_law_2153 (by decide) ?_
  refine lv_iadd hx hb dL_law_2154 ?_
  refine va_sld hx hb hXs hbl hbA hw.2.2.2.1 (hix 3 (by decide)) dL_law_2155 ?_
  refine lv_aload_n hx hb dL_law_2156 rfl (lv_at hl 1 rfl) ?_
  refine lv_iload hx hb dL_law_2157 (lv_at hl 6 rfl) ?_
  refine lv_iconst (v := 4) hx hb dL_law_2159 (by decide) ?_
  refine lv_iadd hx hb dL_law_2160 ?_
  refine va_sld hx hb hXs hbl hbA hw.2.2.2.1 (hix 4 (by decide)) dL_law_2161 ?_
  refine z_callV (As := [.int (xs (Int32.toNatClampNeg (i + 1))), .int (xs (Int32.toNatClampNeg (i + 2))), .int (xs (Int32.toNatClampNeg (i + 3))), .int (xs (Int32.toNatClampNeg (i + 4)))]) (rest := []) ⟨hx, hb, hml, hown, hts⟩ hw hX (hE1.1 0 (by decide)) rfl (c_X2_sliceAt l g am L1 f1 σ bs th (xs (Int32.toNatClampNeg (i + 1))) (xs (Int32.toNatClampNeg (i + 2))) (xs (Int32.toNatClampNeg (i + 3))) (xs (Int32.toNatClampNeg (i + 4))) ⟨hE1, fun _ _ => rfl⟩ hI) (cwV 4 hts gL_law_X2_sliceAt rfl rfl rfl (by decide +kernel) ⟨Nat.le_trans (Nat.le_of_ble_eq_true rfl) hRf, Nat.le_trans (Nat.le_of_ble_eq_true rfl) hRl⟩) rfl hl.1 rfl (Nat.le_of_ble_eq_true rfl) dL_law_2162 ⟨by omega, by omega⟩ (fun _ _ _ _ _ _ _ hp => False.elim hp) (fun r9 L2 f2 H locs hp hw => ?_)
  obtain ⟨rfl, b9, bs9, rfl, hm9, hb9⟩ := hp
  have ho1 : zc L1 f2 o1 (.inl (g.2 1, 1, .inr (.inl F1))) := ⟨zHC_in hH1 zPm_1, (hm9.2 _ (fun k hk e => hn1 k hk e.symm)).trans hF1⟩
  have ho2 : zc L1 f2 o2 (.inl (g.2 3, 1, .inr (.inr (.inr (.inl D))))) := ⟨zHC_in hH1 zPm_2, (hm9.2 _ (fun k hk e => hn2 k hk e.symm)).trans ((hfr1 _ zPm_2 (Ne.symm hn12)).trans h20.2)⟩
  have hH2 := zHC_mod hH1 hm9.2
  refine W.eq (g2 := F0 m 2165 ls [.int b9]) rfl ?_
  refine lv_istore (lv' := [(7, .int b9), (6, .int (o_sliceAt σ (xs (Int32.toNatClampNeg (i + 1))) (xs (Int32.toNatClampNeg (i + 2))) (xs (Int32.toNatClampNeg (i + 3))) (xs (Int32.toNatClampNeg (i + 4)))).1), (0, .ref b), (1, .ref h), (2, .ref (am 0)), (3, .ref o1), (4, .ref o2), (5, .int i)]) hx hb dL_law_2165 hl (by decide) rfl (fun ls hl => ?_)
  refine lv_aload_n hx hb dL_law_2167 rfl (lv_at hl 4 rfl) ?_
  refine z_callV (As := []) (rest := []) ⟨hx, hb, hml, hown, hts⟩ hw hX (hm9.1.1 0 (by decide)) rfl (c_X2_thrown l g am L1 f2 (o_sliceAt σ (xs (Int32.toNatClampNeg (i + 1))) (xs (Int32.toNatClampNeg (i + 2))) (xs (Int32.toNatClampNeg (i + 3))) (xs (Int32.toNatClampNeg (i + 4)))).2.2 bs9 (o_sliceAt σ (xs (Int32.toNatClampNeg (i + 1))) (xs (Int32.toNatClampNeg (i + 2))) (xs (Int32.toNatClampNeg (i + 3))) (xs (Int32.toNatClampNeg (i + 4)))).1 hm9.rf) (cwV 0 hts gL_law_X2_thrown rfl rfl rfl (by decide +kernel) ⟨Nat.le_trans (Nat.le_of_ble_eq_true rfl) hRf, Nat.le_trans (Nat.le_of_ble_eq_true rfl) hRl⟩) rfl hl.1 rfl (Nat.le_of_ble_eq_true rfl) dL_law_2168 ⟨by omega, by omega⟩ (fun _ _ _ _ _ _ _ hp => False.elim hp) (fun r9 L3 f3 H locs hp hw => ?_)
  obtain ⟨rfl, rfl, rfl⟩ := hp
  refine W.eq (g2 := F0 m 2171 ls [.int (o_sliceAt σ (xs (Int32.toNatClampNeg (i + 1))) (xs (Int32.toNatClampNeg (i + 2))) (xs (Int32.toNatClampNeg (i + 3))) (xs (Int32.toNatClampNeg (i + 4)))).1]) rfl ?_
  refine lv_iload hx hb dL_law_2171 (lv_at hl 1 rfl) ?_
  refine lv_icmp_eq (tgt := 2178) hx hb dL_law_2173 (by decide) (fun _ => ?_) (fun c => absurd rfl c)
  refine lv_iload hx hb dL_law_2178 (lv_at hl 1 rfl) ?_
  refine lv_if_ne (tgt := 2195) hx hb dL_law_2180 (by decide) (fun c_1 => ?_) (fun c_1 => ?_)
  · refine lv_goto (tgt := 2828) hx hb dL_law_2195 (by decide) ?_
    refine W.widen (k := cells + 60) (n := slots + 1000) (by omega) (by omega) ?_
    have hl := lv_sub hl (l' := [(0, .ref b), (1, .ref h), (2, .ref (am 0)), (3, .ref o1), (4, .ref o2), (5, .int i)]) [2, 3, 4, 5, 6, 7] rfl
    exact hback _ _ _ _ _ _ ⟨_, _, _, _, hH2, hm9.1, ho1, ho2⟩ hw hl
  · refine lv_aload_n hx hb dL_law_2183 rfl (lv_at hl 5 rfl) ?_
    refine lv_iconst (v := 0) hx hb dL_law_2184 (by decide) ?_
    refine zr_lald hx hb hw ho1 (vp_in_iff.mpr (by decide)) dL_law_2185 ?_
    refine lv_iload hx hb dL_law_2186 (lv_at hl 0 rfl) ?_
    refine lv_i2l (v := b9.toInt64) hx hb dL_law_2188 rfl ?_
    refine W.lcmp hx hb dL_law_2189 ?_
    have hq_2 : (lg_cmp (F1 (Int32.toNatClampNeg 0)) b9.toInt64) = 0 := zcmp0.mpr (by rw [hb9 c_1]; exact hv1 c_1)
    refine lv_if_eq (tgt := 2195) hx hb dL_law_2190 (by decide) (fun c_3 => ?_) (fun c_3 => absurd hq_2 c_3)
    refine lv_goto (tgt := 2828) hx hb dL_law_2195 (by decide) ?_
    refine W.widen (k := cells + 60) (n := slots + 1000) (by omega) (by omega) ?_
    have hl := lv_sub hl (l' := [(0, .ref b), (1, .ref h), (2, .ref (am 0)), (3, .ref o1), (4, .ref o2), (5, .int i)]) [2, 3, 4, 5, 6, 7] rfl
    exact hback _ _ _ _ _ _ ⟨_, _, _, _, hH2, hm9.1, ho1, ho2⟩ hw hl

set_option maxRecDepth 100000 in
set_option maxHeartbeats 4000000 in
theorem k_law_28 {p : Program} {l : Launch} {e : Env} {R : Room} {s : State} {m : MethodId} {args : Array Value} {below : List Frame} {meth : Method} {c : Code} {H : Heap} {locs : List Loc} {cells slots : Nat} {Q : State → Prop} {ls : Array Slot} {g : zG} {A : Nat → Prop} {L : List Nat} {f : Nat → va_E} {am : Nat → Nat} {h o1 o2 b N : Nat} {σ : ZS} {xs : Nat → Int32} {i : Int32}
    (hx : p.tables.exec = Jvm.exec) (hb : c.code = cL_law) (hml : c.maxLocals = 9) (hown : s.vm.findClass RL = some m.cls) (hts : ∀ w ∈ wsL_law, w.before args s = true) (hl0 : l.stackTraces = false) (hw : zW g A s L f H locs) (hX : zX A s s.heap) (hXs : va_X b N xs s s.heap) (hbl : b < s.heap.size) (hbA : ¬ A b) (hRf : 20 ≤ R.frames) (hRl : 1000 ≤ R.locals) (hRc : cells + 60 ≤ R.cells) (hRs : slots + 1000 ≤ R.slots) (hJ : zLw g h am o1 o2 σ L f) (hix : ∀ j : Nat, j < 7 → vp_in (i + nI j) N) (hl : lv_has ls 9 [(0, .ref b), (1, .ref h), (2, .ref (am 0)), (3, .ref o1), (4, .ref o2), (5, .int i)])
    (hback : ∀ (σ1 : ZS) (L1 : List Nat) (f1 : Nat → va_E) (H1 : Heap) (locs1 : List Loc) (ls1 : Array Slot), zLw g h am o1 o2 σ1 L1 f1 → zW g A s L1 f1 H1 locs1 → lv_has ls1 9 [(0, .ref b), (1, .ref h), (2, .ref (am 0)), (3, .ref o1), (4, .ref o2), (5, .int i)] → W p l e R s m args below meth c H1 locs1 (cells + 60) (slots + 1000) Q (F0 m 2828 ls1 [])) : W p l e R s m args below meth c H locs cells slots Q (F0 m 2198 ls []) := by
  obtain ⟨bs, th, F, D, hH, hE, h10, h20⟩ := hJ
  obtain ⟨ln, kd, hI⟩ := zHC_I hH
  obtain ⟨fs9, hcb⟩ := zHC_obj hH
  have hn1 := zMe_ne1 hE h10
  have hn2 := zMe_ne2 hE h20
  have hn12 := zo_ne h10 h20
  refine lv_aload_n hx hb dL_law_2198 rfl (lv_at hl 1 rfl) ?_
  refine lv_aload_n hx hb dL_law_2199 rfl (lv_at hl 0 rfl) ?_
  refine lv_iload hx hb dL_law_2200 (lv_at hl 5 rfl) ?_
  refine lv_iconst (v := 1) hx hb dL_law_2202 (by decide) ?_
  refine lv_iadd hx hb dL_law_2203 ?_
  refine va_sld hx hb hXs hbl hbA hw.2.2.2.1 (hix 1 (by decide)) dL_law_2204 ?_
  refine lv_aload_n hx hb dL_law_2205 rfl (lv_at hl 0 rfl) ?_
  refine lv_iload hx hb dL_law_2206 (lv_at hl 5 rfl) ?_
  refine lv_iconst (v := 2) hx hb dL_law_2208 (by decide) ?_
  refine lv_iadd hx hb dL_law_2209 ?_
  refine va_sld hx hb hXs hbl hbA hw.2.2.2.1 (hix 2 (by decide)) dL_law_2210 ?_
  refine lv_aload_n hx hb dL_law_2211 rfl (lv_at hl 3 rfl) ?_
  refine z_callSX (As := [.ref h, .int (xs (Int32.toNatClampNeg (i + 1))), .int (xs (Int32.toNatClampNeg (i + 2))), .ref o1]) (rest := []) ⟨hx, hb, hml, hown, hts⟩ hw hX (c_L_duplicate l hl0 g L f h (zPm am o1 o2) σ (xs (Int32.toNatClampNeg (i + 1))) (xs (Int32.toNatClampNeg (i + 2))) o1 F hH h10 zPm_1) (vx_cwSW 4 hts gL_law_L_duplicate rfl rfl rfl (by decide +kernel) ⟨Nat.le_trans (Nat.le_of_ble_eq_true rfl) hRf, Nat.le_trans (Nat.le_of_ble_eq_true rfl) hRl⟩) rfl hl.1 rfl (Nat.le_of_ble_eq_true rfl) dL_law_2212 ⟨by omega, by omega⟩ (fun _ _ _ _ _ _ _ hp => False.elim hp) (fun r9 L1 f1 H locs hp hw => ?_)
  obtain ⟨rfl, hH1, ⟨F1, hF1, hv1⟩, hfr1⟩ := hp
  have hE1 := zMe_kept hE hH1 (fun k hk => hfr1 _ (zPm_m hk) (hn1 k hk))
  refine W.eq (g2 := F0 m 2215 ls [.int (o_duplicate σ (xs (Int32.toNatClampNeg (i + 1))) (xs (Int32.toNatClampNeg (i + 2)))).1]) rfl ?_
  refine lv_istore (lv' := [(6, .int (o_duplicate σ (xs (Int32.toNatClampNeg (i + 1))) (xs (Int32.toNatClampNeg (i + 2)))).1), (0, .ref b), (1, .ref h), (2, .ref (am 0)), (3, .ref o1), (4, .ref o2), (5, .int i)]) hx hb dL_law_2215 hl (by decide) rfl (fun ls hl => ?_)
  refine lv_aload_n hx hb dL_law_2217 rfl (lv_at hl 3 rfl) ?_
  refine lv_aload_n hx hb dL_law_2218 rfl (lv_at hl 1 rfl) ?_
  refine lv_iload hx hb dL_law_2219 (lv_at hl 6 rfl) ?_
  refine lv_iconst (v := 1) hx hb dL_law_2221 (by decide) ?_
  refine lv_iadd hx hb dL_law_2222 ?_
  refine va_sld hx hb hXs hbl hbA hw.2.2.2.1 (hix 1 (by decide)) dL_law_2223 ?_
  refine lv_aload_n hx hb dL_law_2224 rfl (lv_at hl 1 rfl) ?_
  refine lv_iload hx hb dL_law_2225 (lv_at hl 6 rfl) ?_
  refine lv_iconst (v := 2) hx hb dL_law_2227 (by decide) ?_
  refine lv_iadd hx hb dL_law_2228 ?_
  refine va_sld hx hb hXs hbl hbA hw.2.2.2.1 (hix 2 (by decide)) dL_law_2229 ?_
  refine z_callV (As := [.int (xs (Int32.toNatClampNeg (i + 1))), .int (xs (Int32.toNatClampNeg (i + 2)))]) (rest := []) ⟨hx, hb, hml, hown, hts⟩ hw hX (hE1.1 0 (by decide)) rfl (c_X2_duplicate l g am L1 f1 σ bs th (xs (Int32.toNatClampNeg (i + 1))) (xs (Int32.toNatClampNeg (i + 2))) ⟨hE1, fun _ _ => rfl⟩ hI) (cwV 2 hts gL_law_X2_duplicate rfl rfl rfl (by decide +kernel) ⟨Nat.le_trans (Nat.le_of_ble_eq_true rfl) hRf, Nat.le_trans (Nat.le_of_ble_eq_true rfl) hRl⟩) rfl hl.1 rfl (Nat.le_of_ble_eq_true rfl) dL_law_2230 ⟨by omega, by omega⟩ (fun _ _ _ _ _ _ _ hp => False.elim hp) (fun r9 L2 f2 H locs hp hw => ?_)
  obtain ⟨rfl, b9, bs9, rfl, hm9, hb9⟩ := hp
  have ho1 : zc L1 f2 o1 (.inl (g.2 1, 1, .inr (.inl F1))) := ⟨zHC_in hH1 zPm_1, (hm9.2 _ (fun k hk e => hn1 k hk e.symm)).trans hF1⟩
  have ho2 : zc L1 f2 o2 (.inl (g.2 3, 1, .inr (.inr (.inr (.inl D))))) := ⟨zHC_in hH1 zPm_2, (hm9.2 _ (fun k hk e => hn2 k hk e.symm)).trans ((hfr1 _ zPm_2 (Ne.symm hn12)).trans h20.2)⟩
  have hH2 := zHC_mod hH1 hm9.2
  refine W.eq (g2 := F0 m 2233 ls [.int b9]) rfl ?_
  refine lv_istore (lv' := [(7, .int b9), (6, .int (o_duplicate σ (xs (Int32.toNatClampNeg (i + 1))) (xs (Int32.toNatClampNeg (i + 2)))).1), (0, .ref b), (1, .ref h), (2, .ref (am 0)), (3, .ref o1), (4, .ref o2), (5, .int i)]) hx hb dL_law_2233 hl (by decide) rfl (fun ls hl => ?_)
  refine lv_aload_n hx hb dL_law_2235 rfl (lv_at hl 4 rfl) ?_
  refine z_callV (As := []) (rest := []) ⟨hx, hb, hml, hown, hts⟩ hw hX (hm9.1.1 0 (by decide)) rfl (c_X2_thrown l g am L1 f2 (o_duplicate σ (xs (Int32.toNatClampNeg (i + 1))) (xs (Int32.toNatClampNeg (i + 2)))).2.2 bs9 (o_duplicate σ (xs (Int32.toNatClampNeg (i + 1))) (xs (Int32.toNatClampNeg (i + 2)))).1 hm9.rf) (cwV 0 hts gL_law_X2_thrown rfl rfl rfl (by decide +kernel) ⟨Nat.le_trans (Nat.le_of_ble_eq_true rfl) hRf, Nat.le_trans (Nat.le_of_ble_eq_true rfl) hRl⟩) rfl hl.1 rfl (Nat.le_of_ble_eq_true rfl) dL_law_2236 ⟨by omega, by omega⟩ (fun _ _ _ _ _ _ _ hp => False.elim hp) (fun r9 L3 f3 H locs hp hw => ?_)
  obtain ⟨rfl, rfl, rfl⟩ := hp
  refine W.eq (g2 := F0 m 2239 ls [.int (o_duplicate σ (xs (Int32.toNatClampNeg (i + 1))) (xs (Int32.toNatClampNeg (i + 2)))).1]) rfl ?_
  refine lv_iload hx hb dL_law_2239 (lv_at hl 1 rfl) ?_
  refine lv_icmp_eq (tgt := 2246) hx hb dL_law_2241 (by decide) (fun _ => ?_) (fun c => absurd rfl c)
  refine lv_iload hx hb dL_law_2246 (lv_at hl 1 rfl) ?_
  refine lv_if_ne (tgt := 2263) hx hb dL_law_2248 (by decide) (fun c_1 => ?_) (fun c_1 => ?_)
  · refine lv_goto (tgt := 2828) hx hb dL_law_2263 (by decide) ?_
    refine W.widen (k := cells + 60) (n := slots + 1000) (by omega) (by omega) ?_
    have hl := lv_sub hl (l' := [(0, .ref b), (1, .ref h), (2, .ref (am 0)), (3, .ref o1), (4, .ref o2), (5, .int i)]) [2, 3, 4, 5, 6, 7] rfl
    exact hback _ _ _ _ _ _ ⟨_, _, _, _, hH2, hm9.1, ho1, ho2⟩ hw hl
  · refine lv_aload_n hx hb dL_law_2251 rfl (lv_at hl 5 rfl) ?_
    refine lv_iconst (v := 0) hx hb dL_law_2252 (by decide) ?_
    refine zr_lald hx hb hw ho1 (vp_in_iff.mpr (by decide)) dL_law_2253 ?_
    refine lv_iload hx hb dL_law_2254 (lv_at hl 0 rfl) ?_
    refine lv_i2l (v := b9.toInt64) hx hb dL_law_2256 rfl ?_
    refine W.lcmp hx hb dL_law_2257 ?_
    have hq_2 : (lg_cmp (F1 (Int32.toNatClampNeg 0)) b9.toInt64) = 0 := zcmp0.mpr (by rw [hb9 c_1]; exact hv1 c_1)
    refine lv_if_eq (tgt := 2263) hx hb dL_law_2258 (by decide) (fun c_3 => ?_) (fun c_3 => absurd hq_2 c_3)
    refine lv_goto (tgt := 2828) hx hb dL_law_2263 (by decide) ?_
    refine W.widen (k := cells + 60) (n := slots + 1000) (by omega) (by omega) ?_
    have hl := lv_sub hl (l' := [(0, .ref b), (1, .ref h), (2, .ref (am 0)), (3, .ref o1), (4, .ref o2), (5, .int i)]) [2, 3, 4, 5, 6, 7] rfl
    exact hback _ _ _ _ _ _ ⟨_, _, _, _, hH2, hm9.1, ho1, ho2⟩ hw hl

set_option maxRecDepth 100000 in
set_option maxHeartbeats 4000000 in
theorem k_law_29 {p : Program} {l : Launch} {e : Env} {R : Room} {s : State} {m : MethodId} {args : Array Value} {below : List Frame} {meth : Method} {c : Code} {H : Heap} {locs : List Loc} {cells slots : Nat} {Q : State → Prop} {ls : Array Slot} {g : zG} {A : Nat → Prop} {L : List Nat} {f : Nat → va_E} {am : Nat → Nat} {h o1 o2 b N : Nat} {σ : ZS} {xs : Nat → Int32} {i : Int32}
    (hx : p.tables.exec = Jvm.exec) (hb : c.code = cL_law) (hml : c.maxLocals = 9) (hown : s.vm.findClass RL = some m.cls) (hts : ∀ w ∈ wsL_law, w.before args s = true) (hl0 : l.stackTraces = false) (hw : zW g A s L f H locs) (hX : zX A s s.heap) (hXs : va_X b N xs s s.heap) (hbl : b < s.heap.size) (hbA : ¬ A b) (hRf : 20 ≤ R.frames) (hRl : 1000 ≤ R.locals) (hRc : cells + 60 ≤ R.cells) (hRs : slots + 1000 ≤ R.slots) (hJ : zLw g h am o1 o2 σ L f) (hix : ∀ j : Nat, j < 7 → vp_in (i + nI j) N) (hl : lv_has ls 9 [(0, .ref b), (1, .ref h), (2, .ref (am 0)), (3, .ref o1), (4, .ref o2), (5, .int i)])
    (hback : ∀ (σ1 : ZS) (L1 : List Nat) (f1 : Nat → va_E) (H1 : Heap) (locs1 : List Loc) (ls1 : Array Slot), zLw g h am o1 o2 σ1 L1 f1 → zW g A s L1 f1 H1 locs1 → lv_has ls1 9 [(0, .ref b), (1, .ref h), (2, .ref (am 0)), (3, .ref o1), (4, .ref o2), (5, .int i)] → W p l e R s m args below meth c H1 locs1 (cells + 60) (slots + 1000) Q (F0 m 2828 ls1 [])) : W p l e R s m args below meth c H locs cells slots Q (F0 m 2266 ls []) := by
  obtain ⟨bs, th, F, D, hH, hE, h10, h20⟩ := hJ
  obtain ⟨ln, kd, hI⟩ := zHC_I hH
  obtain ⟨fs9, hcb⟩ := zHC_obj hH
  have hn1 := zMe_ne1 hE h10
  have hn2 := zMe_ne2 hE h20
  have hn12 := zo_ne h10 h20
  refine lv_aload_n hx hb dL_law_2266 rfl (lv_at hl 1 rfl) ?_
  refine lv_aload_n hx hb dL_law_2267 rfl (lv_at hl 0 rfl) ?_
  refine lv_iload hx hb dL_law_2268 (lv_at hl 5 rfl) ?_
  refine lv_iconst (v := 1) hx hb dL_law_2270 (by decide) ?_
  refine lv_iadd hx hb dL_law_2271 ?_
  refine va_sld hx hb hXs hbl hbA hw.2.2.2.1 (hix 1 (by decide)) dL_law_2272 ?_
  refine lv_aload_n hx hb dL_law_2273 rfl (lv_at hl 0 rfl) ?_
  refine lv_iload hx hb dL_law_2274 (lv_at hl 5 rfl) ?_
  refine lv_iconst (v := 2) hx hb dL_law_2276 (by decide) ?_
  refine lv_iadd hx hb dL_law_2277 ?_
  refine va_sld hx hb hXs hbl hbA hw.2.2.2.1 (hix 2 (by decide)) dL_law_2278 ?_
  refine lv_aload_n hx hb dL_law_2279 rfl (lv_at hl 3 rfl) ?_
  refine z_callSX (As := [.ref h, .int (xs (Int32.toNatClampNeg (i + 1))), .int (xs (Int32.toNatClampNeg (i + 2))), .ref o1]) (rest := []) ⟨hx, hb, hml, hown, hts⟩ hw hX (c_L_readOnly l hl0 g L f h (zPm am o1 o2) σ (xs (Int32.toNatClampNeg (i + 1))) (xs (Int32.toNatClampNeg (i + 2))) o1 F hH h10 zPm_1) (vx_cwSW 4 hts gL_law_L_readOnly rfl rfl rfl (by decide +kernel) ⟨Nat.le_trans (Nat.le_of_ble_eq_true rfl) hRf, Nat.le_trans (Nat.le_of_ble_eq_true rfl) hRl⟩) rfl hl.1 rfl (Nat.le_of_ble_eq_true rfl) dL_law_2280 ⟨by omega, by omega⟩ (fun _ _ _ _ _ _ _ hp => False.elim hp) (fun r9 L1 f1 H locs hp hw => ?_)
  obtain ⟨rfl, hH1, ⟨F1, hF1, hv1⟩, hfr1⟩ := hp
  have hE1 := zMe_kept hE hH1 (fun k hk => hfr1 _ (zPm_m hk) (hn1 k hk))
  refine W.eq (g2 := F0 m 2283 ls [.int (o_readOnly σ (xs (Int32.toNatClampNeg (i + 1))) (xs (Int32.toNatClampNeg (i + 2)))).1]) rfl ?_
  refine lv_istore (lv' := [(6, .int (o_readOnly σ (xs (Int32.toNatClampNeg (i + 1))) (xs (Int32.toNatClampNeg (i + 2)))).1), (0, .ref b), (1, .ref h), (2, .ref (am 0)), (3, .ref o1), (4, .ref o2), (5, .int i)]) hx hb dL_law_2283 hl (by decide) rfl (fun ls hl => ?_)
  refine lv_aload_n hx hb dL_law_2285 rfl (lv_at hl 3 rfl) ?_
  refine lv_aload_n hx hb dL_law_2286 rfl (lv_at hl 1 rfl) ?_
  refine lv_iload hx hb dL_law_2287 (lv_at hl 6 rfl) ?_
  refine lv_iconst (v := 1) hx hb dL_law_2289 (by decide) ?_
  refine lv_iadd hx hb dL_law_2290 ?_
  refine va_sld hx hb hXs hbl hbA hw.2.2.2.1 (hix 1 (by decide)) dL_law_2291 ?_
  refine lv_aload_n hx hb dL_law_2292 rfl (lv_at hl 1 rfl) ?_
  refine lv_iload hx hb dL_law_2293 (lv_at hl 6 rfl) ?_
  refine lv_iconst (v := 2) hx hb dL_law_2295 (by decide) ?_
  refine lv_iadd hx hb dL_law_2296 ?_
  refine va_sld hx hb hXs hbl hbA hw.2.2.2.1 (hix 2 (by decide)) dL_law_2297 ?_
  refine z_callV (As := [.int (xs (Int32.toNatClampNeg (i + 1))), .int (xs (Int32.toNatClampNeg (i + 2)))]) (rest := []) ⟨hx, hb, hml, hown, hts⟩ hw hX (hE1.1 0 (by decide)) rfl (c_X2_readOnly l g am L1 f1 σ bs th (xs (Int32.toNatClampNeg (i + 1))) (xs (Int32.toNatClampNeg (i + 2))) ⟨hE1, fun _ _ => rfl⟩ hI) (cwV 2 hts gL_law_X2_readOnly rfl rfl rfl (by decide +kernel) ⟨Nat.le_trans (Nat.le_of_ble_eq_true rfl) hRf, Nat.le_trans (Nat.le_of_ble_eq_true rfl) hRl⟩) rfl hl.1 rfl (Nat.le_of_ble_eq_true rfl) dL_law_2298 ⟨by omega, by omega⟩ (fun _ _ _ _ _ _ _ hp => False.elim hp) (fun r9 L2 f2 H locs hp hw => ?_)
  obtain ⟨rfl, b9, bs9, rfl, hm9, hb9⟩ := hp
  have ho1 : zc L1 f2 o1 (.inl (g.2 1, 1, .inr (.inl F1))) := ⟨zHC_in hH1 zPm_1, (hm9.2 _ (fun k hk e => hn1 k hk e.symm)).trans hF1⟩
  have ho2 : zc L1 f2 o2 (.inl (g.2 3, 1, .inr (.inr (.inr (.inl D))))) := ⟨zHC_in hH1 zPm_2, (hm9.2 _ (fun k hk e => hn2 k hk e.symm)).trans ((hfr1 _ zPm_2 (Ne.symm hn12)).trans h20.2)⟩
  have hH2 := zHC_mod hH1 hm9.2
  refine W.eq (g2 := F0 m 2301 ls [.int b9]) rfl ?_
  refine lv_istore (lv' := [(7, .int b9), (6, .int (o_readOnly σ (xs (Int32.toNatClampNeg (i + 1))) (xs (Int32.toNatClampNeg (i + 2)))).1), (0, .ref b), (1, .ref h), (2, .ref (am 0)), (3, .ref o1), (4, .ref o2), (5, .int i)]) hx hb dL_law_2301 hl (by decide) rfl (fun ls hl => ?_)
  refine lv_aload_n hx hb dL_law_2303 rfl (lv_at hl 4 rfl) ?_
  refine z_callV (As := []) (rest := []) ⟨hx, hb, hml, hown, hts⟩ hw hX (hm9.1.1 0 (by decide)) rfl (c_X2_thrown l g am L1 f2 (o_readOnly σ (xs (Int32.toNatClampNeg (i + 1))) (xs (Int32.toNatClampNeg (i + 2)))).2.2 bs9 (o_readOnly σ (xs (Int32.toNatClampNeg (i + 1))) (xs (Int32.toNatClampNeg (i + 2)))).1 hm9.rf) (cwV 0 hts gL_law_X2_thrown rfl rfl rfl (by decide +kernel) ⟨Nat.le_trans (Nat.le_of_ble_eq_true rfl) hRf, Nat.le_trans (Nat.le_of_ble_eq_true rfl) hRl⟩) rfl hl.1 rfl (Nat.le_of_ble_eq_true rfl) dL_law_2304 ⟨by omega, by omega⟩ (fun _ _ _ _ _ _ _ hp => False.elim hp) (fun r9 L3 f3 H locs hp hw => ?_)
  obtain ⟨rfl, rfl, rfl⟩ := hp
  refine W.eq (g2 := F0 m 2307 ls [.int (o_readOnly σ (xs (Int32.toNatClampNeg (i + 1))) (xs (Int32.toNatClampNeg (i + 2)))).1]) rfl ?_
  refine lv_iload hx hb dL_law_2307 (lv_at hl 1 rfl) ?_
  refine lv_icmp_eq (tgt := 2314) hx hb dL_law_2309 (by decide) (fun _ => ?_) (fun c => absurd rfl c)
  refine lv_iload hx hb dL_law_2314 (lv_at hl 1 rfl) ?_
  refine lv_if_ne (tgt := 2331) hx hb dL_law_2316 (by decide) (fun c_1 => ?_) (fun c_1 => ?_)
  · refine lv_goto (tgt := 2828) hx hb dL_law_2331 (by decide) ?_
    refine W.widen (k := cells + 60) (n := slots + 1000) (by omega) (by omega) ?_
    have hl := lv_sub hl (l' := [(0, .ref b), (1, .ref h), (2, .ref (am 0)), (3, .ref o1), (4, .ref o2), (5, .int i)]) [2, 3, 4, 5, 6, 7] rfl
    exact hback _ _ _ _ _ _ ⟨_, _, _, _, hH2, hm9.1, ho1, ho2⟩ hw hl
  · refine lv_aload_n hx hb dL_law_2319 rfl (lv_at hl 5 rfl) ?_
    refine lv_iconst (v := 0) hx hb dL_law_2320 (by decide) ?_
    refine zr_lald hx hb hw ho1 (vp_in_iff.mpr (by decide)) dL_law_2321 ?_
    refine lv_iload hx hb dL_law_2322 (lv_at hl 0 rfl) ?_
    refine lv_i2l (v := b9.toInt64) hx hb dL_law_2324 rfl ?_
    refine W.lcmp hx hb dL_law_2325 ?_
    have hq_2 : (lg_cmp (F1 (Int32.toNatClampNeg 0)) b9.toInt64) = 0 := zcmp0.mpr (by rw [hb9 c_1]; exact hv1 c_1)
    refine lv_if_eq (tgt := 2331) hx hb dL_law_2326 (by decide) (fun c_3 => ?_) (fun c_3 => absurd hq_2 c_3)
    refine lv_goto (tgt := 2828) hx hb dL_law_2331 (by decide) ?_
    refine W.widen (k := cells + 60) (n := slots + 1000) (by omega) (by omega) ?_
    have hl := lv_sub hl (l' := [(0, .ref b), (1, .ref h), (2, .ref (am 0)), (3, .ref o1), (4, .ref o2), (5, .int i)]) [2, 3, 4, 5, 6, 7] rfl
    exact hback _ _ _ _ _ _ ⟨_, _, _, _, hH2, hm9.1, ho1, ho2⟩ hw hl

set_option maxRecDepth 100000 in
set_option maxHeartbeats 4000000 in
theorem k_law_30 {p : Program} {l : Launch} {e : Env} {R : Room} {s : State} {m : MethodId} {args : Array Value} {below : List Frame} {meth : Method} {c : Code} {H : Heap} {locs : List Loc} {cells slots : Nat} {Q : State → Prop} {ls : Array Slot} {g : zG} {A : Nat → Prop} {L : List Nat} {f : Nat → va_E} {am : Nat → Nat} {h o1 o2 b N : Nat} {σ : ZS} {xs : Nat → Int32} {i : Int32}
    (hx : p.tables.exec = Jvm.exec) (hb : c.code = cL_law) (hml : c.maxLocals = 9) (hown : s.vm.findClass RL = some m.cls) (hts : ∀ w ∈ wsL_law, w.before args s = true) (hl0 : l.stackTraces = false) (hw : zW g A s L f H locs) (hX : zX A s s.heap) (hXs : va_X b N xs s s.heap) (hbl : b < s.heap.size) (hbA : ¬ A b) (hRf : 20 ≤ R.frames) (hRl : 1000 ≤ R.locals) (hRc : cells + 60 ≤ R.cells) (hRs : slots + 1000 ≤ R.slots) (hJ : zLw g h am o1 o2 σ L f) (hix : ∀ j : Nat, j < 7 → vp_in (i + nI j) N) (hl : lv_has ls 9 [(0, .ref b), (1, .ref h), (2, .ref (am 0)), (3, .ref o1), (4, .ref o2), (5, .int i)])
    (hback : ∀ (σ1 : ZS) (L1 : List Nat) (f1 : Nat → va_E) (H1 : Heap) (locs1 : List Loc) (ls1 : Array Slot), zLw g h am o1 o2 σ1 L1 f1 → zW g A s L1 f1 H1 locs1 → lv_has ls1 9 [(0, .ref b), (1, .ref h), (2, .ref (am 0)), (3, .ref o1), (4, .ref o2), (5, .int i)] → W p l e R s m args below meth c H1 locs1 (cells + 60) (slots + 1000) Q (F0 m 2828 ls1 [])) : W p l e R s m args below meth c H locs cells slots Q (F0 m 2334 ls []) := by
  obtain ⟨bs, th, F, D, hH, hE, h10, h20⟩ := hJ
  obtain ⟨ln, kd, hI⟩ := zHC_I hH
  obtain ⟨fs9, hcb⟩ := zHC_obj hH
  have hn1 := zMe_ne1 hE h10
  have hn2 := zMe_ne2 hE h20
  have hn12 := zo_ne h10 h20
  refine lv_aload_n hx hb dL_law_2334 rfl (lv_at hl 1 rfl) ?_
  refine lv_aload_n hx hb dL_law_2335 rfl (lv_at hl 0 rfl) ?_
  refine lv_iload hx hb dL_law_2336 (lv_at hl 5 rfl) ?_
  refine lv_iconst (v := 1) hx hb dL_law_2338 (by decide) ?_
  refine lv_iadd hx hb dL_law_2339 ?_
  refine va_sld hx hb hXs hbl hbA hw.2.2.2.1 (hix 1 (by decide)) dL_law_2340 ?_
  refine lv_aload_n hx hb dL_law_2341 rfl (lv_at hl 0 rfl) ?_
  refine lv_iload hx hb dL_law_2342 (lv_at hl 5 rfl) ?_
  refine lv_iconst (v := 2) hx hb dL_law_2344 (by decide) ?_
  refine lv_iadd hx hb dL_law_2345 ?_
  refine va_sld hx hb hXs hbl hbA hw.2.2.2.1 (hix 2 (by decide)) dL_law_2346 ?_
  refine lv_aload_n hx hb dL_law_2347 rfl (lv_at hl 3 rfl) ?_
  refine z_callSX (As := [.ref h, .int (xs (Int32.toNatClampNeg (i + 1))), .int (xs (Int32.toNatClampNeg (i + 2))), .ref o1]) (rest := []) ⟨hx, hb, hml, hown, hts⟩ hw hX (c_L_signAt l hl0 g L f h (zPm am o1 o2) σ (xs (Int32.toNatClampNeg (i + 1))) (xs (Int32.toNatClampNeg (i + 2))) o1 F hH h10 zPm_1) (vx_cwSW 4 hts gL_law_L_signAt rfl rfl rfl (by decide +kernel) ⟨Nat.le_trans (Nat.le_of_ble_eq_true rfl) hRf, Nat.le_trans (Nat.le_of_ble_eq_true rfl) hRl⟩) rfl hl.1 rfl (Nat.le_of_ble_eq_true rfl) dL_law_2348 ⟨by omega, by omega⟩ (fun _ _ _ _ _ _ _ hp => False.elim hp) (fun r9 L1 f1 H locs hp hw => ?_)
  obtain ⟨rfl, hH1, ⟨F1, hF1, hv1⟩, hfr1⟩ := hp
  have hE1 := zMe_kept hE hH1 (fun k hk => hfr1 _ (zPm_m hk) (hn1 k hk))
  refine W.eq (g2 := F0 m 2351 ls [.int (o_signAt σ (xs (Int32.toNatClampNeg (i + 1))) (xs (Int32.toNatClampNeg (i + 2)))).1]) rfl ?_
  refine lv_istore (lv' := [(6, .int (o_signAt σ (xs (Int32.toNatClampNeg (i + 1))) (xs (Int32.toNatClampNeg (i + 2)))).1), (0, .ref b), (1, .ref h), (2, .ref (am 0)), (3, .ref o1), (4, .ref o2), (5, .int i)]) hx hb dL_law_2351 hl (by decide) rfl (fun ls hl => ?_)
  refine lv_aload_n hx hb dL_law_2353 rfl (lv_at hl 3 rfl) ?_
  refine lv_aload_n hx hb dL_law_2354 rfl (lv_at hl 1 rfl) ?_
  refine lv_iload hx hb dL_law_2355 (lv_at hl 6 rfl) ?_
  refine lv_iconst (v := 1) hx hb dL_law_2357 (by decide) ?_
  refine lv_iadd hx hb dL_law_2358 ?_
  refine va_sld hx hb hXs hbl hbA hw.2.2.2.1 (hix 1 (by decide)) dL_law_2359 ?_
  refine lv_aload_n hx hb dL_law_2360 rfl (lv_at hl 1 rfl) ?_
  refine lv_iload hx hb dL_law_2361 (lv_at hl 6 rfl) ?_
  refine lv_iconst (v := 2) hx hb dL_law_2363 (by decide) ?_
  refine lv_iadd hx hb dL_law_2364 ?_
  refine va_sld hx hb hXs hbl hbA hw.2.2.2.1 (hix 2 (by decide)) dL_law_2365 ?_
  refine z_callV (As := [.int (xs (Int32.toNatClampNeg (i + 1))), .int (xs (Int32.toNatClampNeg (i + 2)))]) (rest := []) ⟨hx, hb, hml, hown, hts⟩ hw hX (hE1.1 0 (by decide)) rfl (c_X2_signAt l g am L1 f1 σ bs th (xs (Int32.toNatClampNeg (i + 1))) (xs (Int32.toNatClampNeg (i + 2))) ⟨hE1, fun _ _ => rfl⟩ hI) (cwV 2 hts gL_law_X2_signAt rfl rfl rfl (by decide +kernel) ⟨Nat.le_trans (Nat.le_of_ble_eq_true rfl) hRf, Nat.le_trans (Nat.le_of_ble_eq_true rfl) hRl⟩) rfl hl.1 rfl (Nat.le_of_ble_eq_true rfl) dL_law_2366 ⟨by omega, by omega⟩ (fun _ _ _ _ _ _ _ hp => False.elim hp) (fun r9 L2 f2 H locs hp hw => ?_)
  obtain ⟨rfl, b9, bs9, rfl, hm9, hb9⟩ := hp
  have ho1 : zc L1 f2 o1 (.inl (g.2 1, 1, .inr (.inl F1))) := ⟨zHC_in hH1 zPm_1, (hm9.2 _ (fun k hk e => hn1 k hk e.symm)).trans hF1⟩
  have ho2 : zc L1 f2 o2 (.inl (g.2 3, 1, .inr (.inr (.inr (.inl D))))) := ⟨zHC_in hH1 zPm_2, (hm9.2 _ (fun k hk e => hn2 k hk e.symm)).trans ((hfr1 _ zPm_2 (Ne.symm hn12)).trans h20.2)⟩
  have hH2 := zHC_mod hH1 hm9.2
  refine W.eq (g2 := F0 m 2369 ls [.int b9]) rfl ?_
  refine lv_istore (lv' := [(7, .int b9), (6, .int (o_signAt σ (xs (Int32.toNatClampNeg (i + 1))) (xs (Int32.toNatClampNeg (i + 2)))).1), (0, .ref b), (1, .ref h), (2, .ref (am 0)), (3, .ref o1), (4, .ref o2), (5, .int i)]) hx hb dL_law_2369 hl (by decide) rfl (fun ls hl => ?_)
  refine lv_aload_n hx hb dL_law_2371 rfl (lv_at hl 4 rfl) ?_
  refine z_callV (As := []) (rest := []) ⟨hx, hb, hml, hown, hts⟩ hw hX (hm9.1.1 0 (by decide)) rfl (c_X2_thrown l g am L1 f2 (o_signAt σ (xs (Int32.toNatClampNeg (i + 1))) (xs (Int32.toNatClampNeg (i + 2)))).2.2 bs9 (o_signAt σ (xs (Int32.toNatClampNeg (i + 1))) (xs (Int32.toNatClampNeg (i + 2)))).1 hm9.rf) (cwV 0 hts gL_law_X2_thrown rfl rfl rfl (by decide +kernel) ⟨Nat.le_trans (Nat.le_of_ble_eq_true rfl) hRf, Nat.le_trans (Nat.le_of_ble_eq_true rfl) hRl⟩) rfl hl.1 rfl (Nat.le_of_ble_eq_true rfl) dL_law_2372 ⟨by omega, by omega⟩ (fun _ _ _ _ _ _ _ hp => False.elim hp) (fun r9 L3 f3 H locs hp hw => ?_)
  obtain ⟨rfl, rfl, rfl⟩ := hp
  refine W.eq (g2 := F0 m 2375 ls [.int (o_signAt σ (xs (Int32.toNatClampNeg (i + 1))) (xs (Int32.toNatClampNeg (i + 2)))).1]) rfl ?_
  refine lv_iload hx hb dL_law_2375 (lv_at hl 1 rfl) ?_
  refine lv_icmp_eq (tgt := 2382) hx hb dL_law_2377 (by decide) (fun _ => ?_) (fun c => absurd rfl c)
  refine lv_iload hx hb dL_law_2382 (lv_at hl 1 rfl) ?_
  refine lv_if_ne (tgt := 2399) hx hb dL_law_2384 (by decide) (fun c_1 => ?_) (fun c_1 => ?_)
  · refine lv_goto (tgt := 2828) hx hb dL_law_2399 (by decide) ?_
    refine W.widen (k := cells + 60) (n := slots + 1000) (by omega) (by omega) ?_
    have hl := lv_sub hl (l' := [(0, .ref b), (1, .ref h), (2, .ref (am 0)), (3, .ref o1), (4, .ref o2), (5, .int i)]) [2, 3, 4, 5, 6, 7] rfl
    exact hback _ _ _ _ _ _ ⟨_, _, _, _, hH2, hm9.1, ho1, ho2⟩ hw hl
  · refine lv_aload_n hx hb dL_law_2387 rfl (lv_at hl 5 rfl) ?_
    refine lv_iconst (v := 0) hx hb dL_law_2388 (by decide) ?_
    refine zr_lald hx hb hw ho1 (vp_in_iff.mpr (by decide)) dL_law_2389 ?_
    refine lv_iload hx hb dL_law_2390 (lv_at hl 0 rfl) ?_
    refine lv_i2l (v := b9.toInt64) hx hb dL_law_2392 rfl ?_
    refine W.lcmp hx hb dL_law_2393 ?_
    have hq_2 : (lg_cmp (F1 (Int32.toNatClampNeg 0)) b9.toInt64) = 0 := zcmp0.mpr (by rw [hb9 c_1]; exact hv1 c_1)
    refine lv_if_eq (tgt := 2399) hx hb dL_law_2394 (by decide) (fun c_3 => ?_) (fun c_3 => absurd hq_2 c_3)
    refine lv_goto (tgt := 2828) hx hb dL_law_2399 (by decide) ?_
    refine W.widen (k := cells + 60) (n := slots + 1000) (by omega) (by omega) ?_
    have hl := lv_sub hl (l' := [(0, .ref b), (1, .ref h), (2, .ref (am 0)), (3, .ref o1), (4, .ref o2), (5, .int i)]) [2, 3, 4, 5, 6, 7] rfl
    exact hback _ _ _ _ _ _ ⟨_, _, _, _, hH2, hm9.1, ho1, ho2⟩ hw hl

set_option maxRecDepth 100000 in
set_option maxHeartbeats 4000000 in
theorem k_law_31 {p : Program} {l : Launch} {e : Env} {R : Room} {s : State} {m : MethodId} {args : Array Value} {below : List Frame} {meth : Method} {c : Code} {H : Heap} {locs : List Loc} {cells slots : Nat} {Q : State → Prop} {ls : Array Slot} {g : zG} {A : Nat → Prop} {L : List Nat} {f : Nat → va_E} {am : Nat → Nat} {h o1 o2 b N : Nat} {σ : ZS} {xs : Nat → Int32} {i : Int32}
    (hx : p.tables.exec = Jvm.exec) (hb : c.code = cL_law) (hml : c.maxLocals = 9) (hown : s.vm.findClass RL = some m.cls) (hts : ∀ w ∈ wsL_law, w.before args s = true) (hl0 : l.stackTraces = false) (hw : zW g A s L f H locs) (hX : zX A s s.heap) (hXs : va_X b N xs s s.heap) (hbl : b < s.heap.size) (hbA : ¬ A b) (hRf : 20 ≤ R.frames) (hRl : 1000 ≤ R.locals) (hRc : cells + 60 ≤ R.cells) (hRs : slots + 1000 ≤ R.slots) (hJ : zLw g h am o1 o2 σ L f) (hix : ∀ j : Nat, j < 7 → vp_in (i + nI j) N) (hl : lv_has ls 9 [(0, .ref b), (1, .ref h), (2, .ref (am 0)), (3, .ref o1), (4, .ref o2), (5, .int i)])
    (hback : ∀ (σ1 : ZS) (L1 : List Nat) (f1 : Nat → va_E) (H1 : Heap) (locs1 : List Loc) (ls1 : Array Slot), zLw g h am o1 o2 σ1 L1 f1 → zW g A s L1 f1 H1 locs1 → lv_has ls1 9 [(0, .ref b), (1, .ref h), (2, .ref (am 0)), (3, .ref o1), (4, .ref o2), (5, .int i)] → W p l e R s m args below meth c H1 locs1 (cells + 60) (slots + 1000) Q (F0 m 2828 ls1 [])) : W p l e R s m args below meth c H locs cells slots Q (F0 m 2402 ls []) := by
  obtain ⟨bs, th, F, D, hH, hE, h10, h20⟩ := hJ
  obtain ⟨ln, kd, hI⟩ := zHC_I hH
  obtain ⟨fs9, hcb⟩ := zHC_obj hH
  have hn1 := zMe_ne1 hE h10
  have hn2 := zMe_ne2 hE h20
  have hn12 := zo_ne h10 h20
  refine lv_aload_n hx hb dL_law_2402 rfl (lv_at hl 1 rfl) ?_
  refine lv_aload_n hx hb dL_law_2403 rfl (lv_at hl 0 rfl) ?_
  refine lv_iload hx hb dL_law_2404 (lv_at hl 5 rfl) ?_
  refine lv_iconst (v := 1) hx hb dL_law_2406 (by decide) ?_
  refine lv_iadd hx hb dL_law_2407 ?_
  refine va_sld hx hb hXs hbl hbA hw.2.2.2.1 (hix 1 (by decide)) dL_law_2408 ?_
  refine lv_aload_n hx hb dL_law_2409 rfl (lv_at hl 3 rfl) ?_
  refine z_callSX (As := [.ref h, .int (xs (Int32.toNatClampNeg (i + 1))), .ref o1]) (rest := []) ⟨hx, hb, hml, hown, hts⟩ hw hX (c_L_signsLeft l hl0 g L f h (zPm am o1 o2) σ (xs (Int32.toNatClampNeg (i + 1))) o1 F hH h10 zPm_1) (vx_cwSW 3 hts gL_law_L_signsLeft rfl rfl rfl (by decide +kernel) ⟨Nat.le_trans (Nat.le_of_ble_eq_true rfl) hRf, Nat.le_trans (Nat.le_of_ble_eq_true rfl) hRl⟩) rfl hl.1 rfl (Nat.le_of_ble_eq_true rfl) dL_law_2410 ⟨by omega, by omega⟩ (fun _ _ _ _ _ _ _ hp => False.elim hp) (fun r9 L1 f1 H locs hp hw => ?_)
  obtain ⟨rfl, hH1, ⟨F1, hF1, hv1⟩, hfr1⟩ := hp
  have hE1 := zMe_kept hE hH1 (fun k hk => hfr1 _ (zPm_m hk) (hn1 k hk))
  refine W.eq (g2 := F0 m 2413 ls [.int (o_signsLeft σ (xs (Int32.toNatClampNeg (i + 1)))).1]) rfl ?_
  refine lv_istore (lv' := [(6, .int (o_signsLeft σ (xs (Int32.toNatClampNeg (i + 1)))).1), (0, .ref b), (1, .ref h), (2, .ref (am 0)), (3, .ref o1), (4, .ref o2), (5, .int i)]) hx hb dL_law_2413 hl (by decide) rfl (fun ls hl => ?_)
  refine lv_aload_n hx hb dL_law_2415 rfl (lv_at hl 3 rfl) ?_
  refine lv_aload_n hx hb dL_law_2416 rfl (lv_at hl 1 rfl) ?_
  refine lv_iload hx hb dL_law_2417 (lv_at hl 6 rfl) ?_
  refine lv_iconst (v := 1) hx hb dL_law_2419 (by decide) ?_
  refine lv_iadd hx hb dL_law_2420 ?_
  refine va_sld hx hb hXs hbl hbA hw.2.2.2.1 (hix 1 (by decide)) dL_law_2421 ?_
  refine z_callV (As := [.int (xs (Int32.toNatClampNeg (i + 1)))]) (rest := []) ⟨hx, hb, hml, hown, hts⟩ hw hX (hE1.1 0 (by decide)) rfl (c_X2_signsLeft l g am L1 f1 σ bs th (xs (Int32.toNatClampNeg (i + 1))) ⟨hE1, fun _ _ => rfl⟩ hI) (cwV 1 hts gL_law_X2_signsLeft rfl rfl rfl (by decide +kernel) ⟨Nat.le_trans (Nat.le_of_ble_eq_true rfl) hRf, Nat.le_trans (Nat.le_of_ble_eq_true rfl) hRl⟩) rfl hl.1 rfl (Nat.le_of_ble_eq_true rfl) dL_law_2422 ⟨by omega, by omega⟩ (fun _ _ _ _ _ _ _ hp => False.elim hp) (fun r9 L2 f2 H locs hp hw => ?_)
  obtain ⟨rfl, b9, bs9, rfl, hm9, hb9⟩ := hp
  have ho1 : zc L1 f2 o1 (.inl (g.2 1, 1, .inr (.inl F1))) := ⟨zHC_in hH1 zPm_1, (hm9.2 _ (fun k hk e => hn1 k hk e.symm)).trans hF1⟩
  have ho2 : zc L1 f2 o2 (.inl (g.2 3, 1, .inr (.inr (.inr (.inl D))))) := ⟨zHC_in hH1 zPm_2, (hm9.2 _ (fun k hk e => hn2 k hk e.symm)).trans ((hfr1 _ zPm_2 (Ne.symm hn12)).trans h20.2)⟩
  have hH2 := zHC_mod hH1 hm9.2
  refine W.eq (g2 := F0 m 2425 ls [.int b9]) rfl ?_
  refine lv_istore (lv' := [(7, .int b9), (6, .int (o_signsLeft σ (xs (Int32.toNatClampNeg (i + 1)))).1), (0, .ref b), (1, .ref h), (2, .ref (am 0)), (3, .ref o1), (4, .ref o2), (5, .int i)]) hx hb dL_law_2425 hl (by decide) rfl (fun ls hl => ?_)
  refine lv_aload_n hx hb dL_law_2427 rfl (lv_at hl 4 rfl) ?_
  refine z_callV (As := []) (rest := []) ⟨hx, hb, hml, hown, hts⟩ hw hX (hm9.1.1 0 (by decide)) rfl (c_X2_thrown l g am L1 f2 (o_signsLeft σ (xs (Int32.toNatClampNeg (i + 1)))).2.2 bs9 (o_signsLeft σ (xs (Int32.toNatClampNeg (i + 1)))).1 hm9.rf) (cwV 0 hts gL_law_X2_thrown rfl rfl rfl (by decide +kernel) ⟨Nat.le_trans (Nat.le_of_ble_eq_true rfl) hRf, Nat.le_trans (Nat.le_of_ble_eq_true rfl) hRl⟩) rfl hl.1 rfl (Nat.le_of_ble_eq_true rfl) dL_law_2428 ⟨by omega, by omega⟩ (fun _ _ _ _ _ _ _ hp => False.elim hp) (fun r9 L3 f3 H locs hp hw => ?_)
  obtain ⟨rfl, rfl, rfl⟩ := hp
  refine W.eq (g2 := F0 m 2431 ls [.int (o_signsLeft σ (xs (Int32.toNatClampNeg (i + 1)))).1]) rfl ?_
  refine lv_iload hx hb dL_law_2431 (lv_at hl 1 rfl) ?_
  refine lv_icmp_eq (tgt := 2438) hx hb dL_law_2433 (by decide) (fun _ => ?_) (fun c => absurd rfl c)
  refine lv_iload hx hb dL_law_2438 (lv_at hl 1 rfl) ?_
  refine lv_if_ne (tgt := 2455) hx hb dL_law_2440 (by decide) (fun c_1 => ?_) (fun c_1 => ?_)
  · refine lv_goto (tgt := 2828) hx hb dL_law_2455 (by decide) ?_
    refine W.widen (k := cells + 60) (n := slots + 1000) (by omega) (by omega) ?_
    have hl := lv_sub hl (l' := [(0, .ref b), (1, .ref h), (2, .ref (am 0)), (3, .ref o1), (4, .ref o2), (5, .int i)]) [2, 3, 4, 5, 6, 7] rfl
    exact hback _ _ _ _ _ _ ⟨_, _, _, _, hH2, hm9.1, ho1, ho2⟩ hw hl
  · refine lv_aload_n hx hb dL_law_2443 rfl (lv_at hl 5 rfl) ?_
    refine lv_iconst (v := 0) hx hb dL_law_2444 (by decide) ?_
    refine zr_lald hx hb hw ho1 (vp_in_iff.mpr (by decide)) dL_law_2445 ?_
    refine lv_iload hx hb dL_law_2446 (lv_at hl 0 rfl) ?_
    refine lv_i2l (v := b9.toInt64) hx hb dL_law_2448 rfl ?_
    refine W.lcmp hx hb dL_law_2449 ?_
    have hq_2 : (lg_cmp (F1 (Int32.toNatClampNeg 0)) b9.toInt64) = 0 := zcmp0.mpr (by rw [hb9 c_1]; exact hv1 c_1)
    refine lv_if_eq (tgt := 2455) hx hb dL_law_2450 (by decide) (fun c_3 => ?_) (fun c_3 => absurd hq_2 c_3)
    refine lv_goto (tgt := 2828) hx hb dL_law_2455 (by decide) ?_
    refine W.widen (k := cells + 60) (n := slots + 1000) (by omega) (by omega) ?_
    have hl := lv_sub hl (l' := [(0, .ref b), (1, .ref h), (2, .ref (am 0)), (3, .ref o1), (4, .ref o2), (5, .int i)]) [2, 3, 4, 5, 6, 7] rfl
    exact hback _ _ _ _ _ _ ⟨_, _, _, _, hH2, hm9.1, ho1, ho2⟩ hw hl

set_option maxRecDepth 100000 in
set_option maxHeartbeats 4000000 in
theorem k_law_32 {p : Program} {l : Launch} {e : Env} {R : Room} {s : State} {m : MethodId} {args : Array Value} {below : List Frame} {meth : Method} {c : Code} {H : Heap} {locs : List Loc} {cells slots : Nat} {Q : State → Prop} {ls : Array Slot} {g : zG} {A : Nat → Prop} {L : List Nat} {f : Nat → va_E} {am : Nat → Nat} {h o1 o2 b N : Nat} {σ : ZS} {xs : Nat → Int32} {i : Int32}
    (hx : p.tables.exec = Jvm.exec) (hb : c.code = cL_law) (hml : c.maxLocals = 9) (hown : s.vm.findClass RL = some m.cls) (hts : ∀ w ∈ wsL_law, w.before args s = true) (hl0 : l.stackTraces = false) (hw : zW g A s L f H locs) (hX : zX A s s.heap) (hXs : va_X b N xs s s.heap) (hbl : b < s.heap.size) (hbA : ¬ A b) (hRf : 20 ≤ R.frames) (hRl : 1000 ≤ R.locals) (hRc : cells + 60 ≤ R.cells) (hRs : slots + 1000 ≤ R.slots) (hJ : zLw g h am o1 o2 σ L f) (hix : ∀ j : Nat, j < 7 → vp_in (i + nI j) N) (hl : lv_has ls 9 [(0, .ref b), (1, .ref h), (2, .ref (am 0)), (3, .ref o1), (4, .ref o2), (5, .int i)])
    (hback : ∀ (σ1 : ZS) (L1 : List Nat) (f1 : Nat → va_E) (H1 : Heap) (locs1 : List Loc) (ls1 : Array Slot), zLw g h am o1 o2 σ1 L1 f1 → zW g A s L1 f1 H1 locs1 → lv_has ls1 9 [(0, .ref b), (1, .ref h), (2, .ref (am 0)), (3, .ref o1), (4, .ref o2), (5, .int i)] → W p l e R s m args below meth c H1 locs1 (cells + 60) (slots + 1000) Q (F0 m 2828 ls1 [])) : W p l e R s m args below meth c H locs cells slots Q (F0 m 2458 ls []) := by
  obtain ⟨bs, th, F, D, hH, hE, h10, h20⟩ := hJ
  obtain ⟨ln, kd, hI⟩ := zHC_I hH
  obtain ⟨fs9, hcb⟩ := zHC_obj hH
  have hn1 := zMe_ne1 hE h10
  have hn2 := zMe_ne2 hE h20
  have hn12 := zo_ne h10 h20
  refine lv_aload_n hx hb dL_law_2458 rfl (lv_at hl 1 rfl) ?_
  refine lv_aload_n hx hb dL_law_2459 rfl (lv_at hl 0 rfl) ?_
  refine lv_iload hx hb dL_law_2460 (lv_at hl 5 rfl) ?_
  refine lv_iconst (v := 1) hx hb dL_law_2462 (by decide) ?_
  refine lv_iadd hx hb dL_law_2463 ?_
  refine va_sld hx hb hXs hbl hbA hw.2.2.2.1 (hix 1 (by decide)) dL_law_2464 ?_
  refine lv_aload_n hx hb dL_law_2465 rfl (lv_at hl 0 rfl) ?_
  refine lv_iload hx hb dL_law_2466 (lv_at hl 5 rfl) ?_
  refine lv_iconst (v := 2) hx hb dL_law_2468 (by decide) ?_
  refine lv_iadd hx hb dL_law_2469 ?_
  refine va_sld hx hb hXs hbl hbA hw.2.2.2.1 (hix 2 (by decide)) dL_law_2470 ?_
  refine lv_i2c (v := ((xs (Int32.toNatClampNeg (i + 2))).toUInt32 % 65536).toInt32) hx hb dL_law_2471 rfl ?_
  refine lv_aload_n hx hb dL_law_2472 rfl (lv_at hl 3 rfl) ?_
  refine z_callSX (As := [.ref h, .int (xs (Int32.toNatClampNeg (i + 1))), .int ((xs (Int32.toNatClampNeg (i + 2))).toUInt32 % 65536).toInt32, .ref o1]) (rest := []) ⟨hx, hb, hml, hown, hts⟩ hw hX (c_L_append l hl0 g L f h (zPm am o1 o2) σ (xs (Int32.toNatClampNeg (i + 1))) (((xs (Int32.toNatClampNeg (i + 2))).toUInt32 % 65536).toInt32) o1 F hH h10 zPm_1) (vx_cwSW 4 hts gL_law_L_append rfl rfl rfl (by decide +kernel) ⟨Nat.le_trans (Nat.le_of_ble_eq_true rfl) hRf, Nat.le_trans (Nat.le_of_ble_eq_true rfl) hRl⟩) rfl hl.1 rfl (Nat.le_of_ble_eq_true rfl) dL_law_2473 ⟨by omega, by omega⟩ (fun _ _ _ _ _ _ _ hp => False.elim hp) (fun r9 L1 f1 H locs hp hw => ?_)
  obtain ⟨rfl, hH1, ⟨F1, hF1, hv1⟩, hfr1⟩ := hp
  have hE1 := zMe_kept hE hH1 (fun k hk => hfr1 _ (zPm_m hk) (hn1 k hk))
  refine W.eq (g2 := F0 m 2476 ls [.int (o_append σ (xs (Int32.toNatClampNeg (i + 1))) (((xs (Int32.toNatClampNeg (i + 2))).toUInt32 % 65536).toInt32)).1]) rfl ?_
  refine lv_istore (lv' := [(6, .int (o_append σ (xs (Int32.toNatClampNeg (i + 1))) (((xs (Int32.toNatClampNeg (i + 2))).toUInt32 % 65536).toInt32)).1), (0, .ref b), (1, .ref h), (2, .ref (am 0)), (3, .ref o1), (4, .ref o2), (5, .int i)]) hx hb dL_law_2476 hl (by decide) rfl (fun ls hl => ?_)
  refine lv_aload_n hx hb dL_law_2478 rfl (lv_at hl 3 rfl) ?_
  refine lv_aload_n hx hb dL_law_2479 rfl (lv_at hl 1 rfl) ?_
  refine lv_iload hx hb dL_law_2480 (lv_at hl 6 rfl) ?_
  refine lv_iconst (v := 1) hx hb dL_law_2482 (by decide) ?_
  refine lv_iadd hx hb dL_law_2483 ?_
  refine va_sld hx hb hXs hbl hbA hw.2.2.2.1 (hix 1 (by decide)) dL_law_2484 ?_
  refine lv_aload_n hx hb dL_law_2485 rfl (lv_at hl 1 rfl) ?_
  refine lv_iload hx hb dL_law_2486 (lv_at hl 6 rfl) ?_
  refine lv_iconst (v := 2) hx hb dL_law_2488 (by decide) ?_
  refine lv_iadd hx hb dL_law_2489 ?_
  refine va_sld hx hb hXs hbl hbA hw.2.2.2.1 (hix 2 (by decide)) dL_law_2490 ?_
  refine lv_i2c (v := ((xs (Int32.toNatClampNeg (i + 2))).toUInt32 % 65536).toInt32) hx hb dL_law_2491 rfl ?_
  refine z_callV (As := [.int (xs (Int32.toNatClampNeg (i + 1))), .int ((xs (Int32.toNatClampNeg (i + 2))).toUInt32 % 65536).toInt32]) (rest := []) ⟨hx, hb, hml, hown, hts⟩ hw hX (hE1.1 0 (by decide)) rfl (c_X2_append l g am L1 f1 σ bs th (xs (Int32.toNatClampNeg (i + 1))) (((xs (Int32.toNatClampNeg (i + 2))).toUInt32 % 65536).toInt32) ⟨hE1, fun _ _ => rfl⟩ hI) (cwV 2 hts gL_law_X2_append rfl rfl rfl (by decide +kernel) ⟨Nat.le_trans (Nat.le_of_ble_eq_true rfl) hRf, Nat.le_trans (Nat.le_of_ble_eq_true rfl) hRl⟩) rfl hl.1 rfl (Nat.le_of_ble_eq_true rfl) dL_law_2492 ⟨by omega, by omega⟩ (fun _ _ _ _ _ _ _ hp => False.elim hp) (fun r9 L2 f2 H locs hp hw => ?_)
  obtain ⟨rfl, b9, bs9, rfl, hm9, hb9⟩ := hp
  have ho1 : zc L1 f2 o1 (.inl (g.2 1, 1, .inr (.inl F1))) := ⟨zHC_in hH1 zPm_1, (hm9.2 _ (fun k hk e => hn1 k hk e.symm)).trans hF1⟩
  have ho2 : zc L1 f2 o2 (.inl (g.2 3, 1, .inr (.inr (.inr (.inl D))))) := ⟨zHC_in hH1 zPm_2, (hm9.2 _ (fun k hk e => hn2 k hk e.symm)).trans ((hfr1 _ zPm_2 (Ne.symm hn12)).trans h20.2)⟩
  have hH2 := zHC_mod hH1 hm9.2
  refine W.eq (g2 := F0 m 2495 ls [.int b9]) rfl ?_
  refine lv_istore (lv' := [(7, .int b9), (6, .int (o_append σ (xs (Int32.toNatClampNeg (i + 1))) (((xs (Int32.toNatClampNeg (i + 2))).toUInt32 % 65536).toInt32)).1), (0, .ref b), (1, .ref h), (2, .ref (am 0)), (3, .ref o1), (4, .ref o2), (5, .int i)]) hx hb dL_law_2495 hl (by decide) rfl (fun ls hl => ?_)
  refine lv_aload_n hx hb dL_law_2497 rfl (lv_at hl 4 rfl) ?_
  refine z_callV (As := []) (rest := []) ⟨hx, hb, hml, hown, hts⟩ hw hX (hm9.1.1 0 (by decide)) rfl (c_X2_thrown l g am L1 f2 (o_append σ (xs (Int32.toNatClampNeg (i + 1))) (((xs (Int32.toNatClampNeg (i + 2))).toUInt32 % 65536).toInt32)).2.2 bs9 (o_append σ (xs (Int32.toNatClampNeg (i + 1))) (((xs (Int32.toNatClampNeg (i + 2))).toUInt32 % 65536).toInt32)).1 hm9.rf) (cwV 0 hts gL_law_X2_thrown rfl rfl rfl (by decide +kernel) ⟨Nat.le_trans (Nat.le_of_ble_eq_true rfl) hRf, Nat.le_trans (Nat.le_of_ble_eq_true rfl) hRl⟩) rfl hl.1 rfl (Nat.le_of_ble_eq_true rfl) dL_law_2498 ⟨by omega, by omega⟩ (fun _ _ _ _ _ _ _ hp => False.elim hp) (fun r9 L3 f3 H locs hp hw => ?_)
  obtain ⟨rfl, rfl, rfl⟩ := hp
  refine W.eq (g2 := F0 m 2501 ls [.int (o_append σ (xs (Int32.toNatClampNeg (i + 1))) (((xs (Int32.toNatClampNeg (i + 2))).toUInt32 % 65536).toInt32)).1]) rfl ?_
  refine lv_iload hx hb dL_law_2501 (lv_at hl 1 rfl) ?_
  refine lv_icmp_eq (tgt := 2508) hx hb dL_law_2503 (by decide) (fun _ => ?_) (fun c => absurd rfl c)
  refine lv_iload hx hb dL_law_2508 (lv_at hl 1 rfl) ?_
  refine lv_if_ne (tgt := 2525) hx hb dL_law_2510 (by decide) (fun c_1 => ?_) (fun c_1 => ?_)
  · refine lv_goto (tgt := 2828) hx hb dL_law_2525 (by decide) ?_
    refine W.widen (k := cells + 60) (n := slots + 1000) (by omega) (by omega) ?_
    have hl := lv_sub hl (l' := [(0, .ref b), (1, .ref h), (2, .ref (am 0)), (3, .ref o1), (4, .ref o2), (5, .int i)]) [2, 3, 4, 5, 6, 7] rfl
    exact hback _ _ _ _ _ _ ⟨_, _, _, _, hH2, hm9.1, ho1, ho2⟩ hw hl
  · refine lv_aload_n hx hb dL_law_2513 rfl (lv_at hl 5 rfl) ?_
    refine lv_iconst (v := 0) hx hb dL_law_2514 (by decide) ?_
    refine zr_lald hx hb hw ho1 (vp_in_iff.mpr (by decide)) dL_law_2515 ?_
    refine lv_iload hx hb dL_law_2516 (lv_at hl 0 rfl) ?_
    refine lv_i2l (v := b9.toInt64) hx hb dL_law_2518 rfl ?_
    refine W.lcmp hx hb dL_law_2519 ?_
    have hq_2 : (lg_cmp (F1 (Int32.toNatClampNeg 0)) b9.toInt64) = 0 := zcmp0.mpr (by rw [hb9 c_1]; exact hv1 c_1)
    refine lv_if_eq (tgt := 2525) hx hb dL_law_2520 (by decide) (fun c_3 => ?_) (fun c_3 => absurd hq_2 c_3)
    refine lv_goto (tgt := 2828) hx hb dL_law_2525 (by decide) ?_
    refine W.widen (k := cells + 60) (n := slots + 1000) (by omega) (by omega) ?_
    have hl := lv_sub hl (l' := [(0, .ref b), (1, .ref h), (2, .ref (am 0)), (3, .ref o1), (4, .ref o2), (5, .int i)]) [2, 3, 4, 5, 6, 7] rfl
    exact hback _ _ _ _ _ _ ⟨_, _, _, _, hH2, hm9.1, ho1, ho2⟩ hw hl

set_option maxRecDepth 100000 in
set_option maxHeartbeats 4000000 in
theorem k_law_33 {p : Program} {l : Launch} {e : Env} {R : Room} {s : State} {m : MethodId} {args : Array Value} {below : List Frame} {meth : Method} {c : Code} {H : Heap} {locs : List Loc} {cells slots : Nat} {Q : State → Prop} {ls : Array Slot} {g : zG} {A : Nat → Prop} {L : List Nat} {f : Nat → va_E} {am : Nat → Nat} {h o1 o2 b N : Nat} {σ : ZS} {xs : Nat → Int32} {i : Int32}
    (hx : p.tables.exec = Jvm.exec) (hb : c.code = cL_law) (hml : c.maxLocals = 9) (hown : s.vm.findClass RL = some m.cls) (hts : ∀ w ∈ wsL_law, w.before args s = true) (hl0 : l.stackTraces = false) (hw : zW g A s L f H locs) (hX : zX A s s.heap) (hXs : va_X b N xs s s.heap) (hbl : b < s.heap.size) (hbA : ¬ A b) (hRf : 20 ≤ R.frames) (hRl : 1000 ≤ R.locals) (hRc : cells + 60 ≤ R.cells) (hRs : slots + 1000 ≤ R.slots) (hJ : zLw g h am o1 o2 σ L f) (hix : ∀ j : Nat, j < 7 → vp_in (i + nI j) N) (hl : lv_has ls 9 [(0, .ref b), (1, .ref h), (2, .ref (am 0)), (3, .ref o1), (4, .ref o2), (5, .int i)])
    (hback : ∀ (σ1 : ZS) (L1 : List Nat) (f1 : Nat → va_E) (H1 : Heap) (locs1 : List Loc) (ls1 : Array Slot), zLw g h am o1 o2 σ1 L1 f1 → zW g A s L1 f1 H1 locs1 → lv_has ls1 9 [(0, .ref b), (1, .ref h), (2, .ref (am 0)), (3, .ref o1), (4, .ref o2), (5, .int i)] → W p l e R s m args below meth c H1 locs1 (cells + 60) (slots + 1000) Q (F0 m 2828 ls1 [])) : W p l e R s m args below meth c H locs cells slots Q (F0 m 2528 ls []) := by
  obtain ⟨bs, th, F, D, hH, hE, h10, h20⟩ := hJ
  obtain ⟨ln, kd, hI⟩ := zHC_I hH
  obtain ⟨fs9, hcb⟩ := zHC_obj hH
  have hn1 := zMe_ne1 hE h10
  have hn2 := zMe_ne2 hE h20
  have hn12 := zo_ne h10 h20
  refine lv_aload_n hx hb dL_law_2528 rfl (lv_at hl 1 rfl) ?_
  refine lv_aload_n hx hb dL_law_2529 rfl (lv_at hl 0 rfl) ?_
  refine lv_iload hx hb dL_law_2530 (lv_at hl 5 rfl) ?_
  refine lv_iconst (v := 1) hx hb dL_law_2532 (by decide) ?_
  refine lv_iadd hx hb dL_law_2533 ?_
  refine va_sld hx hb hXs hbl hbA hw.2.2.2.1 (hix 1 (by decide)) dL_law_2534 ?_
  refine lv_aload_n hx hb dL_law_2535 rfl (lv_at hl 3 rfl) ?_
  refine z_callSX (As := [.ref h, .int (xs (Int32.toNatClampNeg (i + 1))), .ref o1]) (rest := []) ⟨hx, hb, hml, hown, hts⟩ hw hX (c_L_text l hl0 g L f h (zPm am o1 o2) σ (xs (Int32.toNatClampNeg (i + 1))) o1 F hH h10 zPm_1) (vx_cwSW 3 hts gL_law_L_text rfl rfl rfl (by decide +kernel) ⟨Nat.le_trans (Nat.le_of_ble_eq_true rfl) hRf, Nat.le_trans (Nat.le_of_ble_eq_true rfl) hRl⟩) rfl hl.1 rfl (Nat.le_of_ble_eq_true rfl) dL_law_2536 ⟨by omega, by omega⟩ (fun _ _ _ _ _ _ _ hp => False.elim hp) (fun r9 L1 f1 H locs hp hw => ?_)
  obtain ⟨rfl, hH1, ⟨F1, hF1, hv1⟩, hfr1⟩ := hp
  have hE1 := zMe_kept hE hH1 (fun k hk => hfr1 _ (zPm_m hk) (hn1 k hk))
  refine W.eq (g2 := F0 m 2539 ls [.int (o_text σ (xs (Int32.toNatClampNeg (i + 1)))).1]) rfl ?_
  refine lv_istore (lv' := [(6, .int (o_text σ (xs (Int32.toNatClampNeg (i + 1)))).1), (0, .ref b), (1, .ref h), (2, .ref (am 0)), (3, .ref o1), (4, .ref o2), (5, .int i)]) hx hb dL_law_2539 hl (by decide) rfl (fun ls hl => ?_)
  refine lv_aload_n hx hb dL_law_2541 rfl (lv_at hl 3 rfl) ?_
  refine lv_aload_n hx hb dL_law_2542 rfl (lv_at hl 1 rfl) ?_
  refine lv_iload hx hb dL_law_2543 (lv_at hl 6 rfl) ?_
  refine lv_iconst (v := 1) hx hb dL_law_2545 (by decide) ?_
  refine lv_iadd hx hb dL_law_2546 ?_
  refine va_sld hx hb hXs hbl hbA hw.2.2.2.1 (hix 1 (by decide)) dL_law_2547 ?_
  refine z_callV (As := [.int (xs (Int32.toNatClampNeg (i + 1)))]) (rest := []) ⟨hx, hb, hml, hown, hts⟩ hw hX (hE1.1 0 (by decide)) rfl (c_X2_text l g am L1 f1 σ bs th (xs (Int32.toNatClampNeg (i + 1))) ⟨hE1, fun _ _ => rfl⟩ hI) (cwV 1 hts gL_law_X2_text rfl rfl rfl (by decide +kernel) ⟨Nat.le_trans (Nat.le_of_ble_eq_true rfl) hRf, Nat.le_trans (Nat.le_of_ble_eq_true rfl) hRl⟩) rfl hl.1 rfl (Nat.le_of_ble_eq_true rfl) dL_law_2548 ⟨by omega, by omega⟩ (fun _ _ _ _ _ _ _ hp => False.elim hp) (fun r9 L2 f2 H locs hp hw => ?_)
  obtain ⟨rfl, b9, bs9, rfl, hm9, hb9⟩ := hp
  have ho1 : zc L1 f2 o1 (.inl (g.2 1, 1, .inr (.inl F1))) := ⟨zHC_in hH1 zPm_1, (hm9.2 _ (fun k hk e => hn1 k hk e.symm)).trans hF1⟩
  have ho2 : zc L1 f2 o2 (.inl (g.2 3, 1, .inr (.inr (.inr (.inl D))))) := ⟨zHC_in hH1 zPm_2, (hm9.2 _ (fun k hk e => hn2 k hk e.symm)).trans ((hfr1 _ zPm_2 (Ne.symm hn12)).trans h20.2)⟩
  have hH2 := zHC_mod hH1 hm9.2
  refine W.eq (g2 := F0 m 2551 ls [.long b9]) rfl ?_
  refine lv_lstore (lv' := [(7, .long b9), (6, .int (o_text σ (xs (Int32.toNatClampNeg (i + 1)))).1), (0, .ref b), (1, .ref h), (2, .ref (am 0)), (3, .ref o1), (4, .ref o2), (5, .int i)]) hx hb dL_law_2551 hl (by decide) rfl (fun ls hl => ?_)
  refine lv_aload_n hx hb dL_law_2553 rfl (lv_at hl 4 rfl) ?_
  refine z_callV (As := []) (rest := []) ⟨hx, hb, hml, hown, hts⟩ hw hX (hm9.1.1 0 (by decide)) rfl (c_X2_thrown l g am L1 f2 (o_text σ (xs (Int32.toNatClampNeg (i + 1)))).2.2 bs9 (o_text σ (xs (Int32.toNatClampNeg (i + 1)))).1 hm9.rf) (cwV 0 hts gL_law_X2_thrown rfl rfl rfl (by decide +kernel) ⟨Nat.le_trans (Nat.le_of_ble_eq_true rfl) hRf, Nat.le_trans (Nat.le_of_ble_eq_true rfl) hRl⟩) rfl hl.1 rfl (Nat.le_of_ble_eq_true rfl) dL_law_2554 ⟨by omega, by omega⟩ (fun _ _ _ _ _ _ _ hp => False.elim hp) (fun r9 L3 f3 H locs hp hw => ?_)
  obtain ⟨rfl, rfl, rfl⟩ := hp
  refine W.eq (g2 := F0 m 2557 ls [.int (o_text σ (xs (Int32.toNatClampNeg (i + 1)))).1]) rfl ?_
  refine lv_iload hx hb dL_law_2557 (lv_at hl 1 rfl) ?_
  refine lv_icmp_eq (tgt := 2564) hx hb dL_law_2559 (by decide) (fun _ => ?_) (fun c => absurd rfl c)
  refine lv_iload hx hb dL_law_2564 (lv_at hl 1 rfl) ?_
  refine lv_if_ne (tgt := 2580) hx hb dL_law_2566 (by decide) (fun c_1 => ?_) (fun c_1 => ?_)
  · refine lv_goto (tgt := 2828) hx hb dL_law_2580 (by decide) ?_
    refine W.widen (k := cells + 60) (n := slots + 1000) (by omega) (by omega) ?_
    have hl := lv_sub hl (l' := [(0, .ref b), (1, .ref h), (2, .ref (am 0)), (3, .ref o1), (4, .ref o2), (5, .int i)]) [2, 3, 4, 5, 6, 7] rfl
    exact hback _ _ _ _ _ _ ⟨_, _, _, _, hH2, hm9.1, ho1, ho2⟩ hw hl
  · refine lv_aload_n hx hb dL_law_2569 rfl (lv_at hl 5 rfl) ?_
    refine lv_iconst (v := 0) hx hb dL_law_2570 (by decide) ?_
    refine zr_lald hx hb hw ho1 (vp_in_iff.mpr (by decide)) dL_law_2571 ?_
    refine lv_lload hx hb dL_law_2572 (lv_at hl 0 rfl) ?_
    refine W.lcmp hx hb dL_law_2574 ?_
    have hq_2 : (lg_cmp (F1 (Int32.toNatClampNeg 0)) b9) = 0 := zcmp0.mpr (by rw [hb9 c_1]; exact hv1 c_1)
    refine lv_if_eq (tgt := 2580) hx hb dL_law_2575 (by decide) (fun c_3 => ?_) (fun c_3 => absurd hq_2 c_3)
    refine lv_goto (tgt := 2828) hx hb dL_law_2580 (by decide) ?_
    refine W.widen (k := cells + 60) (n := slots + 1000) (by omega) (by omega) ?_
    have hl := lv_sub hl (l' := [(0, .ref b), (1, .ref h), (2, .ref (am 0)), (3, .ref o1), (4, .ref o2), (5, .int i)]) [2, 3, 4, 5, 6, 7] rfl
    exact hback _ _ _ _ _ _ ⟨_, _, _, _, hH2, hm9.1, ho1, ho2⟩ hw hl

set_option maxRecDepth 100000 in
set_option maxHeartbeats 4000000 in
theorem k_law_34 {p : Program} {l : Launch} {e : Env} {R : Room} {s : State} {m : MethodId} {args : Array Value} {below : List Frame} {meth : Method} {c : Code} {H : Heap} {locs : List Loc} {cells slots : Nat} {Q : State → Prop} {ls : Array Slot} {g : zG} {A : Nat → Prop} {L : List Nat} {f : Nat → va_E} {am : Nat → Nat} {h o1 o2 b N : Nat} {σ : ZS} {xs : Nat → Int32} {i : Int32}
    (hx : p.tables.exec = Jvm.exec) (hb : c.code = cL_law) (hml : c.maxLocals = 9) (hown : s.vm.findClass RL = some m.cls) (hts : ∀ w ∈ wsL_law, w.before args s = true) (hl0 : l.stackTraces = false) (hw : zW g A s L f H locs) (hX : zX A s s.heap) (hXs : va_X b N xs s s.heap) (hbl : b < s.heap.size) (hbA : ¬ A b) (hRf : 20 ≤ R.frames) (hRl : 1000 ≤ R.locals) (hRc : cells + 60 ≤ R.cells) (hRs : slots + 1000 ≤ R.slots) (hJ : zLw g h am o1 o2 σ L f) (hix : ∀ j : Nat, j < 7 → vp_in (i + nI j) N) (hl : lv_has ls 9 [(0, .ref b), (1, .ref h), (2, .ref (am 0)), (3, .ref o1), (4, .ref o2), (5, .int i)])
    (hback : ∀ (σ1 : ZS) (L1 : List Nat) (f1 : Nat → va_E) (H1 : Heap) (locs1 : List Loc) (ls1 : Array Slot), zLw g h am o1 o2 σ1 L1 f1 → zW g A s L1 f1 H1 locs1 → lv_has ls1 9 [(0, .ref b), (1, .ref h), (2, .ref (am 0)), (3, .ref o1), (4, .ref o2), (5, .int i)] → W p l e R s m args below meth c H1 locs1 (cells + 60) (slots + 1000) Q (F0 m 2828 ls1 [])) : W p l e R s m args below meth c H locs cells slots Q (F0 m 2583 ls []) := by
  obtain ⟨bs, th, F, D, hH, hE, h10, h20⟩ := hJ
  obtain ⟨ln, kd, hI⟩ := zHC_I hH
  obtain ⟨fs9, hcb⟩ := zHC_obj hH
  have hn1 := zMe_ne1 hE h10
  have hn2 := zMe_ne2 hE h20
  have hn12 := zo_ne h10 h20
  refine lv_aload_n hx hb dL_law_2583 rfl (lv_at hl 1 rfl) ?_
  refine lv_aload_n hx hb dL_law_2584 rfl (lv_at hl 0 rfl) ?_
  refine lv_iload hx hb dL_law_2585 (lv_at hl 5 rfl) ?_
  refine lv_iconst (v := 1) hx hb dL_law_2587 (by decide) ?_
  refine lv_iadd hx hb dL_law_2588 ?_
  refine va_sld hx hb hXs hbl hbA hw.2.2.2.1 (hix 1 (by decide)) dL_law_2589 ?_
  refine lv_aload_n hx hb dL_law_2590 rfl (lv_at hl 0 rfl) ?_
  refine lv_iload hx hb dL_law_2591 (lv_at hl 5 rfl) ?_
  refine lv_iconst (v := 2) hx hb dL_law_2593 (by decide) ?_
  refine lv_iadd hx hb dL_law_2594 ?_
  refine va_sld hx hb hXs hbl hbA hw.2.2.2.1 (hix 2 (by decide)) dL_law_2595 ?_
  refine lv_aload_n hx hb dL_law_2596 rfl (lv_at hl 3 rfl) ?_
  refine z_callSX (As := [.ref h, .int (xs (Int32.toNatClampNeg (i + 1))), .int (xs (Int32.toNatClampNeg (i + 2))), .ref o1]) (rest := []) ⟨hx, hb, hml, hown, hts⟩ hw hX (c_L_isAlike l hl0 g L f h (zPm am o1 o2) σ (xs (Int32.toNatClampNeg (i + 1))) (xs (Int32.toNatClampNeg (i + 2))) o1 F hH h10 zPm_1) (vx_cwSW 4 hts gL_law_L_isAlike rfl rfl rfl (by decide +kernel) ⟨Nat.le_trans (Nat.le_of_ble_eq_true rfl) hRf, Nat.le_trans (Nat.le_of_ble_eq_true rfl) hRl⟩) rfl hl.1 rfl (Nat.le_of_ble_eq_true rfl) dL_law_2597 ⟨by omega, by omega⟩ (fun _ _ _ _ _ _ _ hp => False.elim hp) (fun r9 L1 f1 H locs hp hw => ?_)
  obtain ⟨rfl, hH1, ⟨F1, hF1, hv1⟩, hfr1⟩ := hp
  have hE1 := zMe_kept hE hH1 (fun k hk => hfr1 _ (zPm_m hk) (hn1 k hk))
  refine W.eq (g2 := F0 m 2600 ls [.int (o_isAlike σ (xs (Int32.toNatClampNeg (i + 1))) (xs (Int32.toNatClampNeg (i + 2)))).1]) rfl ?_
  refine lv_istore (lv' := [(6, .int (o_isAlike σ (xs (Int32.toNatClampNeg (i + 1))) (xs (Int32.toNatClampNeg (i + 2)))).1), (0, .ref b), (1, .ref h), (2, .ref (am 0)), (3, .ref o1), (4, .ref o2), (5, .int i)]) hx hb dL_law_2600 hl (by decide) rfl (fun ls hl => ?_)
  refine lv_aload_n hx hb dL_law_2602 rfl (lv_at hl 3 rfl) ?_
  refine lv_aload_n hx hb dL_law_2603 rfl (lv_at hl 1 rfl) ?_
  refine lv_iload hx hb dL_law_2604 (lv_at hl 6 rfl) ?_
  refine lv_iconst (v := 1) hx hb dL_law_2606 (by decide) ?_
  refine lv_iadd hx hb dL_law_2607 ?_
  refine va_sld hx hb hXs hbl hbA hw.2.2.2.1 (hix 1 (by decide)) dL_law_2608 ?_
  refine lv_aload_n hx hb dL_law_2609 rfl (lv_at hl 1 rfl) ?_
  refine lv_iload hx hb dL_law_2610 (lv_at hl 6 rfl) ?_
  refine lv_iconst (v := 2) hx hb dL_law_2612 (by decide) ?_
  refine lv_iadd hx hb dL_law_2613 ?_
  refine va_sld hx hb hXs hbl hbA hw.2.2.2.1 (hix 2 (by decide)) dL_law_2614 ?_
  refine z_callV (As := [.int (xs (Int32.toNatClampNeg (i + 1))), .int (xs (Int32.toNatClampNeg (i + 2)))]) (rest := []) ⟨hx, hb, hml, hown, hts⟩ hw hX (hE1.1 0 (by decide)) rfl (c_X2_isAlike l g am L1 f1 σ bs th (xs (Int32.toNatClampNeg (i + 1))) (xs (Int32.toNatClampNeg (i + 2))) ⟨hE1, fun _ _ => rfl⟩ hI) (cwV 2 hts gL_law_X2_isAlike rfl rfl rfl (by decide +kernel) ⟨Nat.le_trans (Nat.le_of_ble_eq_true rfl) hRf, Nat.le_trans (Nat.le_of_ble_eq_true rfl) hRl⟩) rfl hl.1 rfl (Nat.le_of_ble_eq_true rfl) dL_law_2615 ⟨by omega, by omega⟩ (fun _ _ _ _ _ _ _ hp => False.elim hp) (fun r9 L2 f2 H locs hp hw => ?_)
  obtain ⟨rfl, b9, bs9, rfl, hm9, hb9⟩ := hp
  have ho1 : zc L1 f2 o1 (.inl (g.2 1, 1, .inr (.inl F1))) := ⟨zHC_in hH1 zPm_1, (hm9.2 _ (fun k hk e => hn1 k hk e.symm)).trans hF1⟩
  have ho2 : zc L1 f2 o2 (.inl (g.2 3, 1, .inr (.inr (.inr (.inl D))))) := ⟨zHC_in hH1 zPm_2, (hm9.2 _ (fun k hk e => hn2 k hk e.symm)).trans ((hfr1 _ zPm_2 (Ne.symm hn12)).trans h20.2)⟩
  have hH2 := zHC_mod hH1 hm9.2
  refine W.eq (g2 := F0 m 2618 ls [.int b9]) rfl ?_
  refine lv_istore (lv' := [(7, .int b9), (6, .int (o_isAlike σ (xs (Int32.toNatClampNeg (i + 1))) (xs (Int32.toNatClampNeg (i + 2)))).1), (0, .ref b), (1, .ref h), (2, .ref (am 0)), (3, .ref o1), (4, .ref o2), (5, .int i)]) hx hb dL_law_2618 hl (by decide) rfl (fun ls hl => ?_)
  refine lv_aload_n hx hb dL_law_2620 rfl (lv_at hl 4 rfl) ?_
  refine z_callV (As := []) (rest := []) ⟨hx, hb, hml, hown, hts⟩ hw hX (hm9.1.1 0 (by decide)) rfl (c_X2_thrown l g am L1 f2 (o_isAlike σ (xs (Int32.toNatClampNeg (i + 1))) (xs (Int32.toNatClampNeg (i + 2)))).2.2 bs9 (o_isAlike σ (xs (Int32.toNatClampNeg (i + 1))) (xs (Int32.toNatClampNeg (i + 2)))).1 hm9.rf) (cwV 0 hts gL_law_X2_thrown rfl rfl rfl (by decide +kernel) ⟨Nat.le_trans (Nat.le_of_ble_eq_true rfl) hRf, Nat.le_trans (Nat.le_of_ble_eq_true rfl) hRl⟩) rfl hl.1 rfl (Nat.le_of_ble_eq_true rfl) dL_law_2621 ⟨by omega, by omega⟩ (fun _ _ _ _ _ _ _ hp => False.elim hp) (fun r9 L3 f3 H locs hp hw => ?_)
  obtain ⟨rfl, rfl, rfl⟩ := hp
  refine W.eq (g2 := F0 m 2624 ls [.int (o_isAlike σ (xs (Int32.toNatClampNeg (i + 1))) (xs (Int32.toNatClampNeg (i + 2)))).1]) rfl ?_
  refine lv_iload hx hb dL_law_2624 (lv_at hl 1 rfl) ?_
  refine lv_icmp_eq (tgt := 2631) hx hb dL_law_2626 (by decide) (fun _ => ?_) (fun c => absurd rfl c)
  refine lv_iload hx hb dL_law_2631 (lv_at hl 1 rfl) ?_
  refine lv_if_ne (tgt := 2655) hx hb dL_law_2633 (by decide) (fun c_1 => ?_) (fun c_1 => ?_)
  · refine lv_goto (tgt := 2828) hx hb dL_law_2655 (by decide) ?_
    refine W.widen (k := cells + 60) (n := slots + 1000) (by omega) (by omega) ?_
    have hl := lv_sub hl (l' := [(0, .ref b), (1, .ref h), (2, .ref (am 0)), (3, .ref o1), (4, .ref o2), (5, .int i)]) [2, 3, 4, 5, 6, 7] rfl
    exact hback _ _ _ _ _ _ ⟨_, _, _, _, hH2, hm9.1, ho1, ho2⟩ hw hl
  · refine lv_aload_n hx hb dL_law_2636 rfl (lv_at hl 5 rfl) ?_
    refine lv_iconst (v := 0) hx hb dL_law_2637 (by decide) ?_
    refine zr_lald hx hb hw ho1 (vp_in_iff.mpr (by decide)) dL_law_2638 ?_
    refine lv_iload hx hb dL_law_2639 (lv_at hl 0 rfl) ?_
    refine lv_if_eq (tgt := 2648) hx hb dL_law_2641 (by decide) (fun c_2 => ?_) (fun c_2 => ?_)
    · refine lv_lconst (v := 0) hx hb dL_law_2648 (by decide) ?_
      refine W.lcmp hx hb dL_law_2649 ?_
      have hq_3 : (lg_cmp (F1 (Int32.toNatClampNeg 0)) 0) = 0 := zcmp0.mpr ((hv1 c_1).trans (if_pos (by rw [← hb9 c_1]; exact c_2)))
      refine lv_if_eq (tgt := 2655) hx hb dL_law_2650 (by decide) (fun c_4 => ?_) (fun c_4 => absurd hq_3 c_4)
      refine lv_goto (tgt := 2828) hx hb dL_law_2655 (by decide) ?_
      refine W.widen (k := cells + 60) (n := slots + 1000) (by omega) (by omega) ?_
      have hl := lv_sub hl (l' := [(0, .ref b), (1, .ref h), (2, .ref (am 0)), (3, .ref o1), (4, .ref o2), (5, .int i)]) [2, 3, 4, 5, 6, 7] rfl
      exact hback _ _ _ _ _ _ ⟨_, _, _, _, hH2, hm9.1, ho1, ho2⟩ hw hl
    · refine lv_lconst (v := 1) hx hb dL_law_2644 (by decide) ?_
      refine lv_goto (tgt := 2649) hx hb dL_law_2645 (by decide) ?_
      refine W.lcmp hx hb dL_law_2649 ?_
      have hq_5 : (lg_cmp (F1 (Int32.toNatClampNeg 0)) 1) = 0 := zcmp0.mpr ((hv1 c_1).trans (if_neg (by rw [← hb9 c_1]; exact c_2)))
      refine lv_if_eq (tgt := 2655) hx hb dL_law_2650 (by decide) (fun c_6 => ?_) (fun c_6 => absurd hq_5 c_6)
      refine lv_goto (tgt := 2828) hx hb dL_law_2655 (by decide) ?_
      refine W.widen (k := cells + 60) (n := slots + 1000) (by omega) (by omega) ?_
      have hl := lv_sub hl (l' := [(0, .ref b), (1, .ref h), (2, .ref (am 0)), (3, .ref o1), (4, .ref o2), (5, .int i)]) [2, 3, 4, 5, 6, 7] rfl
      exact hback _ _ _ _ _ _ ⟨_, _, _, _, hH2, hm9.1, ho1, ho2⟩ hw hl

set_option maxRecDepth 100000 in
set_option maxHeartbeats 4000000 in
theorem k_law_35 {p : Program} {l : Launch} {e : Env} {R : Room} {s : State} {m : MethodId} {args : Array Value} {below : List Frame} {meth : Method} {c : Code} {H : Heap} {locs : List Loc} {cells slots : Nat} {Q : State → Prop} {ls : Array Slot} {g : zG} {A : Nat → Prop} {L : List Nat} {f : Nat → va_E} {am : Nat → Nat} {h o1 o2 b N : Nat} {σ : ZS} {xs : Nat → Int32} {i : Int32}
    (hx : p.tables.exec = Jvm.exec) (hb : c.code = cL_law) (hml : c.maxLocals = 9) (hown : s.vm.findClass RL = some m.cls) (hts : ∀ w ∈ wsL_law, w.before args s = true) (hl0 : l.stackTraces = false) (hw : zW g A s L f H locs) (hX : zX A s s.heap) (hXs : va_X b N xs s s.heap) (hbl : b < s.heap.size) (hbA : ¬ A b) (hRf : 20 ≤ R.frames) (hRl : 1000 ≤ R.locals) (hRc : cells + 60 ≤ R.cells) (hRs : slots + 1000 ≤ R.slots) (hJ : zLw g h am o1 o2 σ L f) (hix : ∀ j : Nat, j < 7 → vp_in (i + nI j) N) (hl : lv_has ls 9 [(0, .ref b), (1, .ref h), (2, .ref (am 0)), (3, .ref o1), (4, .ref o2), (5, .int i)])
    (hback : ∀ (σ1 : ZS) (L1 : List Nat) (f1 : Nat → va_E) (H1 : Heap) (locs1 : List Loc) (ls1 : Array Slot), zLw g h am o1 o2 σ1 L1 f1 → zW g A s L1 f1 H1 locs1 → lv_has ls1 9 [(0, .ref b), (1, .ref h), (2, .ref (am 0)), (3, .ref o1), (4, .ref o2), (5, .int i)] → W p l e R s m args below meth c H1 locs1 (cells + 60) (slots + 1000) Q (F0 m 2828 ls1 [])) : W p l e R s m args below meth c H locs cells slots Q (F0 m 2658 ls []) := by
  obtain ⟨bs, th, F, D, hH, hE, h10, h20⟩ := hJ
  obtain ⟨ln, kd, hI⟩ := zHC_I hH
  obtain ⟨fs9, hcb⟩ := zHC_obj hH
  have hn1 := zMe_ne1 hE h10
  have hn2 := zMe_ne2 hE h20
  have hn12 := zo_ne h10 h20
  refine lv_aload_n hx hb dL_law_2658 rfl (lv_at hl 1 rfl) ?_
  refine lv_aload_n hx hb dL_law_2659 rfl (lv_at hl 0 rfl) ?_
  refine lv_iload hx hb dL_law_2660 (lv_at hl 5 rfl) ?_
  refine lv_iconst (v := 1) hx hb dL_law_2662 (by decide) ?_
  refine lv_iadd hx hb dL_law_2663 ?_
  refine va_sld hx hb hXs hbl hbA hw.2.2.2.1 (hix 1 (by decide)) dL_law_2664 ?_
  refine lv_aload hx hb dL_law_2665 (lv_at hl 4 rfl) ?_
  refine z_callSX (As := [.ref h, .int (xs (Int32.toNatClampNeg (i + 1))), .ref o2]) (rest := []) ⟨hx, hb, hml, hown, hts⟩ hw hX (c_L_fullShare l hl0 g L f h (zPm am o1 o2) σ (xs (Int32.toNatClampNeg (i + 1))) o2 D hH h20 zPm_2) (vx_cwSW 3 hts gL_law_L_fullShare rfl rfl rfl (by decide +kernel) ⟨Nat.le_trans (Nat.le_of_ble_eq_true rfl) hRf, Nat.le_trans (Nat.le_of_ble_eq_true rfl) hRl⟩) rfl hl.1 rfl (Nat.le_of_ble_eq_true rfl) dL_law_2667 ⟨by omega, by omega⟩ (fun _ _ _ _ _ _ _ hp => False.elim hp) (fun r9 L1 f1 H locs hp hw => ?_)
  obtain ⟨rfl, hH1, ⟨F1, hF1, hv1⟩, hfr1⟩ := hp
  have hE1 := zMe_kept hE hH1 (fun k hk => hfr1 _ (zPm_m hk) (hn2 k hk))
  refine W.eq (g2 := F0 m 2670 ls [.int (o_fullShare σ (xs (Int32.toNatClampNeg (i + 1)))).1]) rfl ?_
  refine lv_istore (lv' := [(6, .int (o_fullShare σ (xs (Int32.toNatClampNeg (i + 1)))).1), (0, .ref b), (1, .ref h), (2, .ref (am 0)), (3, .ref o1), (4, .ref o2), (5, .int i)]) hx hb dL_law_2670 hl (by decide) rfl (fun ls hl => ?_)
  refine lv_aload_n hx hb dL_law_2672 rfl (lv_at hl 3 rfl) ?_
  refine lv_aload_n hx hb dL_law_2673 rfl (lv_at hl 1 rfl) ?_
  refine lv_iload hx hb dL_law_2674 (lv_at hl 6 rfl) ?_
  refine lv_iconst (v := 1) hx hb dL_law_2676 (by decide) ?_
  refine lv_iadd hx hb dL_law_2677 ?_
  refine va_sld hx hb hXs hbl hbA hw.2.2.2.1 (hix 1 (by decide)) dL_law_2678 ?_
  refine z_callV (As := [.int (xs (Int32.toNatClampNeg (i + 1)))]) (rest := []) ⟨hx, hb, hml, hown, hts⟩ hw hX (hE1.1 0 (by decide)) rfl (c_X2_fullShare l g am L1 f1 σ bs th (xs (Int32.toNatClampNeg (i + 1))) ⟨hE1, fun _ _ => rfl⟩ hI) (cwV 1 hts gL_law_X2_fullShare rfl rfl rfl (by decide +kernel) ⟨Nat.le_trans (Nat.le_of_ble_eq_true rfl) hRf, Nat.le_trans (Nat.le_of_ble_eq_true rfl) hRl⟩) rfl hl.1 rfl (Nat.le_of_ble_eq_true rfl) dL_law_2679 ⟨by omega, by omega⟩ (fun _ _ _ _ _ _ _ hp => False.elim hp) (fun r9 L2 f2 H locs hp hw => ?_)
  obtain ⟨rfl, b9, bs9, rfl, hm9, hb9⟩ := hp
  have ho2 : zc L1 f2 o2 (.inl (g.2 3, 1, .inr (.inr (.inr (.inl F1))))) := ⟨zHC_in hH1 zPm_2, (hm9.2 _ (fun k hk e => hn2 k hk e.symm)).trans hF1⟩
  have ho1 : zc L1 f2 o1 (.inl (g.2 1, 1, .inr (.inl F))) := ⟨zHC_in hH1 zPm_1, (hm9.2 _ (fun k hk e => hn1 k hk e.symm)).trans ((hfr1 _ zPm_1 hn12).trans h10.2)⟩
  have hH2 := zHC_mod hH1 hm9.2
  refine W.eq (g2 := F0 m 2682 ls [.float b9]) rfl ?_
  refine lv_fstore (lv' := [(7, .float b9), (6, .int (o_fullShare σ (xs (Int32.toNatClampNeg (i + 1)))).1), (0, .ref b), (1, .ref h), (2, .ref (am 0)), (3, .ref o1), (4, .ref o2), (5, .int i)]) hx hb dL_law_2682 hl (by decide) rfl (fun ls hl => ?_)
  refine lv_aload_n hx hb dL_law_2684 rfl (lv_at hl 4 rfl) ?_
  refine z_callV (As := []) (rest := []) ⟨hx, hb, hml, hown, hts⟩ hw hX (hm9.1.1 0 (by decide)) rfl (c_X2_thrown l g am L1 f2 (o_fullShare σ (xs (Int32.toNatClampNeg (i + 1)))).2.2 bs9 (o_fullShare σ (xs (Int32.toNatClampNeg (i + 1)))).1 hm9.rf) (cwV 0 hts gL_law_X2_thrown rfl rfl rfl (by decide +kernel) ⟨Nat.le_trans (Nat.le_of_ble_eq_true rfl) hRf, Nat.le_trans (Nat.le_of_ble_eq_true rfl) hRl⟩) rfl hl.1 rfl (Nat.le_of_ble_eq_true rfl) dL_law_2685 ⟨by omega, by omega⟩ (fun _ _ _ _ _ _ _ hp => False.elim hp) (fun r9 L3 f3 H locs hp hw => ?_)
  obtain ⟨rfl, rfl, rfl⟩ := hp
  refine W.eq (g2 := F0 m 2688 ls [.int (o_fullShare σ (xs (Int32.toNatClampNeg (i + 1)))).1]) rfl ?_
  refine lv_iload hx hb dL_law_2688 (lv_at hl 1 rfl) ?_
  refine lv_icmp_eq (tgt := 2695) hx hb dL_law_2690 (by decide) (fun _ => ?_) (fun c => absurd rfl c)
  refine lv_iload hx hb dL_law_2695 (lv_at hl 1 rfl) ?_
  refine lv_if_ne (tgt := 2733) hx hb dL_law_2697 (by decide) (fun c_1 => ?_) (fun c_1 => ?_)
  · refine lv_goto (tgt := 2828) hx hb dL_law_2733 (by decide) ?_
    refine W.widen (k := cells + 60) (n := slots + 1000) (by omega) (by omega) ?_
    have hl := lv_sub hl (l' := [(0, .ref b), (1, .ref h), (2, .ref (am 0)), (3, .ref o1), (4, .ref o2), (5, .int i)]) [2, 3, 4, 5, 6, 7] rfl
    exact hback _ _ _ _ _ _ ⟨_, _, _, _, hH2, hm9.1, ho1, ho2⟩ hw hl
  · refine lv_aload hx hb dL_law_2700 (lv_at hl 6 rfl) ?_
    refine lv_iconst (v := 0) hx hb dL_law_2702 (by decide) ?_
    refine zr_dald hx hb hw ho2 (vp_in_iff.mpr (by decide)) dL_law_2703 ?_
    refine lv_fload hx hb dL_law_2704 (lv_at hl 0 rfl) ?_
    refine lv_f2d hx hb dL_law_2706 (by obtain ⟨a, b, h1, h2, h3, h4⟩ := zfs_n hI c_1; rw [hb9 c_1, h4]; exact z_nanf2 a h1 b h2 h3) ?_
    refine lv_dcmp hx hb dL_law_2707 ?_
    have hq_2 : (Op.cmpValue (FP.dcmp (F1 (Int32.toNatClampNeg 0)) (FP.f2d b9)) .l) = 0 := by have hv2 : F1 (Int32.toNatClampNeg 0) = _ := hv1 c_1; rw [hv2, hb9 c_1]; obtain ⟨a, b, h1, h2, h3, h4⟩ := zfs_n hI c_1; rw [h4]; exact z_eqf2 a h1 b h2 h3
    refine lv_if_eq (tgt := 2733) hx hb dL_law_2708 (by decide) (fun c_3 => ?_) (fun c_3 => absurd hq_2 c_3)
    refine lv_goto (tgt := 2828) hx hb dL_law_2733 (by decide) ?_
    refine W.widen (k := cells + 60) (n := slots + 1000) (by omega) (by omega) ?_
    have hl := lv_sub hl (l' := [(0, .ref b), (1, .ref h), (2, .ref (am 0)), (3, .ref o1), (4, .ref o2), (5, .int i)]) [2, 3, 4, 5, 6, 7] rfl
    exact hback _ _ _ _ _ _ ⟨_, _, _, _, hH2, hm9.1, ho1, ho2⟩ hw hl

set_option maxRecDepth 100000 in
set_option maxHeartbeats 4000000 in
theorem k_law_36 {p : Program} {l : Launch} {e : Env} {R : Room} {s : State} {m : MethodId} {args : Array Value} {below : List Frame} {meth : Method} {c : Code} {H : Heap} {locs : List Loc} {cells slots : Nat} {Q : State → Prop} {ls : Array Slot} {g : zG} {A : Nat → Prop} {L : List Nat} {f : Nat → va_E} {am : Nat → Nat} {h o1 o2 b N : Nat} {σ : ZS} {xs : Nat → Int32} {i : Int32}
    (hx : p.tables.exec = Jvm.exec) (hb : c.code = cL_law) (hml : c.maxLocals = 9) (hown : s.vm.findClass RL = some m.cls) (hts : ∀ w ∈ wsL_law, w.before args s = true) (hl0 : l.stackTraces = false) (hw : zW g A s L f H locs) (hX : zX A s s.heap) (hXs : va_X b N xs s s.heap) (hbl : b < s.heap.size) (hbA : ¬ A b) (hRf : 20 ≤ R.frames) (hRl : 1000 ≤ R.locals) (hRc : cells + 60 ≤ R.cells) (hRs : slots + 1000 ≤ R.slots) (hJ : zLw g h am o1 o2 σ L f) (hix : ∀ j : Nat, j < 7 → vp_in (i + nI j) N) (hl : lv_has ls 9 [(0, .ref b), (1, .ref h), (2, .ref (am 0)), (3, .ref o1), (4, .ref o2), (5, .int i)])
    (hback : ∀ (σ1 : ZS) (L1 : List Nat) (f1 : Nat → va_E) (H1 : Heap) (locs1 : List Loc) (ls1 : Array Slot), zLw g h am o1 o2 σ1 L1 f1 → zW g A s L1 f1 H1 locs1 → lv_has ls1 9 [(0, .ref b), (1, .ref h), (2, .ref (am 0)), (3, .ref o1), (4, .ref o2), (5, .int i)] → W p l e R s m args below meth c H1 locs1 (cells + 60) (slots + 1000) Q (F0 m 2828 ls1 [])) : W p l e R s m args below meth c H locs cells slots Q (F0 m 2736 ls []) := by
  obtain ⟨bs, th, F, D, hH, hE, h10, h20⟩ := hJ
  obtain ⟨ln, kd, hI⟩ := zHC_I hH
  obtain ⟨fs9, hcb⟩ := zHC_obj hH
  have hn1 := zMe_ne1 hE h10
  have hn2 := zMe_ne2 hE h20
  have hn12 := zo_ne h10 h20
  refine lv_aload_n hx hb dL_law_2736 rfl (lv_at hl 1 rfl) ?_
  refine lv_aload hx hb dL_law_2737 (lv_at hl 4 rfl) ?_
  refine z_callSX (As := [.ref h, .ref o2]) (rest := []) ⟨hx, hb, hml, hown, hts⟩ hw hX (c_L_meanLeft l hl0 g L f h (zPm am o1 o2) σ  o2 D hH h20 zPm_2) (vx_cwSW 2 hts gL_law_L_meanLeft rfl rfl rfl (by decide +kernel) ⟨Nat.le_trans (Nat.le_of_ble_eq_true rfl) hRf, Nat.le_trans (Nat.le_of_ble_eq_true rfl) hRl⟩) rfl hl.1 rfl (Nat.le_of_ble_eq_true rfl) dL_law_2739 ⟨by omega, by omega⟩ (fun _ _ _ _ _ _ _ hp => False.elim hp) (fun r9 L1 f1 H locs hp hw => ?_)
  obtain ⟨rfl, hH1, ⟨F1, hF1, hv1⟩, hfr1⟩ := hp
  have hE1 := zMe_kept hE hH1 (fun k hk => hfr1 _ (zPm_m hk) (hn2 k hk))
  refine W.eq (g2 := F0 m 2742 ls [.int (o_meanLeft σ).1]) rfl ?_
  refine lv_istore (lv' := [(6, .int (o_meanLeft σ).1), (0, .ref b), (1, .ref h), (2, .ref (am 0)), (3, .ref o1), (4, .ref o2), (5, .int i)]) hx hb dL_law_2742 hl (by decide) rfl (fun ls hl => ?_)
  refine lv_aload_n hx hb dL_law_2744 rfl (lv_at hl 3 rfl) ?_
  refine z_callV (As := []) (rest := []) ⟨hx, hb, hml, hown, hts⟩ hw hX (hE1.1 0 (by decide)) rfl (c_X2_meanLeft l g am L1 f1 σ bs th  ⟨hE1, fun _ _ => rfl⟩ hI) (cwV 0 hts gL_law_X2_meanLeft rfl rfl rfl (by decide +kernel) ⟨Nat.le_trans (Nat.le_of_ble_eq_true rfl) hRf, Nat.le_trans (Nat.le_of_ble_eq_true rfl) hRl⟩) rfl hl.1 rfl (Nat.le_of_ble_eq_true rfl) dL_law_2745 ⟨by omega, by omega⟩ (fun _ _ _ _ _ _ _ hp => False.elim hp) (fun r9 L2 f2 H locs hp hw => ?_)
  obtain ⟨rfl, b9, bs9, rfl, hm9, hb9⟩ := hp
  have ho2 : zc L1 f2 o2 (.inl (g.2 3, 1, .inr (.inr (.inr (.inl F1))))) := ⟨zHC_in hH1 zPm_2, (hm9.2 _ (fun k hk e => hn2 k hk e.symm)).trans hF1⟩
  have ho1 : zc L1 f2 o1 (.inl (g.2 1, 1, .inr (.inl F))) := ⟨zHC_in hH1 zPm_1, (hm9.2 _ (fun k hk e => hn1 k hk e.symm)).trans ((hfr1 _ zPm_1 hn12).trans h10.2)⟩
  have hH2 := zHC_mod hH1 hm9.2
  refine W.eq (g2 := F0 m 2748 ls [.double b9]) rfl ?_
  refine lv_dstore (lv' := [(7, .double b9), (6, .int (o_meanLeft σ).1), (0, .ref b), (1, .ref h), (2, .ref (am 0)), (3, .ref o1), (4, .ref o2), (5, .int i)]) hx hb dL_law_2748 hl (by decide) rfl (fun ls hl => ?_)
  refine lv_aload_n hx hb dL_law_2750 rfl (lv_at hl 4 rfl) ?_
  refine z_callV (As := []) (rest := []) ⟨hx, hb, hml, hown, hts⟩ hw hX (hm9.1.1 0 (by decide)) rfl (c_X2_thrown l g am L1 f2 (o_meanLeft σ).2.2 bs9 (o_meanLeft σ).1 hm9.rf) (cwV 0 hts gL_law_X2_thrown rfl rfl rfl (by decide +kernel) ⟨Nat.le_trans (Nat.le_of_ble_eq_true rfl) hRf, Nat.le_trans (Nat.le_of_ble_eq_true rfl) hRl⟩) rfl hl.1 rfl (Nat.le_of_ble_eq_true rfl) dL_law_2751 ⟨by omega, by omega⟩ (fun _ _ _ _ _ _ _ hp => False.elim hp) (fun r9 L3 f3 H locs hp hw => ?_)
  obtain ⟨rfl, rfl, rfl⟩ := hp
  refine W.eq (g2 := F0 m 2754 ls [.int (o_meanLeft σ).1]) rfl ?_
  refine lv_iload hx hb dL_law_2754 (lv_at hl 1 rfl) ?_
  refine lv_icmp_eq (tgt := 2761) hx hb dL_law_2756 (by decide) (fun _ => ?_) (fun c => absurd rfl c)
  refine lv_iload hx hb dL_law_2761 (lv_at hl 1 rfl) ?_
  refine lv_if_ne (tgt := 2798) hx hb dL_law_2763 (by decide) (fun c_1 => ?_) (fun c_1 => ?_)
  · refine lv_goto (tgt := 2828) hx hb dL_law_2798 (by decide) ?_
    refine W.widen (k := cells + 60) (n := slots + 1000) (by omega) (by omega) ?_
    have hl := lv_sub hl (l' := [(0, .ref b), (1, .ref h), (2, .ref (am 0)), (3, .ref o1), (4, .ref o2), (5, .int i)]) [2, 3, 4, 5, 6, 7] rfl
    exact hback _ _ _ _ _ _ ⟨_, _, _, _, hH2, hm9.1, ho1, ho2⟩ hw hl
  · refine lv_aload hx hb dL_law_2766 (lv_at hl 6 rfl) ?_
    refine lv_iconst (v := 0) hx hb dL_law_2768 (by decide) ?_
    refine zr_dald hx hb hw ho2 (vp_in_iff.mpr (by decide)) dL_law_2769 ?_
    refine lv_dload hx hb dL_law_2770 (lv_at hl 0 rfl) ?_
    refine lv_dcmp hx hb dL_law_2772 ?_
    have hq_2 : (Op.cmpValue (FP.dcmp (F1 (Int32.toNatClampNeg 0)) b9) .l) = 0 := by have hv2 : F1 (Int32.toNatClampNeg 0) = _ := hv1 c_1; rw [hv2, hb9 c_1]; obtain ⟨a, b, h1, h2, h3, h4⟩ := zml_n hI c_1; rw [h4]; exact z_eqd a h1 b h2 h3
    refine lv_if_eq (tgt := 2798) hx hb dL_law_2773 (by decide) (fun c_3 => ?_) (fun c_3 => absurd hq_2 c_3)
    refine lv_goto (tgt := 2828) hx hb dL_law_2798 (by decide) ?_
    refine W.widen (k := cells + 60) (n := slots + 1000) (by omega) (by omega) ?_
    have hl := lv_sub hl (l' := [(0, .ref b), (1, .ref h), (2, .ref (am 0)), (3, .ref o1), (4, .ref o2), (5, .int i)]) [2, 3, 4, 5, 6, 7] rfl
    exact hback _ _ _ _ _ _ ⟨_, _, _, _, hH2, hm9.1, ho1, ho2⟩ hw hl

set_option maxRecDepth 100000 in
set_option maxHeartbeats 4000000 in
theorem k_law_37 {p : Program} {l : Launch} {e : Env} {R : Room} {s : State} {m : MethodId} {args : Array Value} {below : List Frame} {meth : Method} {c : Code} {H : Heap} {locs : List Loc} {cells slots : Nat} {Q : State → Prop} {ls : Array Slot} {g : zG} {A : Nat → Prop} {L : List Nat} {f : Nat → va_E} {am : Nat → Nat} {h o1 o2 b N : Nat} {σ : ZS} {xs : Nat → Int32} {i : Int32}
    (hx : p.tables.exec = Jvm.exec) (hb : c.code = cL_law) (hml : c.maxLocals = 9) (hown : s.vm.findClass RL = some m.cls) (hts : ∀ w ∈ wsL_law, w.before args s = true) (hl0 : l.stackTraces = false) (hw : zW g A s L f H locs) (hX : zX A s s.heap) (hXs : va_X b N xs s s.heap) (hbl : b < s.heap.size) (hbA : ¬ A b) (hRf : 20 ≤ R.frames) (hRl : 1000 ≤ R.locals) (hRc : cells + 60 ≤ R.cells) (hRs : slots + 1000 ≤ R.slots) (hJ : zLw g h am o1 o2 σ L f) (hix : ∀ j : Nat, j < 7 → vp_in (i + nI j) N) (hl : lv_has ls 9 [(0, .ref b), (1, .ref h), (2, .ref (am 0)), (3, .ref o1), (4, .ref o2), (5, .int i)])
    (hback : ∀ (σ1 : ZS) (L1 : List Nat) (f1 : Nat → va_E) (H1 : Heap) (locs1 : List Loc) (ls1 : Array Slot), zLw g h am o1 o2 σ1 L1 f1 → zW g A s L1 f1 H1 locs1 → lv_has ls1 9 [(0, .ref b), (1, .ref h), (2, .ref (am 0)), (3, .ref o1), (4, .ref o2), (5, .int i)] → W p l e R s m args below meth c H1 locs1 (cells + 60) (slots + 1000) Q (F0 m 2828 ls1 [])) : W p l e R s m args below meth c H locs cells slots Q (F0 m 2801 ls []) := by
  obtain ⟨bs, th, F, D, hH, hE, h10, h20⟩ := hJ
  obtain ⟨ln, kd, hI⟩ := zHC_I hH
  obtain ⟨fs9, hcb⟩ := zHC_obj hH
  have hn1 := zMe_ne1 hE h10
  have hn2 := zMe_ne2 hE h20
  have hn12 := zo_ne h10 h20
  refine lv_aload_n hx hb dL_law_2801 rfl (lv_at hl 1 rfl) ?_
  refine z_callV (As := []) (rest := []) ⟨hx, hb, hml, hown, hts⟩ hw hX hcb rfl (c_X1_checksum l g L f h (zPm am o1 o2) σ hH) (cwV 0 hts gL_law_X1_checksum rfl rfl rfl (by decide +kernel) ⟨Nat.le_trans (Nat.le_of_ble_eq_true rfl) hRf, Nat.le_trans (Nat.le_of_ble_eq_true rfl) hRl⟩) rfl hl.1 rfl (Nat.le_of_ble_eq_true rfl) dL_law_2802 ⟨by omega, by omega⟩ (fun _ _ _ _ _ _ _ hp => False.elim hp) (fun r9 L1 f1 H locs hp hw => ?_)
  obtain ⟨ho0, rfl, hH1, hfr1⟩ := hp
  have hE1 := zMe_kept hE hH1 (fun k hk => hfr1 _ (zPm_m hk))
  refine W.eq (g2 := F0 m 2805 ls [.long (o_checksum σ).2.1]) rfl ?_
  refine lv_aload_n hx hb dL_law_2805 rfl (lv_at hl 2 rfl) ?_
  refine z_callV (As := []) (rest := [.long (o_checksum σ).2.1]) ⟨hx, hb, hml, hown, hts⟩ hw hX (hE1.1 0 (by decide)) rfl (c_X2_checksum l g am L1 f1 σ bs th  ⟨hE1, fun _ _ => rfl⟩ hI) (cwV 0 hts gL_law_X2_checksum rfl rfl rfl (by decide +kernel) ⟨Nat.le_trans (Nat.le_of_ble_eq_true rfl) hRf, Nat.le_trans (Nat.le_of_ble_eq_true rfl) hRl⟩) rfl hl.1 rfl (Nat.le_of_ble_eq_true rfl) dL_law_2806 ⟨by omega, by omega⟩ (fun _ _ _ _ _ _ _ hp => False.elim hp) (fun r9 L2 f2 H locs hp hw => ?_)
  obtain ⟨rfl, b9, bs9, rfl, hm9, hb9⟩ := hp
  have ho1 : zc L1 f2 o1 (.inl (g.2 1, 1, .inr (.inl F))) := ⟨zHC_in hH1 zPm_1, (hm9.2 _ (fun k hk e => hn1 k hk e.symm)).trans ((hfr1 _ zPm_1).trans h10.2)⟩
  have ho2 : zc L1 f2 o2 (.inl (g.2 3, 1, .inr (.inr (.inr (.inl D))))) := ⟨zHC_in hH1 zPm_2, (hm9.2 _ (fun k hk e => hn2 k hk e.symm)).trans ((hfr1 _ zPm_2).trans h20.2)⟩
  have hH2 := zHC_mod hH1 hm9.2
  have hbq := hb9 ho0
  refine W.eq (g2 := F0 m 2809 ls [.long b9, .long (o_checksum σ).2.1]) rfl ?_
  refine W.lcmp hx hb dL_law_2809 ?_
  have hq_1 : (lg_cmp ((o_checksum σ).2.1) b9) = 0 := zcmp0.mpr hbq.symm
  refine lv_if_eq (tgt := 2828) hx hb dL_law_2810 (by decide) (fun c_2 => ?_) (fun c_2 => absurd hq_1 c_2)
  refine W.widen (k := cells + 60) (n := slots + 1000) (by omega) (by omega) ?_
  have hl := lv_sub hl (l' := [(0, .ref b), (1, .ref h), (2, .ref (am 0)), (3, .ref o1), (4, .ref o2), (5, .int i)]) [0, 1, 2, 3, 4, 5] rfl
  exact hback _ _ _ _ _ _ ⟨_, _, _, _, hH2, hm9.1, ho1, ho2⟩ hw hl

set_option maxRecDepth 100000 in
set_option maxHeartbeats 4000000 in
theorem k_law_38 {p : Program} {l : Launch} {e : Env} {R : Room} {s : State} {m : MethodId} {args : Array Value} {below : List Frame} {meth : Method} {c : Code} {H : Heap} {locs : List Loc} {cells slots : Nat} {Q : State → Prop} {ls : Array Slot} {g : zG} {A : Nat → Prop} {L : List Nat} {f : Nat → va_E} {am : Nat → Nat} {h o1 o2 b N : Nat} {σ : ZS} {xs : Nat → Int32} {i : Int32}
    (hx : p.tables.exec = Jvm.exec) (hb : c.code = cL_law) (hml : c.maxLocals = 9) (hown : s.vm.findClass RL = some m.cls) (hts : ∀ w ∈ wsL_law, w.before args s = true) (hl0 : l.stackTraces = false) (hw : zW g A s L f H locs) (hX : zX A s s.heap) (hXs : va_X b N xs s s.heap) (hbl : b < s.heap.size) (hbA : ¬ A b) (hRf : 20 ≤ R.frames) (hRl : 1000 ≤ R.locals) (hRc : cells + 60 ≤ R.cells) (hRs : slots + 1000 ≤ R.slots) (hJ : zLw g h am o1 o2 σ L f) (hix : ∀ j : Nat, j < 7 → vp_in (i + nI j) N) (hl : lv_has ls 9 [(0, .ref b), (1, .ref h), (2, .ref (am 0)), (3, .ref o1), (4, .ref o2), (5, .int i)])
    (hback : ∀ (σ1 : ZS) (L1 : List Nat) (f1 : Nat → va_E) (H1 : Heap) (locs1 : List Loc) (ls1 : Array Slot), zLw g h am o1 o2 σ1 L1 f1 → zW g A s L1 f1 H1 locs1 → lv_has ls1 9 [(0, .ref b), (1, .ref h), (2, .ref (am 0)), (3, .ref o1), (4, .ref o2), (5, .int i)] → W p l e R s m args below meth c H1 locs1 (cells + 60) (slots + 1000) Q (F0 m 2828 ls1 [])) : W p l e R s m args below meth c H locs cells slots Q (F0 m 2815 ls []) := by
  obtain ⟨bs, th, F, D, hH, hE, h10, h20⟩ := hJ
  obtain ⟨ln, kd, hI⟩ := zHC_I hH
  obtain ⟨fs9, hcb⟩ := zHC_obj hH
  have hn1 := zMe_ne1 hE h10
  have hn2 := zMe_ne2 hE h20
  have hn12 := zo_ne h10 h20
  refine lv_aload_n hx hb dL_law_2815 rfl (lv_at hl 1 rfl) ?_
  refine z_callV (As := []) (rest := []) ⟨hx, hb, hml, hown, hts⟩ hw hX hcb rfl (c_X1_isTrue l g L f h (zPm am o1 o2) σ hH) (cwV 0 hts gL_law_X1_isTrue rfl rfl rfl (by decide +kernel) ⟨Nat.le_trans (Nat.le_of_ble_eq_true rfl) hRf, Nat.le_trans (Nat.le_of_ble_eq_true rfl) hRl⟩) rfl hl.1 rfl (Nat.le_of_ble_eq_true rfl) dL_law_2816 ⟨by omega, by omega⟩ (fun _ _ _ _ _ _ _ hp => False.elim hp) (fun r9 L1 f1 H locs hp hw => ?_)
  obtain ⟨ho0, rfl, hH1, hfr1⟩ := hp
  have hE1 := zMe_kept hE hH1 (fun k hk => hfr1 _ (zPm_m hk))
  refine W.eq (g2 := F0 m 2819 ls [.int (o_isTrue σ).2.1]) rfl ?_
  refine lv_aload_n hx hb dL_law_2819 rfl (lv_at hl 2 rfl) ?_
  refine z_callV (As := []) (rest := [.int (o_isTrue σ).2.1]) ⟨hx, hb, hml, hown, hts⟩ hw hX (hE1.1 0 (by decide)) rfl (c_X2_isTrue l g am L1 f1 σ bs th  ⟨hE1, fun _ _ => rfl⟩ hI) (cwV 0 hts gL_law_X2_isTrue rfl rfl rfl (by decide +kernel) ⟨Nat.le_trans (Nat.le_of_ble_eq_true rfl) hRf, Nat.le_trans (Nat.le_of_ble_eq_true rfl) hRl⟩) rfl hl.1 rfl (Nat.le_of_ble_eq_true rfl) dL_law_2820 ⟨by omega, by omega⟩ (fun _ _ _ _ _ _ _ hp => False.elim hp) (fun r9 L2 f2 H locs hp hw => ?_)
  obtain ⟨rfl, b9, bs9, rfl, hm9, hb9⟩ := hp
  have ho1 : zc L1 f2 o1 (.inl (g.2 1, 1, .inr (.inl F))) := ⟨zHC_in hH1 zPm_1, (hm9.2 _ (fun k hk e => hn1 k hk e.symm)).trans ((hfr1 _ zPm_1).trans h10.2)⟩
  have ho2 : zc L1 f2 o2 (.inl (g.2 3, 1, .inr (.inr (.inr (.inl D))))) := ⟨zHC_in hH1 zPm_2, (hm9.2 _ (fun k hk e => hn2 k hk e.symm)).trans ((hfr1 _ zPm_2).trans h20.2)⟩
  have hH2 := zHC_mod hH1 hm9.2
  have hbq := hb9 ho0
  refine W.eq (g2 := F0 m 2823 ls [.int b9, .int (o_isTrue σ).2.1]) rfl ?_
  refine lv_icmp_eq (tgt := 2828) hx hb dL_law_2823 (by decide) (fun _ => ?_) (fun c => absurd hbq.symm c)
  refine W.widen (k := cells + 60) (n := slots + 1000) (by omega) (by omega) ?_
  have hl := lv_sub hl (l' := [(0, .ref b), (1, .ref h), (2, .ref (am 0)), (3, .ref o1), (4, .ref o2), (5, .int i)]) [0, 1, 2, 3, 4, 5] rfl
  exact hback _ _ _ _ _ _ ⟨_, _, _, _, hH2, hm9.1, ho1, ho2⟩ hw hl
