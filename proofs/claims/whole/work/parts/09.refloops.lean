theorem hi_X2_free : ∀ w ∈ wsX20, w ∈ wsX2_free := by decide +kernel
theorem hf_X2_free_7 : Cond.fieldLink RX2 7 (TX2 0).1 (TX2 0).2.1 (TX2 0).2.2.1 ∈ wsX2_free := by decide +kernel
theorem hf_X2_free_13 : Cond.fieldLink RX2 13 (TX2 1).1 (TX2 1).2.1 (TX2 1).2.2.1 ∈ wsX2_free := by decide +kernel
theorem hf_X2_free_17 : Cond.fieldLink RX2 17 (TX2 2).1 (TX2 2).2.1 (TX2 2).2.2.1 ∈ wsX2_free := by decide +kernel
theorem hf_X2_free_39 : Cond.fieldLink RX2 39 (TX2 9).1 (TX2 9).2.1 (TX2 9).2.2.1 ∈ wsX2_free := by decide +kernel
set_option maxRecDepth 100000 in
set_option maxHeartbeats 4000000 in
theorem c_X2_free (l : Launch) (g : zG) (am : Nat → Nat) (L : List Nat) (f : Nat → va_E) (σ : ZS) (bs : Nat → Int64) (th : Int32) (hm : zM g am f σ bs th L f) (hF : vp_in (zFnd σ 11) 11) : zC l yX2_free wsX2_free { frames := 0, cells := 0, slots := 0, locals := 0 } 0 0 g [.ref (am 0)] L f (fun r L1 f1 => some (.int (zFnd σ 11)) = r ∧ L = L1 ∧ zM g am f (zsST σ (zZero (zST σ) (zFnd σ 11) 64)) bs th L f1) zNo := by
  refine z_ofW (cc := cX2_free) (maxL := 5) (ret := (some .int)) (by decide) rfl (Nat.le_of_ble_eq_true rfl) ?_
  intro p e s m args below meth c ls A hx hb hr hts hown hlocks hml htab hin hw hX hl
  have hl : lv_has ls 5 [(0, .ref (am 0))] := hl
  have hown : s.vm.findClass RX2 = some m.cls := hown
  refine lv_iconst (v := (-1)) hx hb dX2_free_0 (by decide) ?_
  refine lv_istore_n (lv' := [(1, .int (-1)), (0, .ref (am 0))]) hx hb dX2_free_1 rfl hl (by decide) rfl (fun ls hl => ?_)
  refine lv_iconst (v := 0) hx hb dX2_free_2 (by decide) ?_
  refine lv_istore_n (lv' := [(2, .int 0), (1, .int (-1)), (0, .ref (am 0))]) hx hb dX2_free_3 rfl hl (by decide) rfl (fun ls hl => ?_)
  have loop_4 : ∀ (n9 : Nat) (k : Nat) (f8 : Nat → va_E) (H : Heap) (locs : List Loc) (ls : Array Slot), (k ≤ 11) → (12 ≤ k + n9) → zM g am f σ bs th L f8 → zW g A s L f8 H locs → lv_has ls 5 [(0, .ref (am 0)), (1, .int (zFnd σ k)), (2, .int (nI k))] → W p l e { frames := 0, cells := 0, slots := 0, locals := 0 } s m args below meth c H locs 0 0 (vx_MQ below (zQ g A (fun r L1 f1 => some (.int (zFnd σ 11)) = r ∧ L = L1 ∧ zM g am f (zsST σ (zZero (zST σ) (zFnd σ 11) 64)) bs th L f1)) (zXC g A zNo) args s 0 0 A) (F0 m 4 ls []) := by
    intro n9
    induction n9 with
    | zero => intro k f8 H locs ls hk hn hm hw hl; exact absurd hn (by omega)
    | succ n9 ih_4 =>
      intro k f8 H locs ls hk hn hm hw hl
      refine lv_iload_n hx hb dX2_free_4 rfl (lv_at hl 2 rfl) ?_
      refine lv_bipush (v := 11) hx hb dX2_free_5 (by decide) ?_
      refine lv_icmp_ge (tgt := 104) hx hb dX2_free_7 (by decide) (fun c_1 => ?_) (fun c_1 => ?_)
      · have hke : k = 11 := zn_ge (n := 11) c_1 hk (by decide)
        subst hke
        refine lv_iconst (v := 0) hx hb dX2_free_104 (by decide) ?_
        refine lv_istore_n (lv' := [(2, .int 0), (0, .ref (am 0)), (1, .int (zFnd σ 11))]) hx hb dX2_free_105 rfl hl (by decide) rfl (fun ls hl => ?_)
        have loop_106 : ∀ (n9 : Nat) (k2 : Nat) (f8 : Nat → va_E) (H : Heap) (locs : List Loc) (ls : Array Slot), (k2 ≤ 64) → (65 ≤ k2 + n9) → zM g am f (zsST σ (zZero (zST σ) (zFnd σ 11) k2)) bs th L f8 → zW g A s L f8 H locs → lv_has ls 5 [(0, .ref (am 0)), (1, .int (zFnd σ 11)), (2, .int (nI k2))] → W p l e { frames := 0, cells := 0, slots := 0, locals := 0 } s m args below meth c H locs 0 0 (vx_MQ below (zQ g A (fun r L1 f1 => some (.int (zFnd σ 11)) = r ∧ L = L1 ∧ zM g am f (zsST σ (zZero (zST σ) (zFnd σ 11) 64)) bs th L f1)) (zXC g A zNo) args s 0 0 A) (F0 m 106 ls []) := by
          intro n9
          induction n9 with
          | zero => intro k2 f8 H locs ls hk2 hn2 hm hw hl; exact absurd hn2 (by omega)
          | succ n9 ih_106 =>
            intro k2 f8 H locs ls hk2 hn2 hm hw hl
            refine lv_iload_n hx hb dX2_free_106 rfl (lv_at hl 2 rfl) ?_
            refine lv_bipush (v := 64) hx hb dX2_free_107 (by decide) ?_
            refine lv_icmp_ge (tgt := 130) hx hb dX2_free_109 (by decide) (fun c_2 => ?_) (fun c_2 => ?_)
            · have hke2 : k2 = 64 := zn_ge (n := 64) c_2 hk2 (by decide)
              subst hke2
              refine lv_iload_n hx hb dX2_free_130 rfl (lv_at hl 1 rfl) ?_
              exact z_iret hx hb hr hlocks hw (Nat.le_of_ble_eq_true rfl) (Nat.le_of_ble_eq_true rfl) dX2_free_131 ⟨rfl, rfl, hm⟩
            · have hlt2 : k2 < 64 := zn_lt (n := 64) c_2 hk2 (by decide)
              refine lv_aload_n hx hb dX2_free_112 rfl (lv_at hl 0 rfl) ?_
              refine zm_get (v := .ref (am 1)) hx hb hts hi_X2_free hown hw hm 0 (by decide) hf_X2_free_7 rfl dX2_free_113 ?_
              refine lv_bipush (v := 64) hx hb dX2_free_116 (by decide) ?_
              refine lv_iload_n hx hb dX2_free_118 rfl (lv_at hl 1 rfl) ?_
              refine lv_imul hx hb dX2_free_119 ?_
              refine lv_iload_n hx hb dX2_free_120 rfl (lv_at hl 2 rfl) ?_
              refine lv_iadd hx hb dX2_free_121 ?_
              refine lv_lconst (v := 0) hx hb dX2_free_122 (by decide) ?_
              refine zm_stST hx hb hw hm (zF_in hF hlt2) dX2_free_123 (fun f_3 H locs hm hw => ?_)
              refine lv_iinc (v := ((nI k2) + 1)) (lv' := [(2, .int ((nI k2) + 1)), (0, .ref (am 0)), (1, .int (zFnd σ 11))]) hx hb dX2_free_124 hl (k := 2) rfl rfl (by decide) rfl (fun ls hl => ?_)
              refine lv_goto (tgt := 106) hx hb dX2_free_127 (by decide) ?_
              refine ih_106 (k2 + 1) _ _ _ _ (by omega) (by omega) hm hw ?_
              have hl := lv_sub hl (l' := [(0, .ref (am 0)), (1, .int (zFnd σ 11)), (2, .int ((nI k2) + 1))]) [1, 2, 0] rfl
              rw [← nI_1 k2]
              exact hl
        refine loop_106 (65) 0 _ _ _ _ (by decide) (by decide) hm hw ?_
        have hl := lv_sub hl (l' := [(0, .ref (am 0)), (1, .int (zFnd σ 11)), (2, .int 0)]) [1, 2, 0] rfl
        exact hl
      · have hlt : k < 11 := zn_lt (n := 11) c_1 hk (by decide)
        refine lv_iload_n hx hb dX2_free_10 rfl (lv_at hl 2 rfl) ?_
        refine lv_aload_n hx hb dX2_free_11 rfl (lv_at hl 0 rfl) ?_
        refine zm_get (v := .ref (am 10)) hx hb hts hi_X2_free hown hw hm 9 (by decide) hf_X2_free_39 rfl dX2_free_12 ?_
        refine lv_iconst (v := 0) hx hb dX2_free_15 (by decide) ?_
        refine zm_ldRS hx hb hw hm (vp_in_iff.mpr (by decide)) dX2_free_16 ?_
        refine lv_icmp_eq (tgt := 30) hx hb dX2_free_17 (by decide) (fun c_4 => ?_) (fun c_4 => ?_)
        · refine lv_iconst (v := 1) hx hb dX2_free_30 (by decide) ?_
          refine lv_goto (tgt := 35) hx hb dX2_free_31 (by decide) ?_
          refine lv_istore_n (lv' := [(3, .int 1), (0, .ref (am 0)), (1, .int (zFnd σ k)), (2, .int (nI k))]) hx hb dX2_free_35 rfl hl (by decide) rfl (fun ls hl => ?_)
          refine lv_iconst (v := 0) hx hb dX2_free_36 (by decide) ?_
          refine lv_istore (lv' := [(4, .int 0), (3, .int 1), (0, .ref (am 0)), (1, .int (zFnd σ k)), (2, .int (nI k))]) hx hb dX2_free_37 hl (by decide) rfl (fun ls hl => ?_)
          have loop_39 : ∀ (n9 : Nat) (w : Nat) (f8 : Nat → va_E) (H : Heap) (locs : List Loc) (ls : Array Slot), (w ≤ 8) → (9 ≤ w + n9) → zM g am f σ bs th L f8 → zW g A s L f8 H locs → lv_has ls 5 [(0, .ref (am 0)), (1, .int (zFnd σ k)), (2, .int (nI k)), (3, .int (zb (zUsW σ (nI k) w))), (4, .int (nI w))] → W p l e { frames := 0, cells := 0, slots := 0, locals := 0 } s m args below meth c H locs 0 0 (vx_MQ below (zQ g A (fun r L1 f1 => some (.int (zFnd σ 11)) = r ∧ L = L1 ∧ zM g am f (zsST σ (zZero (zST σ) (zFnd σ 11) 64)) bs th L f1)) (zXC g A zNo) args s 0 0 A) (F0 m 39 ls []) := by
            intro n9
            induction n9 with
            | zero => intro w f8 H locs ls hk9 hn9 hm hw hl; exact absurd hn9 (by omega)
            | succ n9 ih_39 =>
              intro w f8 H locs ls hk9 hn9 hm hw hl
              refine lv_iload hx hb dX2_free_39 (lv_at hl 4 rfl) ?_
              refine lv_bipush (v := 8) hx hb dX2_free_41 (by decide) ?_
              refine lv_icmp_ge (tgt := 83) hx hb dX2_free_43 (by decide) (fun c_5 => ?_) (fun c_5 => ?_)
              · have hwe : w = 8 := zn_ge (n := 8) c_5 hk9 (by decide)
                subst hwe
                refine lv_iload_n hx hb dX2_free_83 rfl (lv_at hl 1 rfl) ?_
                refine lv_iconst (v := (-1)) hx hb dX2_free_84 (by decide) ?_
                refine lv_icmp_ne (tgt := 96) hx hb dX2_free_85 (by decide) (fun c_6 => ?_) (fun c_6 => ?_)
                · refine lv_iload_n hx hb dX2_free_96 rfl (lv_at hl 1 rfl) ?_
                  refine lv_istore_n (lv' := [(1, .int (zFnd σ k)), (0, .ref (am 0)), (2, .int (nI k)), (3, .int (zb (zUsW σ (nI k) 8))), (4, .int (nI 8))]) hx hb dX2_free_97 rfl hl (by decide) rfl (fun ls hl => ?_)
                  refine lv_iinc (v := ((nI k) + 1)) (lv' := [(2, .int ((nI k) + 1)), (1, .int (zFnd σ k)), (0, .ref (am 0)), (3, .int (zb (zUsW σ (nI k) 8))), (4, .int (nI 8))]) hx hb dX2_free_98 hl (k := 2) rfl rfl (by decide) rfl (fun ls hl => ?_)
                  refine lv_goto (tgt := 4) hx hb dX2_free_101 (by decide) ?_
                  refine ih_4 (k + 1) _ _ _ _ (by omega) (by omega) hm hw ?_
                  have hl := lv_sub hl (l' := [(0, .ref (am 0)), (1, .int (zFnd σ k)), (2, .int ((nI k) + 1))]) [2, 1, 0] rfl
                  rw [show zFnd σ (k + 1) = (zFnd σ k) from if_neg (fun h => by first | exact absurd h.1 (by assumption) | exact absurd (Bool.eq_false_iff.mp h.2) (by intro q; exact q (by assumption))), ← nI_1 k]
                  exact hl
                · refine lv_iload_n hx hb dX2_free_88 rfl (lv_at hl 3 rfl) ?_
                  refine zr_bne hx hb dX2_free_89 (tgt := 96) (by decide) (fun c_7 => ?_) (fun c_7 => ?_)
                  · refine lv_iload_n hx hb dX2_free_96 rfl (lv_at hl 1 rfl) ?_
                    refine lv_istore_n (lv' := [(1, .int (zFnd σ k)), (0, .ref (am 0)), (2, .int (nI k)), (3, .int (zb (zUsW σ (nI k) 8))), (4, .int (nI 8))]) hx hb dX2_free_97 rfl hl (by decide) rfl (fun ls hl => ?_)
                    refine lv_iinc (v := ((nI k) + 1)) (lv' := [(2, .int ((nI k) + 1)), (1, .int (zFnd σ k)), (0, .ref (am 0)), (3, .int (zb (zUsW σ (nI k) 8))), (4, .int (nI 8))]) hx hb dX2_free_98 hl (k := 2) rfl rfl (by decide) rfl (fun ls hl => ?_)
                    refine lv_goto (tgt := 4) hx hb dX2_free_101 (by decide) ?_
                    refine ih_4 (k + 1) _ _ _ _ (by omega) (by omega) hm hw ?_
                    have hl := lv_sub hl (l' := [(0, .ref (am 0)), (1, .int (zFnd σ k)), (2, .int ((nI k) + 1))]) [2, 1, 0] rfl
                    rw [show zFnd σ (k + 1) = (zFnd σ k) from if_neg (fun h => by first | exact absurd h.1 (by assumption) | exact absurd (Bool.eq_false_iff.mp h.2) (by intro q; exact q (by assumption))), ← nI_1 k]
                    exact hl
                  · refine lv_iload_n hx hb dX2_free_92 rfl (lv_at hl 2 rfl) ?_
                    refine lv_goto (tgt := 97) hx hb dX2_free_93 (by decide) ?_
                    refine lv_istore_n (lv' := [(1, .int (nI k)), (0, .ref (am 0)), (2, .int (nI k)), (3, .int (zb (zUsW σ (nI k) 8))), (4, .int (nI 8))]) hx hb dX2_free_97 rfl hl (by decide) rfl (fun ls hl => ?_)
                    refine lv_iinc (v := ((nI k) + 1)) (lv' := [(2, .int ((nI k) + 1)), (1, .int (nI k)), (0, .ref (am 0)), (3, .int (zb (zUsW σ (nI k) 8))), (4, .int (nI 8))]) hx hb dX2_free_98 hl (k := 2) rfl rfl (by decide) rfl (fun ls hl => ?_)
                    refine lv_goto (tgt := 4) hx hb dX2_free_101 (by decide) ?_
                    refine ih_4 (k + 1) _ _ _ _ (by omega) (by omega) hm hw ?_
                    have hl := lv_sub hl (l' := [(0, .ref (am 0)), (1, .int (nI k)), (2, .int ((nI k) + 1))]) [2, 1, 0] rfl
                    rw [show zFnd σ (k + 1) = (nI k) from if_pos ⟨by assumption, Bool.eq_false_iff.mpr (by assumption)⟩, ← nI_1 k]
                    exact hl
              · have hlt9 : w < 8 := zn_lt (n := 8) c_5 hk9 (by decide)
                refine lv_iload_n hx hb dX2_free_46 rfl (lv_at hl 3 rfl) ?_
                refine zr_bne hx hb dX2_free_47 (tgt := 71) (by decide) (fun c_8 => ?_) (fun c_8 => ?_)
                · refine lv_iconst (v := 1) hx hb dX2_free_71 (by decide) ?_
                  refine lv_goto (tgt := 76) hx hb dX2_free_72 (by decide) ?_
                  refine lv_istore_n (lv' := [(3, .int 1), (0, .ref (am 0)), (1, .int (zFnd σ k)), (2, .int (nI k)), (4, .int (nI w))]) hx hb dX2_free_76 rfl hl (by decide) rfl (fun ls hl => ?_)
                  refine lv_iinc (v := ((nI w) + 1)) (lv' := [(4, .int ((nI w) + 1)), (3, .int 1), (0, .ref (am 0)), (1, .int (zFnd σ k)), (2, .int (nI k))]) hx hb dX2_free_77 hl (k := 4) rfl rfl (by decide) rfl (fun ls hl => ?_)
                  refine lv_goto (tgt := 39) hx hb dX2_free_80 (by decide) ?_
                  refine ih_39 (w + 1) _ _ _ _ (by omega) (by omega) hm hw ?_
                  have hl := lv_sub hl (l' := [(0, .ref (am 0)), (1, .int (zFnd σ k)), (2, .int (nI k)), (3, .int 1), (4, .int ((nI w) + 1))]) [2, 3, 4, 1, 0] rfl
                  have hu : zUsW σ (nI k) (w + 1) = true := by simp only [zUsW, Bool.or_eq_true, Bool.and_eq_true, decide_eq_true_eq]; first | exact Or.inl (by assumption) | exact Or.inr ⟨by assumption, by assumption⟩
                  rw [hu, ← nI_1 w]
                  exact hl
                · refine lv_aload_n hx hb dX2_free_50 rfl (lv_at hl 0 rfl) ?_
                  refine zm_get (v := .ref (am 2)) hx hb hts hi_X2_free hown hw hm 1 (by decide) hf_X2_free_13 rfl dX2_free_51 ?_
                  refine lv_iload hx hb dX2_free_54 (lv_at hl 4 rfl) ?_
                  refine zm_ldK hx hb hw hm (vp_in_nI hlt9 (by decide)) dX2_free_56 ?_
                  refine lv_if_eq (tgt := 75) hx hb dX2_free_57 (by decide) (fun c_9 => ?_) (fun c_9 => ?_)
                  · refine lv_iconst (v := 0) hx hb dX2_free_75 (by decide) ?_
                    refine lv_istore_n (lv' := [(3, .int 0), (0, .ref (am 0)), (1, .int (zFnd σ k)), (2, .int (nI k)), (4, .int (nI w))]) hx hb dX2_free_76 rfl hl (by decide) rfl (fun ls hl => ?_)
                    refine lv_iinc (v := ((nI w) + 1)) (lv' := [(4, .int ((nI w) + 1)), (3, .int 0), (0, .ref (am 0)), (1, .int (zFnd σ k)), (2, .int (nI k))]) hx hb dX2_free_77 hl (k := 4) rfl rfl (by decide) rfl (fun ls hl => ?_)
                    refine lv_goto (tgt := 39) hx hb dX2_free_80 (by decide) ?_
                    refine ih_39 (w + 1) _ _ _ _ (by omega) (by omega) hm hw ?_
                    have hl := lv_sub hl (l' := [(0, .ref (am 0)), (1, .int (zFnd σ k)), (2, .int (nI k)), (3, .int 0), (4, .int ((nI w) + 1))]) [2, 3, 4, 1, 0] rfl
                    have hu : zUsW σ (nI k) (w + 1) = false := by rw [Bool.eq_false_iff]; simp only [zUsW, ne_eq, Bool.or_eq_true, Bool.and_eq_true, decide_eq_true_eq]; rintro (h | ⟨h, h1⟩) <;> contradiction
                    rw [hu, ← nI_1 w]
                    exact hl
                  · refine lv_aload_n hx hb dX2_free_60 rfl (lv_at hl 0 rfl) ?_
                    refine zm_get (v := .ref (am 3)) hx hb hts hi_X2_free hown hw hm 2 (by decide) hf_X2_free_17 rfl dX2_free_61 ?_
                    refine lv_iload hx hb dX2_free_64 (lv_at hl 4 rfl) ?_
                    refine zm_ldSI hx hb hw hm (vp_in_nI hlt9 (by decide)) dX2_free_66 ?_
                    refine lv_iload_n hx hb dX2_free_67 rfl (lv_at hl 2 rfl) ?_
                    refine lv_icmp_ne (tgt := 75) hx hb dX2_free_68 (by decide) (fun c_10 => ?_) (fun c_10 => ?_)
                    · refine lv_iconst (v := 0) hx hb dX2_free_75 (by decide) ?_
                      refine lv_istore_n (lv' := [(3, .int 0), (0, .ref (am 0)), (1, .int (zFnd σ k)), (2, .int (nI k)), (4, .int (nI w))]) hx hb dX2_free_76 rfl hl (by decide) rfl (fun ls hl => ?_)
                      refine lv_iinc (v := ((nI w) + 1)) (lv' := [(4, .int ((nI w) + 1)), (3, .int 0), (0, .ref (am 0)), (1, .int (zFnd σ k)), (2, .int (nI k))]) hx hb dX2_free_77 hl (k := 4) rfl rfl (by decide) rfl (fun ls hl => ?_)
                      refine lv_goto (tgt := 39) hx hb dX2_free_80 (by decide) ?_
                      refine ih_39 (w + 1) _ _ _ _ (by omega) (by omega) hm hw ?_
                      have hl := lv_sub hl (l' := [(0, .ref (am 0)), (1, .int (zFnd σ k)), (2, .int (nI k)), (3, .int 0), (4, .int ((nI w) + 1))]) [2, 3, 4, 1, 0] rfl
                      have hu : zUsW σ (nI k) (w + 1) = false := by rw [Bool.eq_false_iff]; simp only [zUsW, ne_eq, Bool.or_eq_true, Bool.and_eq_true, decide_eq_true_eq]; rintro (h | ⟨h, h1⟩) <;> contradiction
                      rw [hu, ← nI_1 w]
                      exact hl
                    · refine lv_iconst (v := 1) hx hb dX2_free_71 (by decide) ?_
                      refine lv_goto (tgt := 76) hx hb dX2_free_72 (by decide) ?_
                      refine lv_istore_n (lv' := [(3, .int 1), (0, .ref (am 0)), (1, .int (zFnd σ k)), (2, .int (nI k)), (4, .int (nI w))]) hx hb dX2_free_76 rfl hl (by decide) rfl (fun ls hl => ?_)
                      refine lv_iinc (v := ((nI w) + 1)) (lv' := [(4, .int ((nI w) + 1)), (3, .int 1), (0, .ref (am 0)), (1, .int (zFnd σ k)), (2, .int (nI k))]) hx hb dX2_free_77 hl (k := 4) rfl rfl (by decide) rfl (fun ls hl => ?_)
                      refine lv_goto (tgt := 39) hx hb dX2_free_80 (by decide) ?_
                      refine ih_39 (w + 1) _ _ _ _ (by omega) (by omega) hm hw ?_
                      have hl := lv_sub hl (l' := [(0, .ref (am 0)), (1, .int (zFnd σ k)), (2, .int (nI k)), (3, .int 1), (4, .int ((nI w) + 1))]) [2, 3, 4, 1, 0] rfl
                      have hu : zUsW σ (nI k) (w + 1) = true := by simp only [zUsW, Bool.or_eq_true, Bool.and_eq_true, decide_eq_true_eq]; first | exact Or.inl (by assumption) | exact Or.inr ⟨by assumption, by assumption⟩
                      rw [hu, ← nI_1 w]
                      exact hl
          refine loop_39 (9) 0 _ _ _ _ (by decide) (by decide) hm hw ?_
          have hl := lv_sub hl (l' := [(0, .ref (am 0)), (1, .int (zFnd σ k)), (2, .int (nI k)), (3, .int 1), (4, .int 0)]) [2, 3, 4, 1, 0] rfl
          have hu : zUsW σ (nI k) 0 = true := by simp only [zUsW, Bool.or_eq_true, decide_eq_true_eq]; first | exact Or.inl (by assumption) | exact Or.inr (by assumption)
          rw [hu]
          exact hl
        · refine lv_iload_n hx hb dX2_free_20 rfl (lv_at hl 2 rfl) ?_
          refine lv_aload_n hx hb dX2_free_21 rfl (lv_at hl 0 rfl) ?_
          refine zm_get (v := .ref (am 10)) hx hb hts hi_X2_free hown hw hm 9 (by decide) hf_X2_free_39 rfl dX2_free_22 ?_
          refine lv_iconst (v := 1) hx hb dX2_free_25 (by decide) ?_
          refine zm_ldRS hx hb hw hm (vp_in_iff.mpr (by decide)) dX2_free_26 ?_
          refine lv_icmp_ne (tgt := 34) hx hb dX2_free_27 (by decide) (fun c_11 => ?_) (fun c_11 => ?_)
          · refine lv_iconst (v := 0) hx hb dX2_free_34 (by decide) ?_
            refine lv_istore_n (lv' := [(3, .int 0), (0, .ref (am 0)), (1, .int (zFnd σ k)), (2, .int (nI k))]) hx hb dX2_free_35 rfl hl (by decide) rfl (fun ls hl => ?_)
            refine lv_iconst (v := 0) hx hb dX2_free_36 (by decide) ?_
            refine lv_istore (lv' := [(4, .int 0), (3, .int 0), (0, .ref (am 0)), (1, .int (zFnd σ k)), (2, .int (nI k))]) hx hb dX2_free_37 hl (by decide) rfl (fun ls hl => ?_)
            have loop_39 : ∀ (n9 : Nat) (w : Nat) (f8 : Nat → va_E) (H : Heap) (locs : List Loc) (ls : Array Slot), (w ≤ 8) → (9 ≤ w + n9) → zM g am f σ bs th L f8 → zW g A s L f8 H locs → lv_has ls 5 [(0, .ref (am 0)), (1, .int (zFnd σ k)), (2, .int (nI k)), (3, .int (zb (zUsW σ (nI k) w))), (4, .int (nI w))] → W p l e { frames := 0, cells := 0, slots := 0, locals := 0 } s m args below meth c H locs 0 0 (vx_MQ below (zQ g A (fun r L1 f1 => some (.int (zFnd σ 11)) = r ∧ L = L1 ∧ zM g am f (zsST σ (zZero (zST σ) (zFnd σ 11) 64)) bs th L f1)) (zXC g A zNo) args s 0 0 A) (F0 m 39 ls []) := by
              intro n9
              induction n9 with
              | zero => intro w f8 H locs ls hk9 hn9 hm hw hl; exact absurd hn9 (by omega)
              | succ n9 ih_39 =>
                intro w f8 H locs ls hk9 hn9 hm hw hl
                refine lv_iload hx hb dX2_free_39 (lv_at hl 4 rfl) ?_
                refine lv_bipush (v := 8) hx hb dX2_free_41 (by decide) ?_
                refine lv_icmp_ge (tgt := 83) hx hb dX2_free_43 (by decide) (fun c_12 => ?_) (fun c_12 => ?_)
                · have hwe : w = 8 := zn_ge (n := 8) c_12 hk9 (by decide)
                  subst hwe
                  refine lv_iload_n hx hb dX2_free_83 rfl (lv_at hl 1 rfl) ?_
                  refine lv_iconst (v := (-1)) hx hb dX2_free_84 (by decide) ?_
                  refine lv_icmp_ne (tgt := 96) hx hb dX2_free_85 (by decide) (fun c_13 => ?_) (fun c_13 => ?_)
                  · refine lv_iload_n hx hb dX2_free_96 rfl (lv_at hl 1 rfl) ?_
                    refine lv_istore_n (lv' := [(1, .int (zFnd σ k)), (0, .ref (am 0)), (2, .int (nI k)), (3, .int (zb (zUsW σ (nI k) 8))), (4, .int (nI 8))]) hx hb dX2_free_97 rfl hl (by decide) rfl (fun ls hl => ?_)
                    refine lv_iinc (v := ((nI k) + 1)) (lv' := [(2, .int ((nI k) + 1)), (1, .int (zFnd σ k)), (0, .ref (am 0)), (3, .int (zb (zUsW σ (nI k) 8))), (4, .int (nI 8))]) hx hb dX2_free_98 hl (k := 2) rfl rfl (by decide) rfl (fun ls hl => ?_)
                    refine lv_goto (tgt := 4) hx hb dX2_free_101 (by decide) ?_
                    refine ih_4 (k + 1) _ _ _ _ (by omega) (by omega) hm hw ?_
                    have hl := lv_sub hl (l' := [(0, .ref (am 0)), (1, .int (zFnd σ k)), (2, .int ((nI k) + 1))]) [2, 1, 0] rfl
                    rw [show zFnd σ (k + 1) = (zFnd σ k) from if_neg (fun h => by first | exact absurd h.1 (by assumption) | exact absurd (Bool.eq_false_iff.mp h.2) (by intro q; exact q (by assumption))), ← nI_1 k]
                    exact hl
                  · refine lv_iload_n hx hb dX2_free_88 rfl (lv_at hl 3 rfl) ?_
                    refine zr_bne hx hb dX2_free_89 (tgt := 96) (by decide) (fun c_14 => ?_) (fun c_14 => ?_)
                    · refine lv_iload_n hx hb dX2_free_96 rfl (lv_at hl 1 rfl) ?_
                      refine lv_istore_n (lv' := [(1, .int (zFnd σ k)), (0, .ref (am 0)), (2, .int (nI k)), (3, .int (zb (zUsW σ (nI k) 8))), (4, .int (nI 8))]) hx hb dX2_free_97 rfl hl (by decide) rfl (fun ls hl => ?_)
                      refine lv_iinc (v := ((nI k) + 1)) (lv' := [(2, .int ((nI k) + 1)), (1, .int (zFnd σ k)), (0, .ref (am 0)), (3, .int (zb (zUsW σ (nI k) 8))), (4, .int (nI 8))]) hx hb dX2_free_98 hl (k := 2) rfl rfl (by decide) rfl (fun ls hl => ?_)
                      refine lv_goto (tgt := 4) hx hb dX2_free_101 (by decide) ?_
                      refine ih_4 (k + 1) _ _ _ _ (by omega) (by omega) hm hw ?_
                      have hl := lv_sub hl (l' := [(0, .ref (am 0)), (1, .int (zFnd σ k)), (2, .int ((nI k) + 1))]) [2, 1, 0] rfl
                      rw [show zFnd σ (k + 1) = (zFnd σ k) from if_neg (fun h => by first | exact absurd h.1 (by assumption) | exact absurd (Bool.eq_false_iff.mp h.2) (by intro q; exact q (by assumption))), ← nI_1 k]
                      exact hl
                    · refine lv_iload_n hx hb dX2_free_92 rfl (lv_at hl 2 rfl) ?_
                      refine lv_goto (tgt := 97) hx hb dX2_free_93 (by decide) ?_
                      refine lv_istore_n (lv' := [(1, .int (nI k)), (0, .ref (am 0)), (2, .int (nI k)), (3, .int (zb (zUsW σ (nI k) 8))), (4, .int (nI 8))]) hx hb dX2_free_97 rfl hl (by decide) rfl (fun ls hl => ?_)
                      refine lv_iinc (v := ((nI k) + 1)) (lv' := [(2, .int ((nI k) + 1)), (1, .int (nI k)), (0, .ref (am 0)), (3, .int (zb (zUsW σ (nI k) 8))), (4, .int (nI 8))]) hx hb dX2_free_98 hl (k := 2) rfl rfl (by decide) rfl (fun ls hl => ?_)
                      refine lv_goto (tgt := 4) hx hb dX2_free_101 (by decide) ?_
                      refine ih_4 (k + 1) _ _ _ _ (by omega) (by omega) hm hw ?_
                      have hl := lv_sub hl (l' := [(0, .ref (am 0)), (1, .int (nI k)), (2, .int ((nI k) + 1))]) [2, 1, 0] rfl
                      rw [show zFnd σ (k + 1) = (nI k) from if_pos ⟨by assumption, Bool.eq_false_iff.mpr (by assumption)⟩, ← nI_1 k]
                      exact hl
                · have hlt9 : w < 8 := zn_lt (n := 8) c_12 hk9 (by decide)
                  refine lv_iload_n hx hb dX2_free_46 rfl (lv_at hl 3 rfl) ?_
                  refine zr_bne hx hb dX2_free_47 (tgt := 71) (by decide) (fun c_15 => ?_) (fun c_15 => ?_)
                  · refine lv_iconst (v := 1) hx hb dX2_free_71 (by decide) ?_
                    refine lv_goto (tgt := 76) hx hb dX2_free_72 (by decide) ?_
                    refine lv_istore_n (lv' := [(3, .int 1), (0, .ref (am 0)), (1, .int (zFnd σ k)), (2, .int (nI k)), (4, .int (nI w))]) hx hb dX2_free_76 rfl hl (by decide) rfl (fun ls hl => ?_)
                    refine lv_iinc (v := ((nI w) + 1)) (lv' := [(4, .int ((nI w) + 1)), (3, .int 1), (0, .ref (am 0)), (1, .int (zFnd σ k)), (2, .int (nI k))]) hx hb dX2_free_77 hl (k := 4) rfl rfl (by decide) rfl (fun ls hl => ?_)
                    refine lv_goto (tgt := 39) hx hb dX2_free_80 (by decide) ?_
                    refine ih_39 (w + 1) _ _ _ _ (by omega) (by omega) hm hw ?_
                    have hl := lv_sub hl (l' := [(0, .ref (am 0)), (1, .int (zFnd σ k)), (2, .int (nI k)), (3, .int 1), (4, .int ((nI w) + 1))]) [2, 3, 4, 1, 0] rfl
                    have hu : zUsW σ (nI k) (w + 1) = true := by simp only [zUsW, Bool.or_eq_true, Bool.and_eq_true, decide_eq_true_eq]; first | exact Or.inl (by assumption) | exact Or.inr ⟨by assumption, by assumption⟩
                    rw [hu, ← nI_1 w]
                    exact hl
                  · refine lv_aload_n hx hb dX2_free_50 rfl (lv_at hl 0 rfl) ?_
                    refine zm_get (v := .ref (am 2)) hx hb hts hi_X2_free hown hw hm 1 (by decide) hf_X2_free_13 rfl dX2_free_51 ?_
                    refine lv_iload hx hb dX2_free_54 (lv_at hl 4 rfl) ?_
                    refine zm_ldK hx hb hw hm (vp_in_nI hlt9 (by decide)) dX2_free_56 ?_
                    refine lv_if_eq (tgt := 75) hx hb dX2_free_57 (by decide) (fun c_16 => ?_) (fun c_16 => ?_)
                    · refine lv_iconst (v := 0) hx hb dX2_free_75 (by decide) ?_
                      refine lv_istore_n (lv' := [(3, .int 0), (0, .ref (am 0)), (1, .int (zFnd σ k)), (2, .int (nI k)), (4, .int (nI w))]) hx hb dX2_free_76 rfl hl (by decide) rfl (fun ls hl => ?_)
                      refine lv_iinc (v := ((nI w) + 1)) (lv' := [(4, .int ((nI w) + 1)), (3, .int 0), (0, .ref (am 0)), (1, .int (zFnd σ k)), (2, .int (nI k))]) hx hb dX2_free_77 hl (k := 4) rfl rfl (by decide) rfl (fun ls hl => ?_)
                      refine lv_goto (tgt := 39) hx hb dX2_free_80 (by decide) ?_
                      refine ih_39 (w + 1) _ _ _ _ (by omega) (by omega) hm hw ?_
                      have hl := lv_sub hl (l' := [(0, .ref (am 0)), (1, .int (zFnd σ k)), (2, .int (nI k)), (3, .int 0), (4, .int ((nI w) + 1))]) [2, 3, 4, 1, 0] rfl
                      have hu : zUsW σ (nI k) (w + 1) = false := by rw [Bool.eq_false_iff]; simp only [zUsW, ne_eq, Bool.or_eq_true, Bool.and_eq_true, decide_eq_true_eq]; rintro (h | ⟨h, h1⟩) <;> contradiction
                      rw [hu, ← nI_1 w]
                      exact hl
                    · refine lv_aload_n hx hb dX2_free_60 rfl (lv_at hl 0 rfl) ?_
                      refine zm_get (v := .ref (am 3)) hx hb hts hi_X2_free hown hw hm 2 (by decide) hf_X2_free_17 rfl dX2_free_61 ?_
                      refine lv_iload hx hb dX2_free_64 (lv_at hl 4 rfl) ?_
                      refine zm_ldSI hx hb hw hm (vp_in_nI hlt9 (by decide)) dX2_free_66 ?_
                      refine lv_iload_n hx hb dX2_free_67 rfl (lv_at hl 2 rfl) ?_
                      refine lv_icmp_ne (tgt := 75) hx hb dX2_free_68 (by decide) (fun c_17 => ?_) (fun c_17 => ?_)
                      · refine lv_iconst (v := 0) hx hb dX2_free_75 (by decide) ?_
                        refine lv_istore_n (lv' := [(3, .int 0), (0, .ref (am 0)), (1, .int (zFnd σ k)), (2, .int (nI k)), (4, .int (nI w))]) hx hb dX2_free_76 rfl hl (by decide) rfl (fun ls hl => ?_)
                        refine lv_iinc (v := ((nI w) + 1)) (lv' := [(4, .int ((nI w) + 1)), (3, .int 0), (0, .ref (am 0)), (1, .int (zFnd σ k)), (2, .int (nI k))]) hx hb dX2_free_77 hl (k := 4) rfl rfl (by decide) rfl (fun ls hl => ?_)
                        refine lv_goto (tgt := 39) hx hb dX2_free_80 (by decide) ?_
                        refine ih_39 (w + 1) _ _ _ _ (by omega) (by omega) hm hw ?_
                        have hl := lv_sub hl (l' := [(0, .ref (am 0)), (1, .int (zFnd σ k)), (2, .int (nI k)), (3, .int 0), (4, .int ((nI w) + 1))]) [2, 3, 4, 1, 0] rfl
                        have hu : zUsW σ (nI k) (w + 1) = false := by rw [Bool.eq_false_iff]; simp only [zUsW, ne_eq, Bool.or_eq_true, Bool.and_eq_true, decide_eq_true_eq]; rintro (h | ⟨h, h1⟩) <;> contradiction
                        rw [hu, ← nI_1 w]
                        exact hl
                      · refine lv_iconst (v := 1) hx hb dX2_free_71 (by decide) ?_
                        refine lv_goto (tgt := 76) hx hb dX2_free_72 (by decide) ?_
                        refine lv_istore_n (lv' := [(3, .int 1), (0, .ref (am 0)), (1, .int (zFnd σ k)), (2, .int (nI k)), (4, .int (nI w))]) hx hb dX2_free_76 rfl hl (by decide) rfl (fun ls hl => ?_)
                        refine lv_iinc (v := ((nI w) + 1)) (lv' := [(4, .int ((nI w) + 1)), (3, .int 1), (0, .ref (am 0)), (1, .int (zFnd σ k)), (2, .int (nI k))]) hx hb dX2_free_77 hl (k := 4) rfl rfl (by decide) rfl (fun ls hl => ?_)
                        refine lv_goto (tgt := 39) hx hb dX2_free_80 (by decide) ?_
                        refine ih_39 (w + 1) _ _ _ _ (by omega) (by omega) hm hw ?_
                        have hl := lv_sub hl (l' := [(0, .ref (am 0)), (1, .int (zFnd σ k)), (2, .int (nI k)), (3, .int 1), (4, .int ((nI w) + 1))]) [2, 3, 4, 1, 0] rfl
                        have hu : zUsW σ (nI k) (w + 1) = true := by simp only [zUsW, Bool.or_eq_true, Bool.and_eq_true, decide_eq_true_eq]; first | exact Or.inl (by assumption) | exact Or.inr ⟨by assumption, by assumption⟩
                        rw [hu, ← nI_1 w]
                        exact hl
            refine loop_39 (9) 0 _ _ _ _ (by decide) (by decide) hm hw ?_
            have hl := lv_sub hl (l' := [(0, .ref (am 0)), (1, .int (zFnd σ k)), (2, .int (nI k)), (3, .int 0), (4, .int 0)]) [2, 3, 4, 1, 0] rfl
            have hu : zUsW σ (nI k) 0 = false := by rw [Bool.eq_false_iff]; simp only [zUsW, ne_eq, Bool.or_eq_true, decide_eq_true_eq]; rintro (h | h) <;> contradiction
            rw [hu]
            exact hl
          · refine lv_iconst (v := 1) hx hb dX2_free_30 (by decide) ?_
            refine lv_goto (tgt := 35) hx hb dX2_free_31 (by decide) ?_
            refine lv_istore_n (lv' := [(3, .int 1), (0, .ref (am 0)), (1, .int (zFnd σ k)), (2, .int (nI k))]) hx hb dX2_free_35 rfl hl (by decide) rfl (fun ls hl => ?_)
            refine lv_iconst (v := 0) hx hb dX2_free_36 (by decide) ?_
            refine lv_istore (lv' := [(4, .int 0), (3, .int 1), (0, .ref (am 0)), (1, .int (zFnd σ k)), (2, .int (nI k))]) hx hb dX2_free_37 hl (by decide) rfl (fun ls hl => ?_)
            have loop_39 : ∀ (n9 : Nat) (w : Nat) (f8 : Nat → va_E) (H : Heap) (locs : List Loc) (ls : Array Slot), (w ≤ 8) → (9 ≤ w + n9) → zM g am f σ bs th L f8 → zW g A s L f8 H locs → lv_has ls 5 [(0, .ref (am 0)), (1, .int (zFnd σ k)), (2, .int (nI k)), (3, .int (zb (zUsW σ (nI k) w))), (4, .int (nI w))] → W p l e { frames := 0, cells := 0, slots := 0, locals := 0 } s m args below meth c H locs 0 0 (vx_MQ below (zQ g A (fun r L1 f1 => some (.int (zFnd σ 11)) = r ∧ L = L1 ∧ zM g am f (zsST σ (zZero (zST σ) (zFnd σ 11) 64)) bs th L f1)) (zXC g A zNo) args s 0 0 A) (F0 m 39 ls []) := by
              intro n9
              induction n9 with
              | zero => intro w f8 H locs ls hk9 hn9 hm hw hl; exact absurd hn9 (by omega)
              | succ n9 ih_39 =>
                intro w f8 H locs ls hk9 hn9 hm hw hl
                refine lv_iload hx hb dX2_free_39 (lv_at hl 4 rfl) ?_
                refine lv_bipush (v := 8) hx hb dX2_free_41 (by decide) ?_
                refine lv_icmp_ge (tgt := 83) hx hb dX2_free_43 (by decide) (fun c_18 => ?_) (fun c_18 => ?_)
                · have hwe : w = 8 := zn_ge (n := 8) c_18 hk9 (by decide)
                  subst hwe
                  refine lv_iload_n hx hb dX2_free_83 rfl (lv_at hl 1 rfl) ?_
                  refine lv_iconst (v := (-1)) hx hb dX2_free_84 (by decide) ?_
                  refine lv_icmp_ne (tgt := 96) hx hb dX2_free_85 (by decide) (fun c_19 => ?_) (fun c_19 => ?_)
                  · refine lv_iload_n hx hb dX2_free_96 rfl (lv_at hl 1 rfl) ?_
                    refine lv_istore_n (lv' := [(1, .int (zFnd σ k)), (0, .ref (am 0)), (2, .int (nI k)), (3, .int (zb (zUsW σ (nI k) 8))), (4, .int (nI 8))]) hx hb dX2_free_97 rfl hl (by decide) rfl (fun ls hl => ?_)
                    refine lv_iinc (v := ((nI k) + 1)) (lv' := [(2, .int ((nI k) + 1)), (1, .int (zFnd σ k)), (0, .ref (am 0)), (3, .int (zb (zUsW σ (nI k) 8))), (4, .int (nI 8))]) hx hb dX2_free_98 hl (k := 2) rfl rfl (by decide) rfl (fun ls hl => ?_)
                    refine lv_goto (tgt := 4) hx hb dX2_free_101 (by decide) ?_
                    refine ih_4 (k + 1) _ _ _ _ (by omega) (by omega) hm hw ?_
                    have hl := lv_sub hl (l' := [(0, .ref (am 0)), (1, .int (zFnd σ k)), (2, .int ((nI k) + 1))]) [2, 1, 0] rfl
                    rw [show zFnd σ (k + 1) = (zFnd σ k) from if_neg (fun h => by first | exact absurd h.1 (by assumption) | exact absurd (Bool.eq_false_iff.mp h.2) (by intro q; exact q (by assumption))), ← nI_1 k]
                    exact hl
                  · refine lv_iload_n hx hb dX2_free_88 rfl (lv_at hl 3 rfl) ?_
                    refine zr_bne hx hb dX2_free_89 (tgt := 96) (by decide) (fun c_20 => ?_) (fun c_20 => ?_)
                    · refine lv_iload_n hx hb dX2_free_96 rfl (lv_at hl 1 rfl) ?_
                      refine lv_istore_n (lv' := [(1, .int (zFnd σ k)), (0, .ref (am 0)), (2, .int (nI k)), (3, .int (zb (zUsW σ (nI k) 8))), (4, .int (nI 8))]) hx hb dX2_free_97 rfl hl (by decide) rfl (fun ls hl => ?_)
                      refine lv_iinc (v := ((nI k) + 1)) (lv' := [(2, .int ((nI k) + 1)), (1, .int (zFnd σ k)), (0, .ref (am 0)), (3, .int (zb (zUsW σ (nI k) 8))), (4, .int (nI 8))]) hx hb dX2_free_98 hl (k := 2) rfl rfl (by decide) rfl (fun ls hl => ?_)
                      refine lv_goto (tgt := 4) hx hb dX2_free_101 (by decide) ?_
                      refine ih_4 (k + 1) _ _ _ _ (by omega) (by omega) hm hw ?_
                      have hl := lv_sub hl (l' := [(0, .ref (am 0)), (1, .int (zFnd σ k)), (2, .int ((nI k) + 1))]) [2, 1, 0] rfl
                      rw [show zFnd σ (k + 1) = (zFnd σ k) from if_neg (fun h => by first | exact absurd h.1 (by assumption) | exact absurd (Bool.eq_false_iff.mp h.2) (by intro q; exact q (by assumption))), ← nI_1 k]
                      exact hl
                    · refine lv_iload_n hx hb dX2_free_92 rfl (lv_at hl 2 rfl) ?_
                      refine lv_goto (tgt := 97) hx hb dX2_free_93 (by decide) ?_
                      refine lv_istore_n (lv' := [(1, .int (nI k)), (0, .ref (am 0)), (2, .int (nI k)), (3, .int (zb (zUsW σ (nI k) 8))), (4, .int (nI 8))]) hx hb dX2_free_97 rfl hl (by decide) rfl (fun ls hl => ?_)
                      refine lv_iinc (v := ((nI k) + 1)) (lv' := [(2, .int ((nI k) + 1)), (1, .int (nI k)), (0, .ref (am 0)), (3, .int (zb (zUsW σ (nI k) 8))), (4, .int (nI 8))]) hx hb dX2_free_98 hl (k := 2) rfl rfl (by decide) rfl (fun ls hl => ?_)
                      refine lv_goto (tgt := 4) hx hb dX2_free_101 (by decide) ?_
                      refine ih_4 (k + 1) _ _ _ _ (by omega) (by omega) hm hw ?_
                      have hl := lv_sub hl (l' := [(0, .ref (am 0)), (1, .int (nI k)), (2, .int ((nI k) + 1))]) [2, 1, 0] rfl
                      rw [show zFnd σ (k + 1) = (nI k) from if_pos ⟨by assumption, Bool.eq_false_iff.mpr (by assumption)⟩, ← nI_1 k]
                      exact hl
                · have hlt9 : w < 8 := zn_lt (n := 8) c_18 hk9 (by decide)
                  refine lv_iload_n hx hb dX2_free_46 rfl (lv_at hl 3 rfl) ?_
                  refine zr_bne hx hb dX2_free_47 (tgt := 71) (by decide) (fun c_21 => ?_) (fun c_21 => ?_)
                  · refine lv_iconst (v := 1) hx hb dX2_free_71 (by decide) ?_
                    refine lv_goto (tgt := 76) hx hb dX2_free_72 (by decide) ?_
                    refine lv_istore_n (lv' := [(3, .int 1), (0, .ref (am 0)), (1, .int (zFnd σ k)), (2, .int (nI k)), (4, .int (nI w))]) hx hb dX2_free_76 rfl hl (by decide) rfl (fun ls hl => ?_)
                    refine lv_iinc (v := ((nI w) + 1)) (lv' := [(4, .int ((nI w) + 1)), (3, .int 1), (0, .ref (am 0)), (1, .int (zFnd σ k)), (2, .int (nI k))]) hx hb dX2_free_77 hl (k := 4) rfl rfl (by decide) rfl (fun ls hl => ?_)
                    refine lv_goto (tgt := 39) hx hb dX2_free_80 (by decide) ?_
                    refine ih_39 (w + 1) _ _ _ _ (by omega) (by omega) hm hw ?_
                    have hl := lv_sub hl (l' := [(0, .ref (am 0)), (1, .int (zFnd σ k)), (2, .int (nI k)), (3, .int 1), (4, .int ((nI w) + 1))]) [2, 3, 4, 1, 0] rfl
                    have hu : zUsW σ (nI k) (w + 1) = true := by simp only [zUsW, Bool.or_eq_true, Bool.and_eq_true, decide_eq_true_eq]; first | exact Or.inl (by assumption) | exact Or.inr ⟨by assumption, by assumption⟩
                    rw [hu, ← nI_1 w]
                    exact hl
                  · refine lv_aload_n hx hb dX2_free_50 rfl (lv_at hl 0 rfl) ?_
                    refine zm_get (v := .ref (am 2)) hx hb hts hi_X2_free hown hw hm 1 (by decide) hf_X2_free_13 rfl dX2_free_51 ?_
                    refine lv_iload hx hb dX2_free_54 (lv_at hl 4 rfl) ?_
                    refine zm_ldK hx hb hw hm (vp_in_nI hlt9 (by decide)) dX2_free_56 ?_
                    refine lv_if_eq (tgt := 75) hx hb dX2_free_57 (by decide) (fun c_22 => ?_) (fun c_22 => ?_)
                    · refine lv_iconst (v := 0) hx hb dX2_free_75 (by decide) ?_
                      refine lv_istore_n (lv' := [(3, .int 0), (0, .ref (am 0)), (1, .int (zFnd σ k)), (2, .int (nI k)), (4, .int (nI w))]) hx hb dX2_free_76 rfl hl (by decide) rfl (fun ls hl => ?_)
                      refine lv_iinc (v := ((nI w) + 1)) (lv' := [(4, .int ((nI w) + 1)), (3, .int 0), (0, .ref (am 0)), (1, .int (zFnd σ k)), (2, .int (nI k))]) hx hb dX2_free_77 hl (k := 4) rfl rfl (by decide) rfl (fun ls hl => ?_)
                      refine lv_goto (tgt := 39) hx hb dX2_free_80 (by decide) ?_
                      refine ih_39 (w + 1) _ _ _ _ (by omega) (by omega) hm hw ?_
                      have hl := lv_sub hl (l' := [(0, .ref (am 0)), (1, .int (zFnd σ k)), (2, .int (nI k)), (3, .int 0), (4, .int ((nI w) + 1))]) [2, 3, 4, 1, 0] rfl
                      have hu : zUsW σ (nI k) (w + 1) = false := by rw [Bool.eq_false_iff]; simp only [zUsW, ne_eq, Bool.or_eq_true, Bool.and_eq_true, decide_eq_true_eq]; rintro (h | ⟨h, h1⟩) <;> contradiction
                      rw [hu, ← nI_1 w]
                      exact hl
                    · refine lv_aload_n hx hb dX2_free_60 rfl (lv_at hl 0 rfl) ?_
                      refine zm_get (v := .ref (am 3)) hx hb hts hi_X2_free hown hw hm 2 (by decide) hf_X2_free_17 rfl dX2_free_61 ?_
                      refine lv_iload hx hb dX2_free_64 (lv_at hl 4 rfl) ?_
                      refine zm_ldSI hx hb hw hm (vp_in_nI hlt9 (by decide)) dX2_free_66 ?_
                      refine lv_iload_n hx hb dX2_free_67 rfl (lv_at hl 2 rfl) ?_
                      refine lv_icmp_ne (tgt := 75) hx hb dX2_free_68 (by decide) (fun c_23 => ?_) (fun c_23 => ?_)
                      · refine lv_iconst (v := 0) hx hb dX2_free_75 (by decide) ?_
                        refine lv_istore_n (lv' := [(3, .int 0), (0, .ref (am 0)), (1, .int (zFnd σ k)), (2, .int (nI k)), (4, .int (nI w))]) hx hb dX2_free_76 rfl hl (by decide) rfl (fun ls hl => ?_)
                        refine lv_iinc (v := ((nI w) + 1)) (lv' := [(4, .int ((nI w) + 1)), (3, .int 0), (0, .ref (am 0)), (1, .int (zFnd σ k)), (2, .int (nI k))]) hx hb dX2_free_77 hl (k := 4) rfl rfl (by decide) rfl (fun ls hl => ?_)
                        refine lv_goto (tgt := 39) hx hb dX2_free_80 (by decide) ?_
                        refine ih_39 (w + 1) _ _ _ _ (by omega) (by omega) hm hw ?_
                        have hl := lv_sub hl (l' := [(0, .ref (am 0)), (1, .int (zFnd σ k)), (2, .int (nI k)), (3, .int 0), (4, .int ((nI w) + 1))]) [2, 3, 4, 1, 0] rfl
                        have hu : zUsW σ (nI k) (w + 1) = false := by rw [Bool.eq_false_iff]; simp only [zUsW, ne_eq, Bool.or_eq_true, Bool.and_eq_true, decide_eq_true_eq]; rintro (h | ⟨h, h1⟩) <;> contradiction
                        rw [hu, ← nI_1 w]
                        exact hl
                      · refine lv_iconst (v := 1) hx hb dX2_free_71 (by decide) ?_
                        refine lv_goto (tgt := 76) hx hb dX2_free_72 (by decide) ?_
                        refine lv_istore_n (lv' := [(3, .int 1), (0, .ref (am 0)), (1, .int (zFnd σ k)), (2, .int (nI k)), (4, .int (nI w))]) hx hb dX2_free_76 rfl hl (by decide) rfl (fun ls hl => ?_)
                        refine lv_iinc (v := ((nI w) + 1)) (lv' := [(4, .int ((nI w) + 1)), (3, .int 1), (0, .ref (am 0)), (1, .int (zFnd σ k)), (2, .int (nI k))]) hx hb dX2_free_77 hl (k := 4) rfl rfl (by decide) rfl (fun ls hl => ?_)
                        refine lv_goto (tgt := 39) hx hb dX2_free_80 (by decide) ?_
                        refine ih_39 (w + 1) _ _ _ _ (by omega) (by omega) hm hw ?_
                        have hl := lv_sub hl (l' := [(0, .ref (am 0)), (1, .int (zFnd σ k)), (2, .int (nI k)), (3, .int 1), (4, .int ((nI w) + 1))]) [2, 3, 4, 1, 0] rfl
                        have hu : zUsW σ (nI k) (w + 1) = true := by simp only [zUsW, Bool.or_eq_true, Bool.and_eq_true, decide_eq_true_eq]; first | exact Or.inl (by assumption) | exact Or.inr ⟨by assumption, by assumption⟩
                        rw [hu, ← nI_1 w]
                        exact hl
            refine loop_39 (9) 0 _ _ _ _ (by decide) (by decide) hm hw ?_
            have hl := lv_sub hl (l' := [(0, .ref (am 0)), (1, .int (zFnd σ k)), (2, .int (nI k)), (3, .int 1), (4, .int 0)]) [2, 3, 4, 1, 0] rfl
            have hu : zUsW σ (nI k) 0 = true := by simp only [zUsW, Bool.or_eq_true, decide_eq_true_eq]; first | exact Or.inl (by assumption) | exact Or.inr (by assumption)
            rw [hu]
            exact hl
  refine loop_4 (12) 0 _ _ _ _ (by decide) (by decide) hm hw ?_
  have hl := lv_sub hl (l' := [(0, .ref (am 0)), (1, .int (-1)), (2, .int 0)]) [2, 1, 0] rfl
  exact hl

def o_make (σ : ZS) (p0 : Int32) (p1 : Int32) : Int32 × Int32 × ZS := if zin p0 0 1 = true then if zin p1 0 64 = true then (0, zRL σ (Int32.toNatClampNeg p0), zsRL (zsRS (zsST σ (zZero (zST σ) (zFnd σ 11) 64)) (upd (zRS σ) (Int32.toNatClampNeg p0) (zFnd σ 11))) (upd (zRL σ) (Int32.toNatClampNeg p0) p1)) else (2, 0, σ) else (1, 0, σ)

theorem hi_X2_make : ∀ w ∈ wsX20, w ∈ wsX2_make := by decide +kernel
theorem hf_X2_make_39 : Cond.fieldLink RX2 39 (TX2 9).1 (TX2 9).2.1 (TX2 9).2.2.1 ∈ wsX2_make := by decide +kernel
theorem hf_X2_make_42 : Cond.fieldLink RX2 42 (TX2 10).1 (TX2 10).2.1 (TX2 10).2.2.1 ∈ wsX2_make := by decide +kernel
theorem hf_X2_make_48 : Cond.fieldLink RX2 48 (TX2 12).1 (TX2 12).2.1 (TX2 12).2.2.1 ∈ wsX2_make := by decide +kernel
set_option maxRecDepth 100000 in
set_option maxHeartbeats 4000000 in
theorem c_X2_make (l : Launch) (g : zG) (am : Nat → Nat) (L : List Nat) (f : Nat → va_E) (σ : ZS) (bs : Nat → Int64) (th : Int32) (p0 : Int32) (p1 : Int32) (hm : zM g am f σ bs th L f) {ln : Nat → Nat} {kd : Nat → Int32} (hI : zI σ ln kd) : zC l yX2_make wsX2_make { frames := 1, cells := 0, slots := 0, locals := 24 } 0 0 g [.ref (am 0), .int p0, .int p1] L f (fun r L1 f1 => L = L1 ∧ ∃ (b9 : Int32) (bs1 : Nat → Int64), some (.int b9) = r ∧ zM g am f (o_make σ p0 p1).2.2 bs1 (o_make σ p0 p1).1 L f1 ∧ ((o_make σ p0 p1).1 = 0 → b9 = (o_make σ p0 p1).2.1)) zNo := by
  refine z_ofW (cc := cX2_make) (maxL := 4) (ret := (some .int)) (by decide) rfl (Nat.le_of_ble_eq_true rfl) ?_
  intro p e s m args below meth c ls A hx hb hr hts hown hlocks hml htab hin hw hX hl
  have hl : lv_has ls 4 [(0, .ref (am 0)), (1, .int p0), (2, .int p1)] := hl
  have hown : s.vm.findClass RX2 = some m.cls := hown
  refine lv_aload_n hx hb dX2_make_0 rfl (lv_at hl 0 rfl) ?_
  refine lv_iload_n hx hb dX2_make_1 rfl (lv_at hl 1 rfl) ?_
  refine lv_iconst (v := 0) hx hb dX2_make_2 (by decide) ?_
  refine lv_iconst (v := 1) hx hb dX2_make_3 (by decide) ?_
  refine z_callS (As := [.int p0, .int 0, .int 1]) (rest := [.ref (am 0)]) ⟨hx, hb, hml, hown, hts⟩ hw hX (c_X2_in l g L f p0 0 1) (va_cwS 3 hts gX2_make_X2_in rfl rfl rfl (by decide +kernel) ⟨(Nat.le_of_ble_eq_true rfl), (Nat.le_of_ble_eq_true rfl)⟩) rfl hl.1 rfl (Nat.le_of_ble_eq_true rfl) dX2_make_4 ⟨(Nat.le_of_ble_eq_true rfl), (Nat.le_of_ble_eq_true rfl)⟩ (fun _ _ _ _ _ _ _ hp => False.elim hp) (fun r9 L9 f9 H locs hp hw => ?_)
  obtain ⟨rfl, rfl, rfl⟩ := hp
  refine W.eq (g2 := F0 m 7 ls [.int (zb (zin p0 0 1)), .ref (am 0)]) rfl ?_
  refine zr_bne hx hb dX2_make_7 (tgt := 14) (by decide) (fun c_1 => ?_) (fun c_1 => ?_)
  · refine lv_iload_n hx hb dX2_make_14 rfl (lv_at hl 2 rfl) ?_
    refine lv_iconst (v := 0) hx hb dX2_make_15 (by decide) ?_
    refine lv_bipush (v := 64) hx hb dX2_make_16 (by decide) ?_
    refine z_callS (As := [.int p1, .int 0, .int 64]) (rest := [.ref (am 0)]) ⟨hx, hb, hml, hown, hts⟩ hw hX (c_X2_in l g L f p1 0 64) (va_cwS 3 hts gX2_make_X2_in rfl rfl rfl (by decide +kernel) ⟨(Nat.le_of_ble_eq_true rfl), (Nat.le_of_ble_eq_true rfl)⟩) rfl hl.1 rfl (Nat.le_of_ble_eq_true rfl) dX2_make_18 ⟨(Nat.le_of_ble_eq_true rfl), (Nat.le_of_ble_eq_true rfl)⟩ (fun _ _ _ _ _ _ _ hp => False.elim hp) (fun r9 L9 f9 H locs hp hw => ?_)
    obtain ⟨rfl, rfl, rfl⟩ := hp
    refine W.eq (g2 := F0 m 21 ls [.int (zb (zin p1 0 64)), .ref (am 0)]) rfl ?_
    refine zr_bne hx hb dX2_make_21 (tgt := 28) (by decide) (fun c_2 => ?_) (fun c_2 => ?_)
    · refine lv_iconst (v := 0) hx hb dX2_make_28 (by decide) ?_
      refine zm_putT hx hb hts hi_X2_make hown hw hm hf_X2_make_48 dX2_make_29 (fun f_3 H locs hm hw => ?_)
      refine lv_aload_n hx hb dX2_make_32 rfl (lv_at hl 0 rfl) ?_
      refine zm_get (v := .int 0) hx hb hts hi_X2_make hown hw hm 12 (by decide) hf_X2_make_48 rfl dX2_make_33 ?_
      refine lv_if_le (tgt := 41) hx hb dX2_make_36 (by decide) (fun c_4 => ?_) (fun c_4 => absurd (by decide) c_4)
      refine lv_aload_n hx hb dX2_make_41 rfl (lv_at hl 0 rfl) ?_
      refine zm_get (v := .ref (am 11)) hx hb hts hi_X2_make hown hw hm 10 (by decide) hf_X2_make_42 rfl dX2_make_42 ?_
      refine lv_iload_n hx hb dX2_make_45 rfl (lv_at hl 1 rfl) ?_
      refine zm_ldRL hx hb hw hm (zin_1 (by assumption)) dX2_make_46 ?_
      refine lv_istore_n (lv' := [(3, .int (zRL σ (Int32.toNatClampNeg p0))), (0, .ref (am 0)), (1, .int p0), (2, .int p1)]) hx hb dX2_make_47 rfl hl (by decide) rfl (fun ls hl => ?_)
      refine lv_aload_n hx hb dX2_make_48 rfl (lv_at hl 1 rfl) ?_
      refine zm_get (v := .ref (am 10)) hx hb hts hi_X2_make hown hw hm 9 (by decide) hf_X2_make_39 rfl dX2_make_49 ?_
      refine lv_iload_n hx hb dX2_make_52 rfl (lv_at hl 2 rfl) ?_
      refine lv_aload_n hx hb dX2_make_53 rfl (lv_at hl 1 rfl) ?_
      refine z_callV (As := []) (rest := [.int p0, .ref (am 10)]) ⟨hx, hb, hml, hown, hts⟩ hw hX (hm.1.1 0 (by decide)) rfl (c_X2_free l g am L f_3 σ bs 0 hm.rf (zI_free hI)) (cwV 0 hts gX2_make_X2_free rfl rfl rfl (by decide +kernel) ⟨(Nat.le_of_ble_eq_true rfl), (Nat.le_of_ble_eq_true rfl)⟩) rfl hl.1 rfl (Nat.le_of_ble_eq_true rfl) dX2_make_54 ⟨(Nat.le_of_ble_eq_true rfl), (Nat.le_of_ble_eq_true rfl)⟩ (fun _ _ _ _ _ _ _ hp => False.elim hp) (fun r9 L9 f9 H locs hp hw => ?_)
      obtain ⟨rfl, rfl, hm9⟩ := hp
      refine W.eq (g2 := F0 m 57 ls [.int (zFnd σ 11), .int p0, .ref (am 10)]) rfl ?_
      have hm := hm.tr hm9
      refine zm_stRS hx hb hw hm (zin_1 (by assumption)) dX2_make_57 (fun f_5 H locs hm hw => ?_)
      refine lv_aload_n hx hb dX2_make_58 rfl (lv_at hl 1 rfl) ?_
      refine zm_get (v := .ref (am 11)) hx hb hts hi_X2_make hown hw hm 10 (by decide) hf_X2_make_42 rfl dX2_make_59 ?_
      refine lv_iload_n hx hb dX2_make_62 rfl (lv_at hl 2 rfl) ?_
      refine lv_iload_n hx hb dX2_make_63 rfl (lv_at hl 3 rfl) ?_
      refine zm_stRL hx hb hw hm (zin_1 (by assumption)) dX2_make_64 (fun f_6 H locs hm hw => ?_)
      refine lv_iload_n hx hb dX2_make_65 rfl (lv_at hl 0 rfl) ?_
      have ho : (o_make σ p0 p1) = (0, (zRL σ (Int32.toNatClampNeg p0)), (zsRL (zsRS (zsST σ (zZero (zST σ) (zFnd σ 11) 64)) (upd (zRS (zsST σ (zZero (zST σ) (zFnd σ 11) 64))) (Int32.toNatClampNeg p0) (zFnd σ 11))) (upd (zRL (zsRS (zsST σ (zZero (zST σ) (zFnd σ 11) 64)) (upd (zRS (zsST σ (zZero (zST σ) (zFnd σ 11) 64))) (Int32.toNatClampNeg p0) (zFnd σ 11)))) (Int32.toNatClampNeg p0) p1))) := by unfold o_make; first | exact (if_pos (show (zin p0 0 1 = true) from by assumption)).trans (if_pos (show (zin p1 0 64 = true) from by assumption))
      exact z_iret hx hb hr hlocks hw (Nat.le_of_ble_eq_true rfl) (Nat.le_of_ble_eq_true rfl) dX2_make_66 ⟨rfl, _, _, rfl, by rw [ho]; exact hm, by rw [ho]; exact fun _ => rfl⟩
    · refine lv_iconst (v := 2) hx hb dX2_make_24 (by decide) ?_
      refine lv_goto (tgt := 29) hx hb dX2_make_25 (by decide) ?_
      refine zm_putT hx hb hts hi_X2_make hown hw hm hf_X2_make_48 dX2_make_29 (fun f_7 H locs hm hw => ?_)
      refine lv_aload_n hx hb dX2_make_32 rfl (lv_at hl 0 rfl) ?_
      refine zm_get (v := .int 2) hx hb hts hi_X2_make hown hw hm 12 (by decide) hf_X2_make_48 rfl dX2_make_33 ?_
      refine lv_if_le (tgt := 41) hx hb dX2_make_36 (by decide) (fun c_8 => absurd c_8 (by decide)) (fun c_8 => ?_)
      refine lv_iconst (v := 0) hx hb dX2_make_39 (by decide) ?_
      have ho : (o_make σ p0 p1) = (2, 0, σ) := by unfold o_make; first | exact (if_pos (show (zin p0 0 1 = true) from by assumption)).trans (if_neg (show ¬ (zin p1 0 64 = true) from by assumption))
      exact z_iret hx hb hr hlocks hw (Nat.le_of_ble_eq_true rfl) (Nat.le_of_ble_eq_true rfl) dX2_make_40 ⟨rfl, _, _, rfl, by rw [ho]; exact hm, by rw [ho]; exact fun h => absurd (show (2 : Int32) = 0 from h) (by decide)⟩
  · refine lv_iconst (v := 1) hx hb dX2_make_10 (by decide) ?_
    refine lv_goto (tgt := 29) hx hb dX2_make_11 (by decide) ?_
    refine zm_putT hx hb hts hi_X2_make hown hw hm hf_X2_make_48 dX2_make_29 (fun f_9 H locs hm hw => ?_)
    refine lv_aload_n hx hb dX2_make_32 rfl (lv_at hl 0 rfl) ?_
    refine zm_get (v := .int 1) hx hb hts hi_X2_make hown hw hm 12 (by decide) hf_X2_make_48 rfl dX2_make_33 ?_
    refine lv_if_le (tgt := 41) hx hb dX2_make_36 (by decide) (fun c_10 => absurd c_10 (by decide)) (fun c_10 => ?_)
    refine lv_iconst (v := 0) hx hb dX2_make_39 (by decide) ?_
    have ho : (o_make σ p0 p1) = (1, 0, σ) := by unfold o_make; first | exact if_neg (show ¬ (zin p0 0 1 = true) from by assumption)
    exact z_iret hx hb hr hlocks hw (Nat.le_of_ble_eq_true rfl) (Nat.le_of_ble_eq_true rfl) dX2_make_40 ⟨rfl, _, _, rfl, by rw [ho]; exact hm, by rw [ho]; exact fun h => absurd (show (1 : Int32) = 0 from h) (by decide)⟩

def o_allocate (σ : ZS) (p0 : Int32) (p1 : Int32) (p2 : Int32) : Int32 × Int32 × ZS := if zin p0 0 7 = true then if p1 = 105 then if zin p2 0 64 = true then if zK σ (Int32.toNatClampNeg p0) = 0 then (0, 0, (zBecomes (zsST (zsK σ (upd (zK σ) (Int32.toNatClampNeg p0) 0)) (zZero (zST (zsK σ (upd (zK σ) (Int32.toNatClampNeg p0) 0))) (zFnd (zsK σ (upd (zK σ) (Int32.toNatClampNeg p0) 0)) 11) 64)) (Int32.toNatClampNeg p0) p1 (zFnd (zsK σ (upd (zK σ) (Int32.toNatClampNeg p0) 0)) 11) 0 p2 0)) else (0, 1, (zBecomes (zsST (zsK σ (upd (zK σ) (Int32.toNatClampNeg p0) 0)) (zZero (zST (zsK σ (upd (zK σ) (Int32.toNatClampNeg p0) 0))) (zFnd (zsK σ (upd (zK σ) (Int32.toNatClampNeg p0) 0)) 11) 64)) (Int32.toNatClampNeg p0) p1 (zFnd (zsK σ (upd (zK σ) (Int32.toNatClampNeg p0) 0)) 11) 0 p2 0)) else (2, 0, σ) else if p1 = 108 then if zin p2 0 64 = true then if zK σ (Int32.toNatClampNeg p0) = 0 then (0, 0, (zBecomes (zsST (zsK σ (upd (zK σ) (Int32.toNatClampNeg p0) 0)) (zZero (zST (zsK σ (upd (zK σ) (Int32.toNatClampNeg p0) 0))) (zFnd (zsK σ (upd (zK σ) (Int32.toNatClampNeg p0) 0)) 11) 64)) (Int32.toNatClampNeg p0) p1 (zFnd (zsK σ (upd (zK σ) (Int32.toNatClampNeg p0) 0)) 11) 0 p2 0)) else (0, 1, (zBecomes (zsST (zsK σ (upd (zK σ) (Int32.toNatClampNeg p0) 0)) (zZero (zST (zsK σ (upd (zK σ) (Int32.toNatClampNeg p0) 0))) (zFnd (zsK σ (upd (zK σ) (Int32.toNatClampNeg p0) 0)) 11) 64)) (Int32.toNatClampNeg p0) p1 (zFnd (zsK σ (upd (zK σ) (Int32.toNatClampNeg p0) 0)) 11) 0 p2 0)) else (2, 0, σ) else if p1 = 99 then if zin p2 0 64 = true then if zK σ (Int32.toNatClampNeg p0) = 0 then (0, 0, (zBecomes (zsST (zsK σ (upd (zK σ) (Int32.toNatClampNeg p0) 0)) (zZero (zST (zsK σ (upd (zK σ) (Int32.toNatClampNeg p0) 0))) (zFnd (zsK σ (upd (zK σ) (Int32.toNatClampNeg p0) 0)) 11) 64)) (Int32.toNatClampNeg p0) p1 (zFnd (zsK σ (upd (zK σ) (Int32.toNatClampNeg p0) 0)) 11) 0 p2 0)) else (0, 1, (zBecomes (zsST (zsK σ (upd (zK σ) (Int32.toNatClampNeg p0) 0)) (zZero (zST (zsK σ (upd (zK σ) (Int32.toNatClampNeg p0) 0))) (zFnd (zsK σ (upd (zK σ) (Int32.toNatClampNeg p0) 0)) 11) 64)) (Int32.toNatClampNeg p0) p1 (zFnd (zsK σ (upd (zK σ) (Int32.toNatClampNeg p0) 0)) 11) 0 p2 0)) else (2, 0, σ) else if p1 = 115 then if zin p2 0 64 = true then if zK σ (Int32.toNatClampNeg p0) = 0 then (0, 0, (zBecomes (zsST (zsK σ (upd (zK σ) (Int32.toNatClampNeg p0) 0)) (zZero (zST (zsK σ (upd (zK σ) (Int32.toNatClampNeg p0) 0))) (zFnd (zsK σ (upd (zK σ) (Int32.toNatClampNeg p0) 0)) 11) 64)) (Int32.toNatClampNeg p0) p1 (zFnd (zsK σ (upd (zK σ) (Int32.toNatClampNeg p0) 0)) 11) 0 p2 0)) else (0, 1, (zBecomes (zsST (zsK σ (upd (zK σ) (Int32.toNatClampNeg p0) 0)) (zZero (zST (zsK σ (upd (zK σ) (Int32.toNatClampNeg p0) 0))) (zFnd (zsK σ (upd (zK σ) (Int32.toNatClampNeg p0) 0)) 11) 64)) (Int32.toNatClampNeg p0) p1 (zFnd (zsK σ (upd (zK σ) (Int32.toNatClampNeg p0) 0)) 11) 0 p2 0)) else (2, 0, σ) else (2, 0, σ) else (1, 0, σ)

theorem hi_X2_allocate : ∀ w ∈ wsX20, w ∈ wsX2_allocate := by decide +kernel
theorem hf_X2_allocate_13 : Cond.fieldLink RX2 13 (TX2 1).1 (TX2 1).2.1 (TX2 1).2.2.1 ∈ wsX2_allocate := by decide +kernel
theorem hf_X2_allocate_48 : Cond.fieldLink RX2 48 (TX2 12).1 (TX2 12).2.1 (TX2 12).2.2.1 ∈ wsX2_allocate := by decide +kernel
set_option maxRecDepth 100000 in
set_option maxHeartbeats 4000000 in
theorem c_X2_allocate (l : Launch) (g : zG) (am : Nat → Nat) (L : List Nat) (f : Nat → va_E) (σ : ZS) (bs : Nat → Int64) (th : Int32) (p0 : Int32) (p1 : Int32) (p2 : Int32) (hm : zM g am f σ bs th L f) {ln : Nat → Nat} {kd : Nat → Int32} (hI : zI σ ln kd) : zC l yX2_allocate wsX2_allocate { frames := 1, cells := 0, slots := 0, locals := 26 } 0 0 g [.ref (am 0), .int p0, .int p1, .int p2] L f (fun r L1 f1 => L = L1 ∧ ∃ (b9 : Int32) (bs1 : Nat → Int64), some (.int b9) = r ∧ zM g am f (o_allocate σ p0 p1 p2).2.2 bs1 (o_allocate σ p0 p1 p2).1 L f1 ∧ ((o_allocate σ p0 p1 p2).1 = 0 → b9 = (o_allocate σ p0 p1 p2).2.1)) zNo := by
  refine z_ofW (cc := cX2_allocate) (maxL := 6) (ret := (some .boolean)) (by decide) rfl (Nat.le_of_ble_eq_true rfl) ?_
  intro p e s m args below meth c ls A hx hb hr hts hown hlocks hml htab hin hw hX hl
  have hl : lv_has ls 6 [(0, .ref (am 0)), (1, .int p0), (2, .int p1), (3, .int p2)] := hl
  have hown : s.vm.findClass RX2 = some m.cls := hown
  refine lv_iload_n hx hb dX2_allocate_0 rfl (lv_at hl 2 rfl) ?_
  refine lv_bipush (v := 105) hx hb dX2_allocate_1 (by decide) ?_
  refine lv_icmp_eq (tgt := 24) hx hb dX2_allocate_3 (by decide) (fun c_1 => ?_) (fun c_1 => ?_)
  · refine lv_iconst (v := 1) hx hb dX2_allocate_24 (by decide) ?_
    refine lv_goto (tgt := 29) hx hb dX2_allocate_25 (by decide) ?_
    refine lv_istore (lv' := [(4, .int 1), (0, .ref (am 0)), (1, .int p0), (2, .int p1), (3, .int p2)]) hx hb dX2_allocate_29 hl (by decide) rfl (fun ls hl => ?_)
    refine lv_aload_n hx hb dX2_allocate_31 rfl (lv_at hl 1 rfl) ?_
    refine lv_iload_n hx hb dX2_allocate_32 rfl (lv_at hl 2 rfl) ?_
    refine lv_iconst (v := 0) hx hb dX2_allocate_33 (by decide) ?_
    refine lv_bipush (v := 7) hx hb dX2_allocate_34 (by decide) ?_
    refine z_callS (As := [.int p0, .int 0, .int 7]) (rest := [.ref (am 0)]) ⟨hx, hb, hml, hown, hts⟩ hw hX (c_X2_in l g L f p0 0 7) (va_cwS 3 hts gX2_allocate_X2_in rfl rfl rfl (by decide +kernel) ⟨(Nat.le_of_ble_eq_true rfl), (Nat.le_of_ble_eq_true rfl)⟩) rfl hl.1 rfl (Nat.le_of_ble_eq_true rfl) dX2_allocate_36 ⟨(Nat.le_of_ble_eq_true rfl), (Nat.le_of_ble_eq_true rfl)⟩ (fun _ _ _ _ _ _ _ hp => False.elim hp) (fun r9 L9 f9 H locs hp hw => ?_)
    obtain ⟨rfl, rfl, rfl⟩ := hp
    refine W.eq (g2 := F0 m 39 ls [.int (zb (zin p0 0 7)), .ref (am 0)]) rfl ?_
    refine zr_bne hx hb dX2_allocate_39 (tgt := 46) (by decide) (fun c_2 => ?_) (fun c_2 => ?_)
    · refine lv_iload hx hb dX2_allocate_46 (lv_at hl 0 rfl) ?_
      refine lv_if_eq (tgt := 61) hx hb dX2_allocate_48 (by decide) (fun c_3 => absurd c_3 (by decide)) (fun c_3 => ?_)
      refine lv_iload_n hx hb dX2_allocate_51 rfl (lv_at hl 4 rfl) ?_
      refine lv_iconst (v := 0) hx hb dX2_allocate_52 (by decide) ?_
      refine lv_bipush (v := 64) hx hb dX2_allocate_53 (by decide) ?_
      refine z_callS (As := [.int p2, .int 0, .int 64]) (rest := [.ref (am 0)]) ⟨hx, hb, hml, hown, hts⟩ hw hX (c_X2_in l g L f p2 0 64) (va_cwS 3 hts gX2_allocate_X2_in rfl rfl rfl (by decide +kernel) ⟨(Nat.le_of_ble_eq_true rfl), (Nat.le_of_ble_eq_true rfl)⟩) rfl hl.1 rfl (Nat.le_of_ble_eq_true rfl) dX2_allocate_55 ⟨(Nat.le_of_ble_eq_true rfl), (Nat.le_of_ble_eq_true rfl)⟩ (fun _ _ _ _ _ _ _ hp => False.elim hp) (fun r9 L9 f9 H locs hp hw => ?_)
      obtain ⟨rfl, rfl, rfl⟩ := hp
      refine W.eq (g2 := F0 m 58 ls [.int (zb (zin p2 0 64)), .ref (am 0)]) rfl ?_
      refine zr_bne hx hb dX2_allocate_58 (tgt := 65) (by decide) (fun c_4 => ?_) (fun c_4 => ?_)
      · refine lv_iconst (v := 0) hx hb dX2_allocate_65 (by decide) ?_
        refine zm_putT hx hb hts hi_X2_allocate hown hw hm hf_X2_allocate_48 dX2_allocate_66 (fun f_5 H locs hm hw => ?_)
        refine lv_aload_n hx hb dX2_allocate_69 rfl (lv_at hl 1 rfl) ?_
        refine zm_get (v := .int 0) hx hb hts hi_X2_allocate hown hw hm 12 (by decide) hf_X2_allocate_48 rfl dX2_allocate_70 ?_
        refine lv_if_le (tgt := 78) hx hb dX2_allocate_73 (by decide) (fun c_6 => ?_) (fun c_6 => absurd (by decide) c_6)
        refine lv_aload_n hx hb dX2_allocate_78 rfl (lv_at hl 1 rfl) ?_
        refine zm_get (v := .ref (am 2)) hx hb hts hi_X2_allocate hown hw hm 1 (by decide) hf_X2_allocate_13 rfl dX2_allocate_79 ?_
        refine lv_iload_n hx hb dX2_allocate_82 rfl (lv_at hl 2 rfl) ?_
        refine zm_ldK hx hb hw hm (zin_7 (by assumption)) dX2_allocate_83 ?_
        refine lv_if_eq (tgt := 91) hx hb dX2_allocate_84 (by decide) (fun c_7 => ?_) (fun c_7 => ?_)
        · refine lv_iconst (v := 0) hx hb dX2_allocate_91 (by decide) ?_
          refine lv_istore (lv' := [(5, .int 0), (4, .int 1), (0, .ref (am 0)), (1, .int p0), (2, .int p1), (3, .int p2)]) hx hb dX2_allocate_92 hl (by decide) rfl (fun ls hl => ?_)
          refine lv_aload_n hx hb dX2_allocate_94 rfl (lv_at hl 2 rfl) ?_
          refine zm_get (v := .ref (am 2)) hx hb hts hi_X2_allocate hown hw hm 1 (by decide) hf_X2_allocate_13 rfl dX2_allocate_95 ?_
          refine lv_iload_n hx hb dX2_allocate_98 rfl (lv_at hl 3 rfl) ?_
          refine lv_iconst (v := 0) hx hb dX2_allocate_99 (by decide) ?_
          refine zm_stK hx hb hw hm (zin_7 (by assumption)) dX2_allocate_100 (fun f_8 H locs hm hw => ?_)
          refine lv_aload_n hx hb dX2_allocate_101 rfl (lv_at hl 2 rfl) ?_
          refine lv_iload_n hx hb dX2_allocate_102 rfl (lv_at hl 3 rfl) ?_
          refine lv_iload_n hx hb dX2_allocate_103 rfl (lv_at hl 4 rfl) ?_
          refine lv_aload_n hx hb dX2_allocate_104 rfl (lv_at hl 2 rfl) ?_
          refine z_callV (As := []) (rest := [.int p1, .int p0, .ref (am 0)]) ⟨hx, hb, hml, hown, hts⟩ hw hX (hm.1.1 0 (by decide)) rfl (c_X2_free l g am L f_8 (zsK σ (upd (zK σ) (Int32.toNatClampNeg p0) 0)) bs 0 hm.rf (zI_free (zI_kill hI _))) (cwV 0 hts gX2_allocate_X2_free rfl rfl rfl (by decide +kernel) ⟨(Nat.le_of_ble_eq_true rfl), (Nat.le_of_ble_eq_true rfl)⟩) rfl hl.1 rfl (Nat.le_of_ble_eq_true rfl) dX2_allocate_105 ⟨(Nat.le_of_ble_eq_true rfl), (Nat.le_of_ble_eq_true rfl)⟩ (fun _ _ _ _ _ _ _ hp => False.elim hp) (fun r9 L9 f9 H locs hp hw => ?_)
          obtain ⟨rfl, rfl, hm9⟩ := hp
          refine W.eq (g2 := F0 m 108 ls [.int (zFnd (zsK σ (upd (zK σ) (Int32.toNatClampNeg p0) 0)) 11), .int p1, .int p0, .ref (am 0)]) rfl ?_
          have hm := hm.tr hm9
          refine lv_iconst (v := 0) hx hb dX2_allocate_108 (by decide) ?_
          refine lv_iload_n hx hb dX2_allocate_109 rfl (lv_at hl 5 rfl) ?_
          refine lv_iconst (v := 0) hx hb dX2_allocate_110 (by decide) ?_
          refine z_callV (As := [.int p0, .int p1, .int (zFnd (zsK σ (upd (zK σ) (Int32.toNatClampNeg p0) 0)) 11), .int 0, .int p2, .int 0]) (rest := []) ⟨hx, hb, hml, hown, hts⟩ hw hX (hm.1.1 0 (by decide)) rfl (c_X2_becomes l g am L f9 (zsST (zsK σ (upd (zK σ) (Int32.toNatClampNeg p0) 0)) (zZero (zST (zsK σ (upd (zK σ) (Int32.toNatClampNeg p0) 0))) (zFnd (zsK σ (upd (zK σ) (Int32.toNatClampNeg p0) 0)) 11) 64)) bs 0 p0 p1 (zFnd (zsK σ (upd (zK σ) (Int32.toNatClampNeg p0) 0)) 11) 0 p2 0 hm.rf (zin_7 (by assumption))) (cwV 6 hts gX2_allocate_X2_becomes rfl rfl rfl (by decide +kernel) ⟨(Nat.le_of_ble_eq_true rfl), (Nat.le_of_ble_eq_true rfl)⟩) rfl hl.1 rfl (Nat.le_of_ble_eq_true rfl) dX2_allocate_111 ⟨(Nat.le_of_ble_eq_true rfl), (Nat.le_of_ble_eq_true rfl)⟩ (fun _ _ _ _ _ _ _ hp => False.elim hp) (fun r9 L9 f9 H locs hp hw => ?_)
          obtain ⟨rfl, rfl, hm9⟩ := hp
          refine W.eq (g2 := F0 m 114 ls []) rfl ?_
          have hm := hm.tr hm9
          refine lv_iload hx hb dX2_allocate_114 (lv_at hl 0 rfl) ?_
          have ho : (o_allocate σ p0 p1 p2) = (0, 0, (zBecomes (zsST (zsK σ (upd (zK σ) (Int32.toNatClampNeg p0) 0)) (zZero (zST (zsK σ (upd (zK σ) (Int32.toNatClampNeg p0) 0))) (zFnd (zsK σ (upd (zK σ) (Int32.toNatClampNeg p0) 0)) 11) 64)) (Int32.toNatClampNeg p0) p1 (zFnd (zsK σ (upd (zK σ) (Int32.toNatClampNeg p0) 0)) 11) 0 p2 0)) := by unfold o_allocate; first | exact (if_pos (show (zin p0 0 7 = true) from by assumption)).trans ((if_pos (show (p1 = 105) from by assumption)).trans ((if_pos (show (zin p2 0 64 = true) from by assumption)).trans (if_pos (show (zK σ (Int32.toNatClampNeg p0) = 0) from by assumption)))) | exact (if_pos (show (zin p0 0 7 = true) from by assumption)).trans ((if_neg (show ¬ (p1 = 105) from by assumption)).trans ((if_pos (show (p1 = 108) from by assumption)).trans ((if_pos (show (zin p2 0 64 = true) from by assumption)).trans (if_pos (show (zK σ (Int32.toNatClampNeg p0) = 0) from by assumption))))) | exact (if_pos (show (zin p0 0 7 = true) from by assumption)).trans ((if_neg (show ¬ (p1 = 105) from by assumption)).trans ((if_neg (show ¬ (p1 = 108) from by assumption)).trans ((if_pos (show (p1 = 99) from by assumption)).trans ((if_pos (show (zin p2 0 64 = true) from by assumption)).trans (if_pos (show (zK σ (Int32.toNatClampNeg p0) = 0) from by assumption)))))) | exact (if_pos (show (zin p0 0 7 = true) from by assumption)).trans ((if_neg (show ¬ (p1 = 105) from by assumption)).trans ((if_neg (show ¬ (p1 = 108) from by assumption)).trans ((if_neg (show ¬ (p1 = 99) from by assumption)).trans ((if_pos (show (p1 = 115) from by assumption)).trans ((if_pos (show (zin p2 0 64 = true) from by assumption)).trans (if_pos (show (zK σ (Int32.toNatClampNeg p0) = 0) from by assumption)))))))
          exact z_zret hx hb hr hlocks rfl hw (Nat.le_of_ble_eq_true rfl) (Nat.le_of_ble_eq_true rfl) dX2_allocate_116 ⟨rfl, _, _, rfl, by rw [ho]; exact hm, by rw [ho]; exact fun _ => rfl⟩
        · refine lv_iconst (v := 1) hx hb dX2_allocate_87 (by decide) ?_
          refine lv_goto (tgt := 92) hx hb dX2_allocate_88 (by decide) ?_
          refine lv_istore (lv' := [(5, .int 1), (4, .int 1), (0, .ref (am 0)), (1, .int p0), (2, .int p1), (3, .int p2)]) hx hb dX2_allocate_92 hl (by decide) rfl (fun ls hl => ?_)
          refine lv_aload_n hx hb dX2_allocate_94 rfl (lv_at hl 2 rfl) ?_
          refine zm_get (v := .ref (am 2)) hx hb hts hi_X2_allocate hown hw hm 1 (by decide) hf_X2_allocate_13 rfl dX2_allocate_95 ?_
          refine lv_iload_n hx hb dX2_allocate_98 rfl (lv_at hl 3 rfl) ?_
          refine lv_iconst (v := 0) hx hb dX2_allocate_99 (by decide) ?_
          refine zm_stK hx hb hw hm (zin_7 (by assumption)) dX2_allocate_100 (fun f_9 H locs hm hw => ?_)
          refine lv_aload_n hx hb dX2_allocate_101 rfl (lv_at hl 2 rfl) ?_
          refine lv_iload_n hx hb dX2_allocate_102 rfl (lv_at hl 3 rfl) ?_
          refine lv_iload_n hx hb dX2_allocate_103 rfl (lv_at hl 4 rfl) ?_
          refine lv_aload_n hx hb dX2_allocate_104 rfl (lv_at hl 2 rfl) ?_
          refine z_callV (As := []) (rest := [.int p1, .int p0, .ref (am 0)]) ⟨hx, hb, hml, hown, hts⟩ hw hX (hm.1.1 0 (by decide)) rfl (c_X2_free l g am L f_9 (zsK σ (upd (zK σ) (Int32.toNatClampNeg p0) 0)) bs 0 hm.rf (zI_free (zI_kill hI _))) (cwV 0 hts gX2_allocate_X2_free rfl rfl rfl (by decide +kernel) ⟨(Nat.le_of_ble_eq_true rfl), (Nat.le_of_ble_eq_true rfl)⟩) rfl hl.1 rfl (Nat.le_of_ble_eq_true rfl) dX2_allocate_105 ⟨(Nat.le_of_ble_eq_true rfl), (Nat.le_of_ble_eq_true rfl)⟩ (fun _ _ _ _ _ _ _ hp => False.elim hp) (fun r9 L9 f9 H locs hp hw => ?_)
          obtain ⟨rfl, rfl, hm9⟩ := hp
          refine W.eq (g2 := F0 m 108 ls [.int (zFnd (zsK σ (upd (zK σ) (Int32.toNatClampNeg p0) 0)) 11), .int p1, .int p0, .ref (am 0)]) rfl ?_
          have hm := hm.tr hm9
          refine lv_iconst (v := 0) hx hb dX2_allocate_108 (by decide) ?_
          refine lv_iload_n hx hb dX2_allocate_109 rfl (lv_at hl 5 rfl) ?_
          refine lv_iconst (v := 0) hx hb dX2_allocate_110 (by decide) ?_
          refine z_callV (As := [.int p0, .int p1, .int (zFnd (zsK σ (upd (zK σ) (Int32.toNatClampNeg p0) 0)) 11), .int 0, .int p2, .int 0]) (rest := []) ⟨hx, hb, hml, hown, hts⟩ hw hX (hm.1.1 0 (by decide)) rfl (c_X2_becomes l g am L f9 (zsST (zsK σ (upd (zK σ) (Int32.toNatClampNeg p0) 0)) (zZero (zST (zsK σ (upd (zK σ) (Int32.toNatClampNeg p0) 0))) (zFnd (zsK σ (upd (zK σ) (Int32.toNatClampNeg p0) 0)) 11) 64)) bs 0 p0 p1 (zFnd (zsK σ (upd (zK σ) (Int32.toNatClampNeg p0) 0)) 11) 0 p2 0 hm.rf (zin_7 (by assumption))) (cwV 6 hts gX2_allocate_X2_becomes rfl rfl rfl (by decide +kernel) ⟨(Nat.le_of_ble_eq_true rfl), (Nat.le_of_ble_eq_true rfl)⟩) rfl hl.1 rfl (Nat.le_of_ble_eq_true rfl) dX2_allocate_111 ⟨(Nat.le_of_ble_eq_true rfl), (Nat.le_of_ble_eq_true rfl)⟩ (fun _ _ _ _ _ _ _ hp => False.elim hp) (fun r9 L9 f9 H locs hp hw => ?_)
          obtain ⟨rfl, rfl, hm9⟩ := hp
          refine W.eq (g2 := F0 m 114 ls []) rfl ?_
          have hm := hm.tr hm9
          refine lv_iload hx hb dX2_allocate_114 (lv_at hl 0 rfl) ?_
          have ho : (o_allocate σ p0 p1 p2) = (0, 1, (zBecomes (zsST (zsK σ (upd (zK σ) (Int32.toNatClampNeg p0) 0)) (zZero (zST (zsK σ (upd (zK σ) (Int32.toNatClampNeg p0) 0))) (zFnd (zsK σ (upd (zK σ) (Int32.toNatClampNeg p0) 0)) 11) 64)) (Int32.toNatClampNeg p0) p1 (zFnd (zsK σ (upd (zK σ) (Int32.toNatClampNeg p0) 0)) 11) 0 p2 0)) := by unfold o_allocate; first | exact (if_pos (show (zin p0 0 7 = true) from by assumption)).trans ((if_pos (show (p1 = 105) from by assumption)).trans ((if_pos (show (zin p2 0 64 = true) from by assumption)).trans (if_neg (show ¬ (zK σ (Int32.toNatClampNeg p0) = 0) from by assumption)))) | exact (if_pos (show (zin p0 0 7 = true) from by assumption)).trans ((if_neg (show ¬ (p1 = 105) from by assumption)).trans ((if_pos (show (p1 = 108) from by assumption)).trans ((if_pos (show (zin p2 0 64 = true) from by assumption)).trans (if_neg (show ¬ (zK σ (Int32.toNatClampNeg p0) = 0) from by assumption))))) | exact (if_pos (show (zin p0 0 7 = true) from by assumption)).trans ((if_neg (show ¬ (p1 = 105) from by assumption)).trans ((if_neg (show ¬ (p1 = 108) from by assumption)).trans ((if_pos (show (p1 = 99) from by assumption)).trans ((if_pos (show (zin p2 0 64 = true) from by assumption)).trans (if_neg (show ¬ (zK σ (Int32.toNatClampNeg p0) = 0) from by assumption)))))) | exact (if_pos (show (zin p0 0 7 = true) from by assumption)).trans ((if_neg (show ¬ (p1 = 105) from by assumption)).trans ((if_neg (show ¬ (p1 = 108) from by assumption)).trans ((if_neg (show ¬ (p1 = 99) from by assumption)).trans ((if_pos (show (p1 = 115) from by assumption)).trans ((if_pos (show (zin p2 0 64 = true) from by assumption)).trans (if_neg (show ¬ (zK σ (Int32.toNatClampNeg p0) = 0) from by assumption)))))))
          exact z_zret hx hb hr hlocks rfl hw (Nat.le_of_ble_eq_true rfl) (Nat.le_of_ble_eq_true rfl) dX2_allocate_116 ⟨rfl, _, _, rfl, by rw [ho]; exact hm, by rw [ho]; exact fun _ => rfl⟩
      · refine lv_iconst (v := 2) hx hb dX2_allocate_61 (by decide) ?_
        refine lv_goto (tgt := 66) hx hb dX2_allocate_62 (by decide) ?_
        refine zm_putT hx hb hts hi_X2_allocate hown hw hm hf_X2_allocate_48 dX2_allocate_66 (fun f_10 H locs hm hw => ?_)
        refine lv_aload_n hx hb dX2_allocate_69 rfl (lv_at hl 1 rfl) ?_
        refine zm_get (v := .int 2) hx hb hts hi_X2_allocate hown hw hm 12 (by decide) hf_X2_allocate_48 rfl dX2_allocate_70 ?_
        refine lv_if_le (tgt := 78) hx hb dX2_allocate_73 (by decide) (fun c_11 => absurd c_11 (by decide)) (fun c_11 => ?_)
        refine lv_iconst (v := 0) hx hb dX2_allocate_76 (by decide) ?_
        have ho : (o_allocate σ p0 p1 p2) = (2, 0, σ) := by unfold o_allocate; first | exact (if_pos (show (zin p0 0 7 = true) from by assumption)).trans ((if_pos (show (p1 = 105) from by assumption)).trans (if_neg (show ¬ (zin p2 0 64 = true) from by assumption))) | exact (if_pos (show (zin p0 0 7 = true) from by assumption)).trans ((if_neg (show ¬ (p1 = 105) from by assumption)).trans ((if_pos (show (p1 = 108) from by assumption)).trans (if_neg (show ¬ (zin p2 0 64 = true) from by assumption)))) | exact (if_pos (show (zin p0 0 7 = true) from by assumption)).trans ((if_neg (show ¬ (p1 = 105) from by assumption)).trans ((if_neg (show ¬ (p1 = 108) from by assumption)).trans ((if_pos (show (p1 = 99) from by assumption)).trans (if_neg (show ¬ (zin p2 0 64 = true) from by assumption))))) | exact (if_pos (show (zin p0 0 7 = true) from by assumption)).trans ((if_neg (show ¬ (p1 = 105) from by assumption)).trans ((if_neg (show ¬ (p1 = 108) from by assumption)).trans ((if_neg (show ¬ (p1 = 99) from by assumption)).trans ((if_pos (show (p1 = 115) from by assumption)).trans (if_neg (show ¬ (zin p2 0 64 = true) from by assumption)))))) | exact (if_pos (show (zin p0 0 7 = true) from by assumption)).trans ((if_neg (show ¬ (p1 = 105) from by assumption)).trans ((if_neg (show ¬ (p1 = 108) from by assumption)).trans ((if_neg (show ¬ (p1 = 99) from by assumption)).trans (if_neg (show ¬ (p1 = 115) from by assumption)))))
        exact z_zret hx hb hr hlocks rfl hw (Nat.le_of_ble_eq_true rfl) (Nat.le_of_ble_eq_true rfl) dX2_allocate_77 ⟨rfl, _, _, rfl, by rw [ho]; exact hm, by rw [ho]; exact fun h => absurd (show (2 : Int32) = 0 from h) (by decide)⟩
    · refine lv_iconst (v := 1) hx hb dX2_allocate_42 (by decide) ?_
      refine lv_goto (tgt := 66) hx hb dX2_allocate_43 (by decide) ?_
      refine zm_putT hx hb hts hi_X2_allocate hown hw hm hf_X2_allocate_48 dX2_allocate_66 (fun f_12 H locs hm hw => ?_)
      refine lv_aload_n hx hb dX2_allocate_69 rfl (lv_at hl 1 rfl) ?_
      refine zm_get (v := .int 1) hx hb hts hi_X2_allocate hown hw hm 12 (by decide) hf_X2_allocate_48 rfl dX2_allocate_70 ?_
      refine lv_if_le (tgt := 78) hx hb dX2_allocate_73 (by decide) (fun c_13 => absurd c_13 (by decide)) (fun c_13 => ?_)
      refine lv_iconst (v := 0) hx hb dX2_allocate_76 (by decide) ?_
      have ho : (o_allocate σ p0 p1 p2) = (1, 0, σ) := by unfold o_allocate; first | exact if_neg (show ¬ (zin p0 0 7 = true) from by assumption)
      exact z_zret hx hb hr hlocks rfl hw (Nat.le_of_ble_eq_true rfl) (Nat.le_of_ble_eq_true rfl) dX2_allocate_77 ⟨rfl, _, _, rfl, by rw [ho]; exact hm, by rw [ho]; exact fun h => absurd (show (1 : Int32) = 0 from h) (by decide)⟩
  · refine lv_iload_n hx hb dX2_allocate_6 rfl (lv_at hl 2 rfl) ?_
    refine lv_bipush (v := 108) hx hb dX2_allocate_7 (by decide) ?_
    refine lv_icmp_eq (tgt := 24) hx hb dX2_allocate_9 (by decide) (fun c_14 => ?_) (fun c_14 => ?_)
    · refine lv_iconst (v := 1) hx hb dX2_allocate_24 (by decide) ?_
      refine lv_goto (tgt := 29) hx hb dX2_allocate_25 (by decide) ?_
      refine lv_istore (lv' := [(4, .int 1), (0, .ref (am 0)), (1, .int p0), (2, .int p1), (3, .int p2)]) hx hb dX2_allocate_29 hl (by decide) rfl (fun ls hl => ?_)
      refine lv_aload_n hx hb dX2_allocate_31 rfl (lv_at hl 1 rfl) ?_
      refine lv_iload_n hx hb dX2_allocate_32 rfl (lv_at hl 2 rfl) ?_
      refine lv_iconst (v := 0) hx hb dX2_allocate_33 (by decide) ?_
      refine lv_bipush (v := 7) hx hb dX2_allocate_34 (by decide) ?_
      refine z_callS (As := [.int p0, .int 0, .int 7]) (rest := [.ref (am 0)]) ⟨hx, hb, hml, hown, hts⟩ hw hX (c_X2_in l g L f p0 0 7) (va_cwS 3 hts gX2_allocate_X2_in rfl rfl rfl (by decide +kernel) ⟨(Nat.le_of_ble_eq_true rfl), (Nat.le_of_ble_eq_true rfl)⟩) rfl hl.1 rfl (Nat.le_of_ble_eq_true rfl) dX2_allocate_36 ⟨(Nat.le_of_ble_eq_true rfl), (Nat.le_of_ble_eq_true rfl)⟩ (fun _ _ _ _ _ _ _ hp => False.elim hp) (fun r9 L9 f9 H locs hp hw => ?_)
      obtain ⟨rfl, rfl, rfl⟩ := hp
      refine W.eq (g2 := F0 m 39 ls [.int (zb (zin p0 0 7)), .ref (am 0)]) rfl ?_
      refine zr_bne hx hb dX2_allocate_39 (tgt := 46) (by decide) (fun c_15 => ?_) (fun c_15 => ?_)
      · refine lv_iload hx hb dX2_allocate_46 (lv_at hl 0 rfl) ?_
        refine lv_if_eq (tgt := 61) hx hb dX2_allocate_48 (by decide) (fun c_16 => absurd c_16 (by decide)) (fun c_16 => ?_)
        refine lv_iload_n hx hb dX2_allocate_51 rfl (lv_at hl 4 rfl) ?_
        refine lv_iconst (v := 0) hx hb dX2_allocate_52 (by decide) ?_
        refine lv_bipush (v := 64) hx hb dX2_allocate_53 (by decide) ?_
        refine z_callS (As := [.int p2, .int 0, .int 64]) (rest := [.ref (am 0)]) ⟨hx, hb, hml, hown, hts⟩ hw hX (c_X2_in l g L f p2 0 64) (va_cwS 3 hts gX2_allocate_X2_in rfl rfl rfl (by decide +kernel) ⟨(Nat.le_of_ble_eq_true rfl), (Nat.le_of_ble_eq_true rfl)⟩) rfl hl.1 rfl (Nat.le_of_ble_eq_true rfl) dX2_allocate_55 ⟨(Nat.le_of_ble_eq_true rfl), (Nat.le_of_ble_eq_true rfl)⟩ (fun _ _ _ _ _ _ _ hp => False.elim hp) (fun r9 L9 f9 H locs hp hw => ?_)
        obtain ⟨rfl, rfl, rfl⟩ := hp
        refine W.eq (g2 := F0 m 58 ls [.int (zb (zin p2 0 64)), .ref (am 0)]) rfl ?_
        refine zr_bne hx hb dX2_allocate_58 (tgt := 65) (by decide) (fun c_17 => ?_) (fun c_17 => ?_)
        · refine lv_iconst (v := 0) hx hb dX2_allocate_65 (by decide) ?_
          refine zm_putT hx hb hts hi_X2_allocate hown hw hm hf_X2_allocate_48 dX2_allocate_66 (fun f_18 H locs hm hw => ?_)
          refine lv_aload_n hx hb dX2_allocate_69 rfl (lv_at hl 1 rfl) ?_
          refine zm_get (v := .int 0) hx hb hts hi_X2_allocate hown hw hm 12 (by decide) hf_X2_allocate_48 rfl dX2_allocate_70 ?_
          refine lv_if_le (tgt := 78) hx hb dX2_allocate_73 (by decide) (fun c_19 => ?_) (fun c_19 => absurd (by decide) c_19)
          refine lv_aload_n hx hb dX2_allocate_78 rfl (lv_at hl 1 rfl) ?_
          refine zm_get (v := .ref (am 2)) hx hb hts hi_X2_allocate hown hw hm 1 (by decide) hf_X2_allocate_13 rfl dX2_allocate_79 ?_
          refine lv_iload_n hx hb dX2_allocate_82 rfl (lv_at hl 2 rfl) ?_
          refine zm_ldK hx hb hw hm (zin_7 (by assumption)) dX2_allocate_83 ?_
          refine lv_if_eq (tgt := 91) hx hb dX2_allocate_84 (by decide) (fun c_20 => ?_) (fun c_20 => ?_)
          · refine lv_iconst (v := 0) hx hb dX2_allocate_91 (by decide) ?_
            refine lv_istore (lv' := [(5, .int 0), (4, .int 1), (0, .ref (am 0)), (1, .int p0), (2, .int p1), (3, .int p2)]) hx hb dX2_allocate_92 hl (by decide) rfl (fun ls hl => ?_)
            refine lv_aload_n hx hb dX2_allocate_94 rfl (lv_at hl 2 rfl) ?_
            refine zm_get (v := .ref (am 2)) hx hb hts hi_X2_allocate hown hw hm 1 (by decide) hf_X2_allocate_13 rfl dX2_allocate_95 ?_
            refine lv_iload_n hx hb dX2_allocate_98 rfl (lv_at hl 3 rfl) ?_
            refine lv_iconst (v := 0) hx hb dX2_allocate_99 (by decide) ?_
            refine zm_stK hx hb hw hm (zin_7 (by assumption)) dX2_allocate_100 (fun f_21 H locs hm hw => ?_)
            refine lv_aload_n hx hb dX2_allocate_101 rfl (lv_at hl 2 rfl) ?_
            refine lv_iload_n hx hb dX2_allocate_102 rfl (lv_at hl 3 rfl) ?_
            refine lv_iload_n hx hb dX2_allocate_103 rfl (lv_at hl 4 rfl) ?_
            refine lv_aload_n hx hb dX2_allocate_104 rfl (lv_at hl 2 rfl) ?_
            refine z_callV (As := []) (rest := [.int p1, .int p0, .ref (am 0)]) ⟨hx, hb, hml, hown, hts⟩ hw hX (hm.1.1 0 (by decide)) rfl (c_X2_free l g am L f_21 (zsK σ (upd (zK σ) (Int32.toNatClampNeg p0) 0)) bs 0 hm.rf (zI_free (zI_kill hI _))) (cwV 0 hts gX2_allocate_X2_free rfl rfl rfl (by decide +kernel) ⟨(Nat.le_of_ble_eq_true rfl), (Nat.le_of_ble_eq_true rfl)⟩) rfl hl.1 rfl (Nat.le_of_ble_eq_true rfl) dX2_allocate_105 ⟨(Nat.le_of_ble_eq_true rfl), (Nat.le_of_ble_eq_true rfl)⟩ (fun _ _ _ _ _ _ _ hp => False.elim hp) (fun r9 L9 f9 H locs hp hw => ?_)
            obtain ⟨rfl, rfl, hm9⟩ := hp
            refine W.eq (g2 := F0 m 108 ls [.int (zFnd (zsK σ (upd (zK σ) (Int32.toNatClampNeg p0) 0)) 11), .int p1, .int p0, .ref (am 0)]) rfl ?_
            have hm := hm.tr hm9
            refine lv_iconst (v := 0) hx hb dX2_allocate_108 (by decide) ?_
            refine lv_iload_n hx hb dX2_allocate_109 rfl (lv_at hl 5 rfl) ?_
            refine lv_iconst (v := 0) hx hb dX2_allocate_110 (by decide) ?_
            refine z_callV (As := [.int p0, .int p1, .int (zFnd (zsK σ (upd (zK σ) (Int32.toNatClampNeg p0) 0)) 11), .int 0, .int p2, .int 0]) (rest := []) ⟨hx, hb, hml, hown, hts⟩ hw hX (hm.1.1 0 (by decide)) rfl (c_X2_becomes l g am L f9 (zsST (zsK σ (upd (zK σ) (Int32.toNatClampNeg p0) 0)) (zZero (zST (zsK σ (upd (zK σ) (Int32.toNatClampNeg p0) 0))) (zFnd (zsK σ (upd (zK σ) (Int32.toNatClampNeg p0) 0)) 11) 64)) bs 0 p0 p1 (zFnd (zsK σ (upd (zK σ) (Int32.toNatClampNeg p0) 0)) 11) 0 p2 0 hm.rf (zin_7 (by assumption))) (cwV 6 hts gX2_allocate_X2_becomes rfl rfl rfl (by decide +kernel) ⟨(Nat.le_of_ble_eq_true rfl), (Nat.le_of_ble_eq_true rfl)⟩) rfl hl.1 rfl (Nat.le_of_ble_eq_true rfl) dX2_allocate_111 ⟨(Nat.le_of_ble_eq_true rfl), (Nat.le_of_ble_eq_true rfl)⟩ (fun _ _ _ _ _ _ _ hp => False.elim hp) (fun r9 L9 f9 H locs hp hw => ?_)
            obtain ⟨rfl, rfl, hm9⟩ := hp
            refine W.eq (g2 := F0 m 114 ls []) rfl ?_
            have hm := hm.tr hm9
            refine lv_iload hx hb dX2_allocate_114 (lv_at hl 0 rfl) ?_
            have ho : (o_allocate σ p0 p1 p2) = (0, 0, (zBecomes (zsST (zsK σ (upd (zK σ) (Int32.toNatClampNeg p0) 0)) (zZero (zST (zsK σ (upd (zK σ) (Int32.toNatClampNeg p0) 0))) (zFnd (zsK σ (upd (zK σ) (Int32.toNatClampNeg p0) 0)) 11) 64)) (Int32.toNatClampNeg p0) p1 (zFnd (zsK σ (upd (zK σ) (Int32.toNatClampNeg p0) 0)) 11) 0 p2 0)) := by unfold o_allocate; first | exact (if_pos (show (zin p0 0 7 = true) from by assumption)).trans ((if_pos (show (p1 = 105) from by assumption)).trans ((if_pos (show (zin p2 0 64 = true) from by assumption)).trans (if_pos (show (zK σ (Int32.toNatClampNeg p0) = 0) from by assumption)))) | exact (if_pos (show (zin p0 0 7 = true) from by assumption)).trans ((if_neg (show ¬ (p1 = 105) from by assumption)).trans ((if_pos (show (p1 = 108) from by assumption)).trans ((if_pos (show (zin p2 0 64 = true) from by assumption)).trans (if_pos (show (zK σ (Int32.toNatClampNeg p0) = 0) from by assumption))))) | exact (if_pos (show (zin p0 0 7 = true) from by assumption)).trans ((if_neg (show ¬ (p1 = 105) from by assumption)).trans ((if_neg (show ¬ (p1 = 108) from by assumption)).trans ((if_pos (show (p1 = 99) from by assumption)).trans ((if_pos (show (zin p2 0 64 = true) from by assumption)).trans (if_pos (show (zK σ (Int32.toNatClampNeg p0) = 0) from by assumption)))))) | exact (if_pos (show (zin p0 0 7 = true) from by assumption)).trans ((if_neg (show ¬ (p1 = 105) from by assumption)).trans ((if_neg (show ¬ (p1 = 108) from by assumption)).trans ((if_neg (show ¬ (p1 = 99) from by assumption)).trans ((if_pos (show (p1 = 115) from by assumption)).trans ((if_pos (show (zin p2 0 64 = true) from by assumption)).trans (if_pos (show (zK σ (Int32.toNatClampNeg p0) = 0) from by assumption)))))))
            exact z_zret hx hb hr hlocks rfl hw (Nat.le_of_ble_eq_true rfl) (Nat.le_of_ble_eq_true rfl) dX2_allocate_116 ⟨rfl, _, _, rfl, by rw [ho]; exact hm, by rw [ho]; exact fun _ => rfl⟩
          · refine lv_iconst (v := 1) hx hb dX2_allocate_87 (by decide) ?_
            refine lv_goto (tgt := 92) hx hb dX2_allocate_88 (by decide) ?_
            refine lv_istore (lv' := [(5, .int 1), (4, .int 1), (0, .ref (am 0)), (1, .int p0), (2, .int p1), (3, .int p2)]) hx hb dX2_allocate_92 hl (by decide) rfl (fun ls hl => ?_)
            refine lv_aload_n hx hb dX2_allocate_94 rfl (lv_at hl 2 rfl) ?_
            refine zm_get (v := .ref (am 2)) hx hb hts hi_X2_allocate hown hw hm 1 (by decide) hf_X2_allocate_13 rfl dX2_allocate_95 ?_
            refine lv_iload_n hx hb dX2_allocate_98 rfl (lv_at hl 3 rfl) ?_
            refine lv_iconst (v := 0) hx hb dX2_allocate_99 (by decide) ?_
            refine zm_stK hx hb hw hm (zin_7 (by assumption)) dX2_allocate_100 (fun f_22 H locs hm hw => ?_)
            refine lv_aload_n hx hb dX2_allocate_101 rfl (lv_at hl 2 rfl) ?_
            refine lv_iload_n hx hb dX2_allocate_102 rfl (lv_at hl 3 rfl) ?_
            refine lv_iload_n hx hb dX2_allocate_103 rfl (lv_at hl 4 rfl) ?_
            refine lv_aload_n hx hb dX2_allocate_104 rfl (lv_at hl 2 rfl) ?_
            refine z_callV (As := []) (rest := [.int p1, .int p0, .ref (am 0)]) ⟨hx, hb, hml, hown, hts⟩ hw hX (hm.1.1 0 (by decide)) rfl (c_X2_free l g am L f_22 (zsK σ (upd (zK σ) (Int32.toNatClampNeg p0) 0)) bs 0 hm.rf (zI_free (zI_kill hI _))) (cwV 0 hts gX2_allocate_X2_free rfl rfl rfl (by decide +kernel) ⟨(Nat.le_of_ble_eq_true rfl), (Nat.le_of_ble_eq_true rfl)⟩) rfl hl.1 rfl (Nat.le_of_ble_eq_true rfl) dX2_allocate_105 ⟨(Nat.le_of_ble_eq_true rfl), (Nat.le_of_ble_eq_true rfl)⟩ (fun _ _ _ _ _ _ _ hp => False.elim hp) (fun r9 L9 f9 H locs hp hw => ?_)
            obtain ⟨rfl, rfl, hm9⟩ := hp
            refine W.eq (g2 := F0 m 108 ls [.int (zFnd (zsK σ (upd (zK σ) (Int32.toNatClampNeg p0) 0)) 11), .int p1, .int p0, .ref (am 0)]) rfl ?_
            have hm := hm.tr hm9
            refine lv_iconst (v := 0) hx hb dX2_allocate_108 (by decide) ?_
            refine lv_iload_n hx hb dX2_allocate_109 rfl (lv_at hl 5 rfl) ?_
            refine lv_iconst (v := 0) hx hb dX2_allocate_110 (by decide) ?_
            refine z_callV (As := [.int p0, .int p1, .int (zFnd (zsK σ (upd (zK σ) (Int32.toNatClampNeg p0) 0)) 11), .int 0, .int p2, .int 0]) (rest := []) ⟨hx, hb, hml, hown, hts⟩ hw hX (hm.1.1 0 (by decide)) rfl (c_X2_becomes l g am L f9 (zsST (zsK σ (upd (zK σ) (Int32.toNatClampNeg p0) 0)) (zZero (zST (zsK σ (upd (zK σ) (Int32.toNatClampNeg p0) 0))) (zFnd (zsK σ (upd (zK σ) (Int32.toNatClampNeg p0) 0)) 11) 64)) bs 0 p0 p1 (zFnd (zsK σ (upd (zK σ) (Int32.toNatClampNeg p0) 0)) 11) 0 p2 0 hm.rf (zin_7 (by assumption))) (cwV 6 hts gX2_allocate_X2_becomes rfl rfl rfl (by decide +kernel) ⟨(Nat.le_of_ble_eq_true rfl), (Nat.le_of_ble_eq_true rfl)⟩) rfl hl.1 rfl (Nat.le_of_ble_eq_true rfl) dX2_allocate_111 ⟨(Nat.le_of_ble_eq_true rfl), (Nat.le_of_ble_eq_true rfl)⟩ (fun _ _ _ _ _ _ _ hp => False.elim hp) (fun r9 L9 f9 H locs hp hw => ?_)
            obtain ⟨rfl, rfl, hm9⟩ := hp
            refine W.eq (g2 := F0 m 114 ls []) rfl ?_
            have hm := hm.tr hm9
            refine lv_iload hx hb dX2_allocate_114 (lv_at hl 0 rfl) ?_
            have ho : (o_allocate σ p0 p1 p2) = (0, 1, (zBecomes (zsST (zsK σ (upd (zK σ) (Int32.toNatClampNeg p0) 0)) (zZero (zST (zsK σ (upd (zK σ) (Int32.toNatClampNeg p0) 0))) (zFnd (zsK σ (upd (zK σ) (Int32.toNatClampNeg p0) 0)) 11) 64)) (Int32.toNatClampNeg p0) p1 (zFnd (zsK σ (upd (zK σ) (Int32.toNatClampNeg p0) 0)) 11) 0 p2 0)) := by unfold o_allocate; first | exact (if_pos (show (zin p0 0 7 = true) from by assumption)).trans ((if_pos (show (p1 = 105) from by assumption)).trans ((if_pos (show (zin p2 0 64 = true) from by assumption)).trans (if_neg (show ¬ (zK σ (Int32.toNatClampNeg p0) = 0) from by assumption)))) | exact (if_pos (show (zin p0 0 7 = true) from by assumption)).trans ((if_neg (show ¬ (p1 = 105) from by assumption)).trans ((if_pos (show (p1 = 108) from by assumption)).trans ((if_pos (show (zin p2 0 64 = true) from by assumption)).trans (if_neg (show ¬ (zK σ (Int32.toNatClampNeg p0) = 0) from by assumption))))) | exact (if_pos (show (zin p0 0 7 = true) from by assumption)).trans ((if_neg (show ¬ (p1 = 105) from by assumption)).trans ((if_neg (show ¬ (p1 = 108) from by assumption)).trans ((if_pos (show (p1 = 99) from by assumption)).trans ((if_pos (show (zin p2 0 64 = true) from by assumption)).trans (if_neg (show ¬ (zK σ (Int32.toNatClampNeg p0) = 0) from by assumption)))))) | exact (if_pos (show (zin p0 0 7 = true) from by assumption)).trans ((if_neg (show ¬ (p1 = 105) from by assumption)).trans ((if_neg (show ¬ (p1 = 108) from by assumption)).trans ((if_neg (show ¬ (p1 = 99) from by assumption)).trans ((if_pos (show (p1 = 115) from by assumption)).trans ((if_pos (show (zin p2 0 64 = true) from by assumption)).trans (if_neg (show ¬ (zK σ (Int32.toNatClampNeg p0) = 0) from by assumption)))))))
            exact z_zret hx hb hr hlocks rfl hw (Nat.le_of_ble_eq_true rfl) (Nat.le_of_ble_eq_true rfl) dX2_allocate_116 ⟨rfl, _, _, rfl, by rw [ho]; exact hm, by rw [ho]; exact fun _ => rfl⟩
        · refine lv_iconst (v := 2) hx hb dX2_allocate_61 (by decide) ?_
          refine lv_goto (tgt := 66) hx hb dX2_allocate_62 (by decide) ?_
          refine zm_putT hx hb hts hi_X2_allocate hown hw hm hf_X2_allocate_48 dX2_allocate_66 (fun f_23 H locs hm hw => ?_)
          refine lv_aload_n hx hb dX2_allocate_69 rfl (lv_at hl 1 rfl) ?_
          refine zm_get (v := .int 2) hx hb hts hi_X2_allocate hown hw hm 12 (by decide) hf_X2_allocate_48 rfl dX2_allocate_70 ?_
          refine lv_if_le (tgt := 78) hx hb dX2_allocate_73 (by decide) (fun c_24 => absurd c_24 (by decide)) (fun c_24 => ?_)
          refine lv_iconst (v := 0) hx hb dX2_allocate_76 (by decide) ?_
          have ho : (o_allocate σ p0 p1 p2) = (2, 0, σ) := by unfold o_allocate; first | exact (if_pos (show (zin p0 0 7 = true) from by assumption)).trans ((if_pos (show (p1 = 105) from by assumption)).trans (if_neg (show ¬ (zin p2 0 64 = true) from by assumption))) | exact (if_pos (show (zin p0 0 7 = true) from by assumption)).trans ((if_neg (show ¬ (p1 = 105) from by assumption)).trans ((if_pos (show (p1 = 108) from by assumption)).trans (if_neg (show ¬ (zin p2 0 64 = true) from by assumption)))) | exact (if_pos (show (zin p0 0 7 = true) from by assumption)).trans ((if_neg (show ¬ (p1 = 105) from by assumption)).trans ((if_neg (show ¬ (p1 = 108) from by assumption)).trans ((if_pos (show (p1 = 99) from by assumption)).trans (if_neg (show ¬ (zin p2 0 64 = true) from by assumption))))) | exact (if_pos (show (zin p0 0 7 = true) from by assumption)).trans ((if_neg (show ¬ (p1 = 105) from by assumption)).trans ((if_neg (show ¬ (p1 = 108) from by assumption)).trans ((if_neg (show ¬ (p1 = 99) from by assumption)).trans ((if_pos (show (p1 = 115) from by assumption)).trans (if_neg (show ¬ (zin p2 0 64 = true) from by assumption)))))) | exact (if_pos (show (zin p0 0 7 = true) from by assumption)).trans ((if_neg (show ¬ (p1 = 105) from by assumption)).trans ((if_neg (show ¬ (p1 = 108) from by assumption)).trans ((if_neg (show ¬ (p1 = 99) from by assumption)).trans (if_neg (show ¬ (p1 = 115) from by assumption)))))
          exact z_zret hx hb hr hlocks rfl hw (Nat.le_of_ble_eq_true rfl) (Nat.le_of_ble_eq_true rfl) dX2_allocate_77 ⟨rfl, _, _, rfl, by rw [ho]; exact hm, by rw [ho]; exact fun h => absurd (show (2 : Int32) = 0 from h) (by decide)⟩
      · refine lv_iconst (v := 1) hx hb dX2_allocate_42 (by decide) ?_
        refine lv_goto (tgt := 66) hx hb dX2_allocate_43 (by decide) ?_
        refine zm_putT hx hb hts hi_X2_allocate hown hw hm hf_X2_allocate_48 dX2_allocate_66 (fun f_25 H locs hm hw => ?_)
        refine lv_aload_n hx hb dX2_allocate_69 rfl (lv_at hl 1 rfl) ?_
        refine zm_get (v := .int 1) hx hb hts hi_X2_allocate hown hw hm 12 (by decide) hf_X2_allocate_48 rfl dX2_allocate_70 ?_
        refine lv_if_le (tgt := 78) hx hb dX2_allocate_73 (by decide) (fun c_26 => absurd c_26 (by decide)) (fun c_26 => ?_)
        refine lv_iconst (v := 0) hx hb dX2_allocate_76 (by decide) ?_
        have ho : (o_allocate σ p0 p1 p2) = (1, 0, σ) := by unfold o_allocate; first | exact if_neg (show ¬ (zin p0 0 7 = true) from by assumption)
        exact z_zret hx hb hr hlocks rfl hw (Nat.le_of_ble_eq_true rfl) (Nat.le_of_ble_eq_true rfl) dX2_allocate_77 ⟨rfl, _, _, rfl, by rw [ho]; exact hm, by rw [ho]; exact fun h => absurd (show (1 : Int32) = 0 from h) (by decide)⟩
    · refine lv_iload_n hx hb dX2_allocate_12 rfl (lv_at hl 2 rfl) ?_
      refine lv_bipush (v := 99) hx hb dX2_allocate_13 (by decide) ?_
      refine lv_icmp_eq (tgt := 24) hx hb dX2_allocate_15 (by decide) (fun c_27 => ?_) (fun c_27 => ?_)
      · refine lv_iconst (v := 1) hx hb dX2_allocate_24 (by decide) ?_
        refine lv_goto (tgt := 29) hx hb dX2_allocate_25 (by decide) ?_
        refine lv_istore (lv' := [(4, .int 1), (0, .ref (am 0)), (1, .int p0), (2, .int p1), (3, .int p2)]) hx hb dX2_allocate_29 hl (by decide) rfl (fun ls hl => ?_)
        refine lv_aload_n hx hb dX2_allocate_31 rfl (lv_at hl 1 rfl) ?_
        refine lv_iload_n hx hb dX2_allocate_32 rfl (lv_at hl 2 rfl) ?_
        refine lv_iconst (v := 0) hx hb dX2_allocate_33 (by decide) ?_
        refine lv_bipush (v := 7) hx hb dX2_allocate_34 (by decide) ?_
        refine z_callS (As := [.int p0, .int 0, .int 7]) (rest := [.ref (am 0)]) ⟨hx, hb, hml, hown, hts⟩ hw hX (c_X2_in l g L f p0 0 7) (va_cwS 3 hts gX2_allocate_X2_in rfl rfl rfl (by decide +kernel) ⟨(Nat.le_of_ble_eq_true rfl), (Nat.le_of_ble_eq_true rfl)⟩) rfl hl.1 rfl (Nat.le_of_ble_eq_true rfl) dX2_allocate_36 ⟨(Nat.le_of_ble_eq_true rfl), (Nat.le_of_ble_eq_true rfl)⟩ (fun _ _ _ _ _ _ _ hp => False.elim hp) (fun r9 L9 f9 H locs hp hw => ?_)
        obtain ⟨rfl, rfl, rfl⟩ := hp
        refine W.eq (g2 := F0 m 39 ls [.int (zb (zin p0 0 7)), .ref (am 0)]) rfl ?_
        refine zr_bne hx hb dX2_allocate_39 (tgt := 46) (by decide) (fun c_28 => ?_) (fun c_28 => ?_)
        · refine lv_iload hx hb dX2_allocate_46 (lv_at hl 0 rfl) ?_
          refine lv_if_eq (tgt := 61) hx hb dX2_allocate_48 (by decide) (fun c_29 => absurd c_29 (by decide)) (fun c_29 => ?_)
          refine lv_iload_n hx hb dX2_allocate_51 rfl (lv_at hl 4 rfl) ?_
          refine lv_iconst (v := 0) hx hb dX2_allocate_52 (by decide) ?_
          refine lv_bipush (v := 64) hx hb dX2_allocate_53 (by decide) ?_
          refine z_callS (As := [.int p2, .int 0, .int 64]) (rest := [.ref (am 0)]) ⟨hx, hb, hml, hown, hts⟩ hw hX (c_X2_in l g L f p2 0 64) (va_cwS 3 hts gX2_allocate_X2_in rfl rfl rfl (by decide +kernel) ⟨(Nat.le_of_ble_eq_true rfl), (Nat.le_of_ble_eq_true rfl)⟩) rfl hl.1 rfl (Nat.le_of_ble_eq_true rfl) dX2_allocate_55 ⟨(Nat.le_of_ble_eq_true rfl), (Nat.le_of_ble_eq_true rfl)⟩ (fun _ _ _ _ _ _ _ hp => False.elim hp) (fun r9 L9 f9 H locs hp hw => ?_)
          obtain ⟨rfl, rfl, rfl⟩ := hp
          refine W.eq (g2 := F0 m 58 ls [.int (zb (zin p2 0 64)), .ref (am 0)]) rfl ?_
          refine zr_bne hx hb dX2_allocate_58 (tgt := 65) (by decide) (fun c_30 => ?_) (fun c_30 => ?_)
          · refine lv_iconst (v := 0) hx hb dX2_allocate_65 (by decide) ?_
            refine zm_putT hx hb hts hi_X2_allocate hown hw hm hf_X2_allocate_48 dX2_allocate_66 (fun f_31 H locs hm hw => ?_)
            refine lv_aload_n hx hb dX2_allocate_69 rfl (lv_at hl 1 rfl) ?_
            refine zm_get (v := .int 0) hx hb hts hi_X2_allocate hown hw hm 12 (by decide) hf_X2_allocate_48 rfl dX2_allocate_70 ?_
            refine lv_if_le (tgt := 78) hx hb dX2_allocate_73 (by decide) (fun c_32 => ?_) (fun c_32 => absurd (by decide) c_32)
            refine lv_aload_n hx hb dX2_allocate_78 rfl (lv_at hl 1 rfl) ?_
            refine zm_get (v := .ref (am 2)) hx hb hts hi_X2_allocate hown hw hm 1 (by decide) hf_X2_allocate_13 rfl dX2_allocate_79 ?_
            refine lv_iload_n hx hb dX2_allocate_82 rfl (lv_at hl 2 rfl) ?_
            refine zm_ldK hx hb hw hm (zin_7 (by assumption)) dX2_allocate_83 ?_
            refine lv_if_eq (tgt := 91) hx hb dX2_allocate_84 (by decide) (fun c_33 => ?_) (fun c_33 => ?_)
            · refine lv_iconst (v := 0) hx hb dX2_allocate_91 (by decide) ?_
              refine lv_istore (lv' := [(5, .int 0), (4, .int 1), (0, .ref (am 0)), (1, .int p0), (2, .int p1), (3, .int p2)]) hx hb dX2_allocate_92 hl (by decide) rfl (fun ls hl => ?_)
              refine lv_aload_n hx hb dX2_allocate_94 rfl (lv_at hl 2 rfl) ?_
              refine zm_get (v := .ref (am 2)) hx hb hts hi_X2_allocate hown hw hm 1 (by decide) hf_X2_allocate_13 rfl dX2_allocate_95 ?_
              refine lv_iload_n hx hb dX2_allocate_98 rfl (lv_at hl 3 rfl) ?_
              refine lv_iconst (v := 0) hx hb dX2_allocate_99 (by decide) ?_
              refine zm_stK hx hb hw hm (zin_7 (by assumption)) dX2_allocate_100 (fun f_34 H locs hm hw => ?_)
              refine lv_aload_n hx hb dX2_allocate_101 rfl (lv_at hl 2 rfl) ?_
              refine lv_iload_n hx hb dX2_allocate_102 rfl (lv_at hl 3 rfl) ?_
              refine lv_iload_n hx hb dX2_allocate_103 rfl (lv_at hl 4 rfl) ?_
              refine lv_aload_n hx hb dX2_allocate_104 rfl (lv_at hl 2 rfl) ?_
              refine z_callV (As := []) (rest := [.int p1, .int p0, .ref (am 0)]) ⟨hx, hb, hml, hown, hts⟩ hw hX (hm.1.1 0 (by decide)) rfl (c_X2_free l g am L f_34 (zsK σ (upd (zK σ) (Int32.toNatClampNeg p0) 0)) bs 0 hm.rf (zI_free (zI_kill hI _))) (cwV 0 hts gX2_allocate_X2_free rfl rfl rfl (by decide +kernel) ⟨(Nat.le_of_ble_eq_true rfl), (Nat.le_of_ble_eq_true rfl)⟩) rfl hl.1 rfl (Nat.le_of_ble_eq_true rfl) dX2_allocate_105 ⟨(Nat.le_of_ble_eq_true rfl), (Nat.le_of_ble_eq_true rfl)⟩ (fun _ _ _ _ _ _ _ hp => False.elim hp) (fun r9 L9 f9 H locs hp hw => ?_)
              obtain ⟨rfl, rfl, hm9⟩ := hp
              refine W.eq (g2 := F0 m 108 ls [.int (zFnd (zsK σ (upd (zK σ) (Int32.toNatClampNeg p0) 0)) 11), .int p1, .int p0, .ref (am 0)]) rfl ?_
              have hm := hm.tr hm9
              refine lv_iconst (v := 0) hx hb dX2_allocate_108 (by decide) ?_
              refine lv_iload_n hx hb dX2_allocate_109 rfl (lv_at hl 5 rfl) ?_
              refine lv_iconst (v := 0) hx hb dX2_allocate_110 (by decide) ?_
              refine z_callV (As := [.int p0, .int p1, .int (zFnd (zsK σ (upd (zK σ) (Int32.toNatClampNeg p0) 0)) 11), .int 0, .int p2, .int 0]) (rest := []) ⟨hx, hb, hml, hown, hts⟩ hw hX (hm.1.1 0 (by decide)) rfl (c_X2_becomes l g am L f9 (zsST (zsK σ (upd (zK σ) (Int32.toNatClampNeg p0) 0)) (zZero (zST (zsK σ (upd (zK σ) (Int32.toNatClampNeg p0) 0))) (zFnd (zsK σ (upd (zK σ) (Int32.toNatClampNeg p0) 0)) 11) 64)) bs 0 p0 p1 (zFnd (zsK σ (upd (zK σ) (Int32.toNatClampNeg p0) 0)) 11) 0 p2 0 hm.rf (zin_7 (by assumption))) (cwV 6 hts gX2_allocate_X2_becomes rfl rfl rfl (by decide +kernel) ⟨(Nat.le_of_ble_eq_true rfl), (Nat.le_of_ble_eq_true rfl)⟩) rfl hl.1 rfl (Nat.le_of_ble_eq_true rfl) dX2_allocate_111 ⟨(Nat.le_of_ble_eq_true rfl), (Nat.le_of_ble_eq_true rfl)⟩ (fun _ _ _ _ _ _ _ hp => False.elim hp) (fun r9 L9 f9 H locs hp hw => ?_)
              obtain ⟨rfl, rfl, hm9⟩ := hp
              refine W.eq (g2 := F0 m 114 ls []) rfl ?_
              have hm := hm.tr hm9
              refine lv_iload hx hb dX2_allocate_114 (lv_at hl 0 rfl) ?_
              have ho : (o_allocate σ p0 p1 p2) = (0, 0, (zBecomes (zsST (zsK σ (upd (zK σ) (Int32.toNatClampNeg p0) 0)) (zZero (zST (zsK σ (upd (zK σ) (Int32.toNatClampNeg p0) 0))) (zFnd (zsK σ (upd (zK σ) (Int32.toNatClampNeg p0) 0)) 11) 64)) (Int32.toNatClampNeg p0) p1 (zFnd (zsK σ (upd (zK σ) (Int32.toNatClampNeg p0) 0)) 11) 0 p2 0)) := by unfold o_allocate; first | exact (if_pos (show (zin p0 0 7 = true) from by assumption)).trans ((if_pos (show (p1 = 105) from by assumption)).trans ((if_pos (show (zin p2 0 64 = true) from by assumption)).trans (if_pos (show (zK σ (Int32.toNatClampNeg p0) = 0) from by assumption)))) | exact (if_pos (show (zin p0 0 7 = true) from by assumption)).trans ((if_neg (show ¬ (p1 = 105) from by assumption)).trans ((if_pos (show (p1 = 108) from by assumption)).trans ((if_pos (show (zin p2 0 64 = true) from by assumption)).trans (if_pos (show (zK σ (Int32.toNatClampNeg p0) = 0) from by assumption))))) | exact (if_pos (show (zin p0 0 7 = true) from by assumption)).trans ((if_neg (show ¬ (p1 = 105) from by assumption)).trans ((if_neg (show ¬ (p1 = 108) from by assumption)).trans ((if_pos (show (p1 = 99) from by assumption)).trans ((if_pos (show (zin p2 0 64 = true) from by assumption)).trans (if_pos (show (zK σ (Int32.toNatClampNeg p0) = 0) from by assumption)))))) | exact (if_pos (show (zin p0 0 7 = true) from by assumption)).trans ((if_neg (show ¬ (p1 = 105) from by assumption)).trans ((if_neg (show ¬ (p1 = 108) from by assumption)).trans ((if_neg (show ¬ (p1 = 99) from by assumption)).trans ((if_pos (show (p1 = 115) from by assumption)).trans ((if_pos (show (zin p2 0 64 = true) from by assumption)).trans (if_pos (show (zK σ (Int32.toNatClampNeg p0) = 0) from by assumption)))))))
              exact z_zret hx hb hr hlocks rfl hw (Nat.le_of_ble_eq_true rfl) (Nat.le_of_ble_eq_true rfl) dX2_allocate_116 ⟨rfl, _, _, rfl, by rw [ho]; exact hm, by rw [ho]; exact fun _ => rfl⟩
            · refine lv_iconst (v := 1) hx hb dX2_allocate_87 (by decide) ?_
              refine lv_goto (tgt := 92) hx hb dX2_allocate_88 (by decide) ?_
              refine lv_istore (lv' := [(5, .int 1), (4, .int 1), (0, .ref (am 0)), (1, .int p0), (2, .int p1), (3, .int p2)]) hx hb dX2_allocate_92 hl (by decide) rfl (fun ls hl => ?_)
              refine lv_aload_n hx hb dX2_allocate_94 rfl (lv_at hl 2 rfl) ?_
              refine zm_get (v := .ref (am 2)) hx hb hts hi_X2_allocate hown hw hm 1 (by decide) hf_X2_allocate_13 rfl dX2_allocate_95 ?_
              refine lv_iload_n hx hb dX2_allocate_98 rfl (lv_at hl 3 rfl) ?_
              refine lv_iconst (v := 0) hx hb dX2_allocate_99 (by decide) ?_
              refine zm_stK hx hb hw hm (zin_7 (by assumption)) dX2_allocate_100 (fun f_35 H locs hm hw => ?_)
              refine lv_aload_n hx hb dX2_allocate_101 rfl (lv_at hl 2 rfl) ?_
              refine lv_iload_n hx hb dX2_allocate_102 rfl (lv_at hl 3 rfl) ?_
              refine lv_iload_n hx hb dX2_allocate_103 rfl (lv_at hl 4 rfl) ?_
              refine lv_aload_n hx hb dX2_allocate_104 rfl (lv_at hl 2 rfl) ?_
              refine z_callV (As := []) (rest := [.int p1, .int p0, .ref (am 0)]) ⟨hx, hb, hml, hown, hts⟩ hw hX (hm.1.1 0 (by decide)) rfl (c_X2_free l g am L f_35 (zsK σ (upd (zK σ) (Int32.toNatClampNeg p0) 0)) bs 0 hm.rf (zI_free (zI_kill hI _))) (cwV 0 hts gX2_allocate_X2_free rfl rfl rfl (by decide +kernel) ⟨(Nat.le_of_ble_eq_true rfl), (Nat.le_of_ble_eq_true rfl)⟩) rfl hl.1 rfl (Nat.le_of_ble_eq_true rfl) dX2_allocate_105 ⟨(Nat.le_of_ble_eq_true rfl), (Nat.le_of_ble_eq_true rfl)⟩ (fun _ _ _ _ _ _ _ hp => False.elim hp) (fun r9 L9 f9 H locs hp hw => ?_)
              obtain ⟨rfl, rfl, hm9⟩ := hp
              refine W.eq (g2 := F0 m 108 ls [.int (zFnd (zsK σ (upd (zK σ) (Int32.toNatClampNeg p0) 0)) 11), .int p1, .int p0, .ref (am 0)]) rfl ?_
              have hm := hm.tr hm9
              refine lv_iconst (v := 0) hx hb dX2_allocate_108 (by decide) ?_
              refine lv_iload_n hx hb dX2_allocate_109 rfl (lv_at hl 5 rfl) ?_
              refine lv_iconst (v := 0) hx hb dX2_allocate_110 (by decide) ?_
              refine z_callV (As := [.int p0, .int p1, .int (zFnd (zsK σ (upd (zK σ) (Int32.toNatClampNeg p0) 0)) 11), .int 0, .int p2, .int 0]) (rest := []) ⟨hx, hb, hml, hown, hts⟩ hw hX (hm.1.1 0 (by decide)) rfl (c_X2_becomes l g am L f9 (zsST (zsK σ (upd (zK σ) (Int32.toNatClampNeg p0) 0)) (zZero (zST (zsK σ (upd (zK σ) (Int32.toNatClampNeg p0) 0))) (zFnd (zsK σ (upd (zK σ) (Int32.toNatClampNeg p0) 0)) 11) 64)) bs 0 p0 p1 (zFnd (zsK σ (upd (zK σ) (Int32.toNatClampNeg p0) 0)) 11) 0 p2 0 hm.rf (zin_7 (by assumption))) (cwV 6 hts gX2_allocate_X2_becomes rfl rfl rfl (by decide +kernel) ⟨(Nat.le_of_ble_eq_true rfl), (Nat.le_of_ble_eq_true rfl)⟩) rfl hl.1 rfl (Nat.le_of_ble_eq_true rfl) dX2_allocate_111 ⟨(Nat.le_of_ble_eq_true rfl), (Nat.le_of_ble_eq_true rfl)⟩ (fun _ _ _ _ _ _ _ hp => False.elim hp) (fun r9 L9 f9 H locs hp hw => ?_)
              obtain ⟨rfl, rfl, hm9⟩ := hp
              refine W.eq (g2 := F0 m 114 ls []) rfl ?_
              have hm := hm.tr hm9
              refine lv_iload hx hb dX2_allocate_114 (lv_at hl 0 rfl) ?_
              have ho : (o_allocate σ p0 p1 p2) = (0, 1, (zBecomes (zsST (zsK σ (upd (zK σ) (Int32.toNatClampNeg p0) 0)) (zZero (zST (zsK σ (upd (zK σ) (Int32.toNatClampNeg p0) 0))) (zFnd (zsK σ (upd (zK σ) (Int32.toNatClampNeg p0) 0)) 11) 64)) (Int32.toNatClampNeg p0) p1 (zFnd (zsK σ (upd (zK σ) (Int32.toNatClampNeg p0) 0)) 11) 0 p2 0)) := by unfold o_allocate; first | exact (if_pos (show (zin p0 0 7 = true) from by assumption)).trans ((if_pos (show (p1 = 105) from by assumption)).trans ((if_pos (show (zin p2 0 64 = true) from by assumption)).trans (if_neg (show ¬ (zK σ (Int32.toNatClampNeg p0) = 0) from by assumption)))) | exact (if_pos (show (zin p0 0 7 = true) from by assumption)).trans ((if_neg (show ¬ (p1 = 105) from by assumption)).trans ((if_pos (show (p1 = 108) from by assumption)).trans ((if_pos (show (zin p2 0 64 = true) from by assumption)).trans (if_neg (show ¬ (zK σ (Int32.toNatClampNeg p0) = 0) from by assumption))))) | exact (if_pos (show (zin p0 0 7 = true) from by assumption)).trans ((if_neg (show ¬ (p1 = 105) from by assumption)).trans ((if_neg (show ¬ (p1 = 108) from by assumption)).trans ((if_pos (show (p1 = 99) from by assumption)).trans ((if_pos (show (zin p2 0 64 = true) from by assumption)).trans (if_neg (show ¬ (zK σ (Int32.toNatClampNeg p0) = 0) from by assumption)))))) | exact (if_pos (show (zin p0 0 7 = true) from by assumption)).trans ((if_neg (show ¬ (p1 = 105) from by assumption)).trans ((if_neg (show ¬ (p1 = 108) from by assumption)).trans ((if_neg (show ¬ (p1 = 99) from by assumption)).trans ((if_pos (show (p1 = 115) from by assumption)).trans ((if_pos (show (zin p2 0 64 = true) from by assumption)).trans (if_neg (show ¬ (zK σ (Int32.toNatClampNeg p0) = 0) from by assumption)))))))
              exact z_zret hx hb hr hlocks rfl hw (Nat.le_of_ble_eq_true rfl) (Nat.le_of_ble_eq_true rfl) dX2_allocate_116 ⟨rfl, _, _, rfl, by rw [ho]; exact hm, by rw [ho]; exact fun _ => rfl⟩
          · refine lv_iconst (v := 2) hx hb dX2_allocate_61 (by decide) ?_
            refine lv_goto (tgt := 66) hx hb dX2_allocate_62 (by decide) ?_
            refine zm_putT hx hb hts hi_X2_allocate hown hw hm hf_X2_allocate_48 dX2_allocate_66 (fun f_36 H locs hm hw => ?_)
            refine lv_aload_n hx hb dX2_allocate_69 rfl (lv_at hl 1 rfl) ?_
            refine zm_get (v := .int 2) hx hb hts hi_X2_allocate hown hw hm 12 (by decide) hf_X2_allocate_48 rfl dX2_allocate_70 ?_
            refine lv_if_le (tgt := 78) hx hb dX2_allocate_73 (by decide) (fun c_37 => absurd c_37 (by decide)) (fun c_37 => ?_)
            refine lv_iconst (v := 0) hx hb dX2_allocate_76 (by decide) ?_
            have ho : (o_allocate σ p0 p1 p2) = (2, 0, σ) := by unfold o_allocate; first | exact (if_pos (show (zin p0 0 7 = true) from by assumption)).trans ((if_pos (show (p1 = 105) from by assumption)).trans (if_neg (show ¬ (zin p2 0 64 = true) from by assumption))) | exact (if_pos (show (zin p0 0 7 = true) from by assumption)).trans ((if_neg (show ¬ (p1 = 105) from by assumption)).trans ((if_pos (show (p1 = 108) from by assumption)).trans (if_neg (show ¬ (zin p2 0 64 = true) from by assumption)))) | exact (if_pos (show (zin p0 0 7 = true) from by assumption)).trans ((if_neg (show ¬ (p1 = 105) from by assumption)).trans ((if_neg (show ¬ (p1 = 108) from by assumption)).trans ((if_pos (show (p1 = 99) from by assumption)).trans (if_neg (show ¬ (zin p2 0 64 = true) from by assumption))))) | exact (if_pos (show (zin p0 0 7 = true) from by assumption)).trans ((if_neg (show ¬ (p1 = 105) from by assumption)).trans ((if_neg (show ¬ (p1 = 108) from by assumption)).trans ((if_neg (show ¬ (p1 = 99) from by assumption)).trans ((if_pos (show (p1 = 115) from by assumption)).trans (if_neg (show ¬ (zin p2 0 64 = true) from by assumption)))))) | exact (if_pos (show (zin p0 0 7 = true) from by assumption)).trans ((if_neg (show ¬ (p1 = 105) from by assumption)).trans ((if_neg (show ¬ (p1 = 108) from by assumption)).trans ((if_neg (show ¬ (p1 = 99) from by assumption)).trans (if_neg (show ¬ (p1 = 115) from by assumption)))))
            exact z_zret hx hb hr hlocks rfl hw (Nat.le_of_ble_eq_true rfl) (Nat.le_of_ble_eq_true rfl) dX2_allocate_77 ⟨rfl, _, _, rfl, by rw [ho]; exact hm, by rw [ho]; exact fun h => absurd (show (2 : Int32) = 0 from h) (by decide)⟩
        · refine lv_iconst (v := 1) hx hb dX2_allocate_42 (by decide) ?_
          refine lv_goto (tgt := 66) hx hb dX2_allocate_43 (by decide) ?_
          refine zm_putT hx hb hts hi_X2_allocate hown hw hm hf_X2_allocate_48 dX2_allocate_66 (fun f_38 H locs hm hw => ?_)
          refine lv_aload_n hx hb dX2_allocate_69 rfl (lv_at hl 1 rfl) ?_
          refine zm_get (v := .int 1) hx hb hts hi_X2_allocate hown hw hm 12 (by decide) hf_X2_allocate_48 rfl dX2_allocate_70 ?_
          refine lv_if_le (tgt := 78) hx hb dX2_allocate_73 (by decide) (fun c_39 => absurd c_39 (by decide)) (fun c_39 => ?_)
          refine lv_iconst (v := 0) hx hb dX2_allocate_76 (by decide) ?_
          have ho : (o_allocate σ p0 p1 p2) = (1, 0, σ) := by unfold o_allocate; first | exact if_neg (show ¬ (zin p0 0 7 = true) from by assumption)
          exact z_zret hx hb hr hlocks rfl hw (Nat.le_of_ble_eq_true rfl) (Nat.le_of_ble_eq_true rfl) dX2_allocate_77 ⟨rfl, _, _, rfl, by rw [ho]; exact hm, by rw [ho]; exact fun h => absurd (show (1 : Int32) = 0 from h) (by decide)⟩
      · refine lv_iload_n hx hb dX2_allocate_18 rfl (lv_at hl 2 rfl) ?_
        refine lv_bipush (v := 115) hx hb dX2_allocate_19 (by decide) ?_
        refine lv_icmp_ne (tgt := 28) hx hb dX2_allocate_21 (by decide) (fun c_40 => ?_) (fun c_40 => ?_)
        · refine lv_iconst (v := 0) hx hb dX2_allocate_28 (by decide) ?_
          refine lv_istore (lv' := [(4, .int 0), (0, .ref (am 0)), (1, .int p0), (2, .int p1), (3, .int p2)]) hx hb dX2_allocate_29 hl (by decide) rfl (fun ls hl => ?_)
          refine lv_aload_n hx hb dX2_allocate_31 rfl (lv_at hl 1 rfl) ?_
          refine lv_iload_n hx hb dX2_allocate_32 rfl (lv_at hl 2 rfl) ?_
          refine lv_iconst (v := 0) hx hb dX2_allocate_33 (by decide) ?_
          refine lv_bipush (v := 7) hx hb dX2_allocate_34 (by decide) ?_
          refine z_callS (As := [.int p0, .int 0, .int 7]) (rest := [.ref (am 0)]) ⟨hx, hb, hml, hown, hts⟩ hw hX (c_X2_in l g L f p0 0 7) (va_cwS 3 hts gX2_allocate_X2_in rfl rfl rfl (by decide +kernel) ⟨(Nat.le_of_ble_eq_true rfl), (Nat.le_of_ble_eq_true rfl)⟩) rfl hl.1 rfl (Nat.le_of_ble_eq_true rfl) dX2_allocate_36 ⟨(Nat.le_of_ble_eq_true rfl), (Nat.le_of_ble_eq_true rfl)⟩ (fun _ _ _ _ _ _ _ hp => False.elim hp) (fun r9 L9 f9 H locs hp hw => ?_)
          obtain ⟨rfl, rfl, rfl⟩ := hp
          refine W.eq (g2 := F0 m 39 ls [.int (zb (zin p0 0 7)), .ref (am 0)]) rfl ?_
          refine zr_bne hx hb dX2_allocate_39 (tgt := 46) (by decide) (fun c_41 => ?_) (fun c_41 => ?_)
          · refine lv_iload hx hb dX2_allocate_46 (lv_at hl 0 rfl) ?_
            refine lv_if_eq (tgt := 61) hx hb dX2_allocate_48 (by decide) (fun c_42 => ?_) (fun c_42 => absurd (by decide) c_42)
            refine lv_iconst (v := 2) hx hb dX2_allocate_61 (by decide) ?_
            refine lv_goto (tgt := 66) hx hb dX2_allocate_62 (by decide) ?_
            refine zm_putT hx hb hts hi_X2_allocate hown hw hm hf_X2_allocate_48 dX2_allocate_66 (fun f_43 H locs hm hw => ?_)
            refine lv_aload_n hx hb dX2_allocate_69 rfl (lv_at hl 1 rfl) ?_
            refine zm_get (v := .int 2) hx hb hts hi_X2_allocate hown hw hm 12 (by decide) hf_X2_allocate_48 rfl dX2_allocate_70 ?_
            refine lv_if_le (tgt := 78) hx hb dX2_allocate_73 (by decide) (fun c_44 => absurd c_44 (by decide)) (fun c_44 => ?_)
            refine lv_iconst (v := 0) hx hb dX2_allocate_76 (by decide) ?_
            have ho : (o_allocate σ p0 p1 p2) = (2, 0, σ) := by unfold o_allocate; first | exact (if_pos (show (zin p0 0 7 = true) from by assumption)).trans ((if_pos (show (p1 = 105) from by assumption)).trans (if_neg (show ¬ (zin p2 0 64 = true) from by assumption))) | exact (if_pos (show (zin p0 0 7 = true) from by assumption)).trans ((if_neg (show ¬ (p1 = 105) from by assumption)).trans ((if_pos (show (p1 = 108) from by assumption)).trans (if_neg (show ¬ (zin p2 0 64 = true) from by assumption)))) | exact (if_pos (show (zin p0 0 7 = true) from by assumption)).trans ((if_neg (show ¬ (p1 = 105) from by assumption)).trans ((if_neg (show ¬ (p1 = 108) from by assumption)).trans ((if_pos (show (p1 = 99) from by assumption)).trans (if_neg (show ¬ (zin p2 0 64 = true) from by assumption))))) | exact (if_pos (show (zin p0 0 7 = true) from by assumption)).trans ((if_neg (show ¬ (p1 = 105) from by assumption)).trans ((if_neg (show ¬ (p1 = 108) from by assumption)).trans ((if_neg (show ¬ (p1 = 99) from by assumption)).trans ((if_pos (show (p1 = 115) from by assumption)).trans (if_neg (show ¬ (zin p2 0 64 = true) from by assumption)))))) | exact (if_pos (show (zin p0 0 7 = true) from by assumption)).trans ((if_neg (show ¬ (p1 = 105) from by assumption)).trans ((if_neg (show ¬ (p1 = 108) from by assumption)).trans ((if_neg (show ¬ (p1 = 99) from by assumption)).trans (if_neg (show ¬ (p1 = 115) from by assumption)))))
            exact z_zret hx hb hr hlocks rfl hw (Nat.le_of_ble_eq_true rfl) (Nat.le_of_ble_eq_true rfl) dX2_allocate_77 ⟨rfl, _, _, rfl, by rw [ho]; exact hm, by rw [ho]; exact fun h => absurd (show (2 : Int32) = 0 from h) (by decide)⟩
          · refine lv_iconst (v := 1) hx hb dX2_allocate_42 (by decide) ?_
            refine lv_goto (tgt := 66) hx hb dX2_allocate_43 (by decide) ?_
            refine zm_putT hx hb hts hi_X2_allocate hown hw hm hf_X2_allocate_48 dX2_allocate_66 (fun f_45 H locs hm hw => ?_)
            refine lv_aload_n hx hb dX2_allocate_69 rfl (lv_at hl 1 rfl) ?_
            refine zm_get (v := .int 1) hx hb hts hi_X2_allocate hown hw hm 12 (by decide) hf_X2_allocate_48 rfl dX2_allocate_70 ?_
            refine lv_if_le (tgt := 78) hx hb dX2_allocate_73 (by decide) (fun c_46 => absurd c_46 (by decide)) (fun c_46 => ?_)
            refine lv_iconst (v := 0) hx hb dX2_allocate_76 (by decide) ?_
            have ho : (o_allocate σ p0 p1 p2) = (1, 0, σ) := by unfold o_allocate; first | exact if_neg (show ¬ (zin p0 0 7 = true) from by assumption)
            exact z_zret hx hb hr hlocks rfl hw (Nat.le_of_ble_eq_true rfl) (Nat.le_of_ble_eq_true rfl) dX2_allocate_77 ⟨rfl, _, _, rfl, by rw [ho]; exact hm, by rw [ho]; exact fun h => absurd (show (1 : Int32) = 0 from h) (by decide)⟩
        · refine lv_iconst (v := 1) hx hb dX2_allocate_24 (by decide) ?_
          refine lv_goto (tgt := 29) hx hb dX2_allocate_25 (by decide) ?_
          refine lv_istore (lv' := [(4, .int 1), (0, .ref (am 0)), (1, .int p0), (2, .int p1), (3, .int p2)]) hx hb dX2_allocate_29 hl (by decide) rfl (fun ls hl => ?_)
          refine lv_aload_n hx hb dX2_allocate_31 rfl (lv_at hl 1 rfl) ?_
          refine lv_iload_n hx hb dX2_allocate_32 rfl (lv_at hl 2 rfl) ?_
          refine lv_iconst (v := 0) hx hb dX2_allocate_33 (by decide) ?_
          refine lv_bipush (v := 7) hx hb dX2_allocate_34 (by decide) ?_
          refine z_callS (As := [.int p0, .int 0, .int 7]) (rest := [.ref (am 0)]) ⟨hx, hb, hml, hown, hts⟩ hw hX (c_X2_in l g L f p0 0 7) (va_cwS 3 hts gX2_allocate_X2_in rfl rfl rfl (by decide +kernel) ⟨(Nat.le_of_ble_eq_true rfl), (Nat.le_of_ble_eq_true rfl)⟩) rfl hl.1 rfl (Nat.le_of_ble_eq_true rfl) dX2_allocate_36 ⟨(Nat.le_of_ble_eq_true rfl), (Nat.le_of_ble_eq_true rfl)⟩ (fun _ _ _ _ _ _ _ hp => False.elim hp) (fun r9 L9 f9 H locs hp hw => ?_)
          obtain ⟨rfl, rfl, rfl⟩ := hp
          refine W.eq (g2 := F0 m 39 ls [.int (zb (zin p0 0 7)), .ref (am 0)]) rfl ?_
          refine zr_bne hx hb dX2_allocate_39 (tgt := 46) (by decide) (fun c_47 => ?_) (fun c_47 => ?_)
          · refine lv_iload hx hb dX2_allocate_46 (lv_at hl 0 rfl) ?_
            refine lv_if_eq (tgt := 61) hx hb dX2_allocate_48 (by decide) (fun c_48 => absurd c_48 (by decide)) (fun c_48 => ?_)
            refine lv_iload_n hx hb dX2_allocate_51 rfl (lv_at hl 4 rfl) ?_
            refine lv_iconst (v := 0) hx hb dX2_allocate_52 (by decide) ?_
            refine lv_bipush (v := 64) hx hb dX2_allocate_53 (by decide) ?_
            refine z_callS (As := [.int p2, .int 0, .int 64]) (rest := [.ref (am 0)]) ⟨hx, hb, hml, hown, hts⟩ hw hX (c_X2_in l g L f p2 0 64) (va_cwS 3 hts gX2_allocate_X2_in rfl rfl rfl (by decide +kernel) ⟨(Nat.le_of_ble_eq_true rfl), (Nat.le_of_ble_eq_true rfl)⟩) rfl hl.1 rfl (Nat.le_of_ble_eq_true rfl) dX2_allocate_55 ⟨(Nat.le_of_ble_eq_true rfl), (Nat.le_of_ble_eq_true rfl)⟩ (fun _ _ _ _ _ _ _ hp => False.elim hp) (fun r9 L9 f9 H locs hp hw => ?_)
            obtain ⟨rfl, rfl, rfl⟩ := hp
            refine W.eq (g2 := F0 m 58 ls [.int (zb (zin p2 0 64)), .ref (am 0)]) rfl ?_
            refine zr_bne hx hb dX2_allocate_58 (tgt := 65) (by decide) (fun c_49 => ?_) (fun c_49 => ?_)
            · refine lv_iconst (v := 0) hx hb dX2_allocate_65 (by decide) ?_
              refine zm_putT hx hb hts hi_X2_allocate hown hw hm hf_X2_allocate_48 dX2_allocate_66 (fun f_50 H locs hm hw => ?_)
              refine lv_aload_n hx hb dX2_allocate_69 rfl (lv_at hl 1 rfl) ?_
              refine zm_get (v := .int 0) hx hb hts hi_X2_allocate hown hw hm 12 (by decide) hf_X2_allocate_48 rfl dX2_allocate_70 ?_
              refine lv_if_le (tgt := 78) hx hb dX2_allocate_73 (by decide) (fun c_51 => ?_) (fun c_51 => absurd (by decide) c_51)
              refine lv_aload_n hx hb dX2_allocate_78 rfl (lv_at hl 1 rfl) ?_
              refine zm_get (v := .ref (am 2)) hx hb hts hi_X2_allocate hown hw hm 1 (by decide) hf_X2_allocate_13 rfl dX2_allocate_79 ?_
              refine lv_iload_n hx hb dX2_allocate_82 rfl (lv_at hl 2 rfl) ?_
              refine zm_ldK hx hb hw hm (zin_7 (by assumption)) dX2_allocate_83 ?_
              refine lv_if_eq (tgt := 91) hx hb dX2_allocate_84 (by decide) (fun c_52 => ?_) (fun c_52 => ?_)
              · refine lv_iconst (v := 0) hx hb dX2_allocate_91 (by decide) ?_
                refine lv_istore (lv' := [(5, .int 0), (4, .int 1), (0, .ref (am 0)), (1, .int p0), (2, .int p1), (3, .int p2)]) hx hb dX2_allocate_92 hl (by decide) rfl (fun ls hl => ?_)
                refine lv_aload_n hx hb dX2_allocate_94 rfl (lv_at hl 2 rfl) ?_
                refine zm_get (v := .ref (am 2)) hx hb hts hi_X2_allocate hown hw hm 1 (by decide) hf_X2_allocate_13 rfl dX2_allocate_95 ?_
                refine lv_iload_n hx hb dX2_allocate_98 rfl (lv_at hl 3 rfl) ?_
                refine lv_iconst (v := 0) hx hb dX2_allocate_99 (by decide) ?_
                refine zm_stK hx hb hw hm (zin_7 (by assumption)) dX2_allocate_100 (fun f_53 H locs hm hw => ?_)
                refine lv_aload_n hx hb dX2_allocate_101 rfl (lv_at hl 2 rfl) ?_
                refine lv_iload_n hx hb dX2_allocate_102 rfl (lv_at hl 3 rfl) ?_
                refine lv_iload_n hx hb dX2_allocate_103 rfl (lv_at hl 4 rfl) ?_
                refine lv_aload_n hx hb dX2_allocate_104 rfl (lv_at hl 2 rfl) ?_
                refine z_callV (As := []) (rest := [.int p1, .int p0, .ref (am 0)]) ⟨hx, hb, hml, hown, hts⟩ hw hX (hm.1.1 0 (by decide)) rfl (c_X2_free l g am L f_53 (zsK σ (upd (zK σ) (Int32.toNatClampNeg p0) 0)) bs 0 hm.rf (zI_free (zI_kill hI _))) (cwV 0 hts gX2_allocate_X2_free rfl rfl rfl (by decide +kernel) ⟨(Nat.le_of_ble_eq_true rfl), (Nat.le_of_ble_eq_true rfl)⟩) rfl hl.1 rfl (Nat.le_of_ble_eq_true rfl) dX2_allocate_105 ⟨(Nat.le_of_ble_eq_true rfl), (Nat.le_of_ble_eq_true rfl)⟩ (fun _ _ _ _ _ _ _ hp => False.elim hp) (fun r9 L9 f9 H locs hp hw => ?_)
                obtain ⟨rfl, rfl, hm9⟩ := hp
                refine W.eq (g2 := F0 m 108 ls [.int (zFnd (zsK σ (upd (zK σ) (Int32.toNatClampNeg p0) 0)) 11), .int p1, .int p0, .ref (am 0)]) rfl ?_
                have hm := hm.tr hm9
                refine lv_iconst (v := 0) hx hb dX2_allocate_108 (by decide) ?_
                refine lv_iload_n hx hb dX2_allocate_109 rfl (lv_at hl 5 rfl) ?_
                refine lv_iconst (v := 0) hx hb dX2_allocate_110 (by decide) ?_
                refine z_callV (As := [.int p0, .int p1, .int (zFnd (zsK σ (upd (zK σ) (Int32.toNatClampNeg p0) 0)) 11), .int 0, .int p2, .int 0]) (rest := []) ⟨hx, hb, hml, hown, hts⟩ hw hX (hm.1.1 0 (by decide)) rfl (c_X2_becomes l g am L f9 (zsST (zsK σ (upd (zK σ) (Int32.toNatClampNeg p0) 0)) (zZero (zST (zsK σ (upd (zK σ) (Int32.toNatClampNeg p0) 0))) (zFnd (zsK σ (upd (zK σ) (Int32.toNatClampNeg p0) 0)) 11) 64)) bs 0 p0 p1 (zFnd (zsK σ (upd (zK σ) (Int32.toNatClampNeg p0) 0)) 11) 0 p2 0 hm.rf (zin_7 (by assumption))) (cwV 6 hts gX2_allocate_X2_becomes rfl rfl rfl (by decide +kernel) ⟨(Nat.le_of_ble_eq_true rfl), (Nat.le_of_ble_eq_true rfl)⟩) rfl hl.1 rfl (Nat.le_of_ble_eq_true rfl) dX2_allocate_111 ⟨(Nat.le_of_ble_eq_true rfl), (Nat.le_of_ble_eq_true rfl)⟩ (fun _ _ _ _ _ _ _ hp => False.elim hp) (fun r9 L9 f9 H locs hp hw => ?_)
                obtain ⟨rfl, rfl, hm9⟩ := hp
                refine W.eq (g2 := F0 m 114 ls []) rfl ?_
                have hm := hm.tr hm9
                refine lv_iload hx hb dX2_allocate_114 (lv_at hl 0 rfl) ?_
                have ho : (o_allocate σ p0 p1 p2) = (0, 0, (zBecomes (zsST (zsK σ (upd (zK σ) (Int32.toNatClampNeg p0) 0)) (zZero (zST (zsK σ (upd (zK σ) (Int32.toNatClampNeg p0) 0))) (zFnd (zsK σ (upd (zK σ) (Int32.toNatClampNeg p0) 0)) 11) 64)) (Int32.toNatClampNeg p0) p1 (zFnd (zsK σ (upd (zK σ) (Int32.toNatClampNeg p0) 0)) 11) 0 p2 0)) := by unfold o_allocate; first | exact (if_pos (show (zin p0 0 7 = true) from by assumption)).trans ((if_pos (show (p1 = 105) from by assumption)).trans ((if_pos (show (zin p2 0 64 = true) from by assumption)).trans (if_pos (show (zK σ (Int32.toNatClampNeg p0) = 0) from by assumption)))) | exact (if_pos (show (zin p0 0 7 = true) from by assumption)).trans ((if_neg (show ¬ (p1 = 105) from by assumption)).trans ((if_pos (show (p1 = 108) from by assumption)).trans ((if_pos (show (zin p2 0 64 = true) from by assumption)).trans (if_pos (show (zK σ (Int32.toNatClampNeg p0) = 0) from by assumption))))) | exact (if_pos (show (zin p0 0 7 = true) from by assumption)).trans ((if_neg (show ¬ (p1 = 105) from by assumption)).trans ((if_neg (show ¬ (p1 = 108) from by assumption)).trans ((if_pos (show (p1 = 99) from by assumption)).trans ((if_pos (show (zin p2 0 64 = true) from by assumption)).trans (if_pos (show (zK σ (Int32.toNatClampNeg p0) = 0) from by assumption)))))) | exact (if_pos (show (zin p0 0 7 = true) from by assumption)).trans ((if_neg (show ¬ (p1 = 105) from by assumption)).trans ((if_neg (show ¬ (p1 = 108) from by assumption)).trans ((if_neg (show ¬ (p1 = 99) from by assumption)).trans ((if_pos (show (p1 = 115) from by assumption)).trans ((if_pos (show (zin p2 0 64 = true) from by assumption)).trans (if_pos (show (zK σ (Int32.toNatClampNeg p0) = 0) from by assumption)))))))
                exact z_zret hx hb hr hlocks rfl hw (Nat.le_of_ble_eq_true rfl) (Nat.le_of_ble_eq_true rfl) dX2_allocate_116 ⟨rfl, _, _, rfl, by rw [ho]; exact hm, by rw [ho]; exact fun _ => rfl⟩
              · refine lv_iconst (v := 1) hx hb dX2_allocate_87 (by decide) ?_
                refine lv_goto (tgt := 92) hx hb dX2_allocate_88 (by decide) ?_
                refine lv_istore (lv' := [(5, .int 1), (4, .int 1), (0, .ref (am 0)), (1, .int p0), (2, .int p1), (3, .int p2)]) hx hb dX2_allocate_92 hl (by decide) rfl (fun ls hl => ?_)
                refine lv_aload_n hx hb dX2_allocate_94 rfl (lv_at hl 2 rfl) ?_
                refine zm_get (v := .ref (am 2)) hx hb hts hi_X2_allocate hown hw hm 1 (by decide) hf_X2_allocate_13 rfl dX2_allocate_95 ?_
                refine lv_iload_n hx hb dX2_allocate_98 rfl (lv_at hl 3 rfl) ?_
                refine lv_iconst (v := 0) hx hb dX2_allocate_99 (by decide) ?_
                refine zm_stK hx hb hw hm (zin_7 (by assumption)) dX2_allocate_100 (fun f_54 H locs hm hw => ?_)
                refine lv_aload_n hx hb dX2_allocate_101 rfl (lv_at hl 2 rfl) ?_
                refine lv_iload_n hx hb dX2_allocate_102 rfl (lv_at hl 3 rfl) ?_
                refine lv_iload_n hx hb dX2_allocate_103 rfl (lv_at hl 4 rfl) ?_
                refine lv_aload_n hx hb dX2_allocate_104 rfl (lv_at hl 2 rfl) ?_
                refine z_callV (As := []) (rest := [.int p1, .int p0, .ref (am 0)]) ⟨hx, hb, hml, hown, hts⟩ hw hX (hm.1.1 0 (by decide)) rfl (c_X2_free l g am L f_54 (zsK σ (upd (zK σ) (Int32.toNatClampNeg p0) 0)) bs 0 hm.rf (zI_free (zI_kill hI _))) (cwV 0 hts gX2_allocate_X2_free rfl rfl rfl (by decide +kernel) ⟨(Nat.le_of_ble_eq_true rfl), (Nat.le_of_ble_eq_true rfl)⟩) rfl hl.1 rfl (Nat.le_of_ble_eq_true rfl) dX2_allocate_105 ⟨(Nat.le_of_ble_eq_true rfl), (Nat.le_of_ble_eq_true rfl)⟩ (fun _ _ _ _ _ _ _ hp => False.elim hp) (fun r9 L9 f9 H locs hp hw => ?_)
                obtain ⟨rfl, rfl, hm9⟩ := hp
                refine W.eq (g2 := F0 m 108 ls [.int (zFnd (zsK σ (upd (zK σ) (Int32.toNatClampNeg p0) 0)) 11), .int p1, .int p0, .ref (am 0)]) rfl ?_
                have hm := hm.tr hm9
                refine lv_iconst (v := 0) hx hb dX2_allocate_108 (by decide) ?_
                refine lv_iload_n hx hb dX2_allocate_109 rfl (lv_at hl 5 rfl) ?_
                refine lv_iconst (v := 0) hx hb dX2_allocate_110 (by decide) ?_
                refine z_callV (As := [.int p0, .int p1, .int (zFnd (zsK σ (upd (zK σ) (Int32.toNatClampNeg p0) 0)) 11), .int 0, .int p2, .int 0]) (rest := []) ⟨hx, hb, hml, hown, hts⟩ hw hX (hm.1.1 0 (by decide)) rfl (c_X2_becomes l g am L f9 (zsST (zsK σ (upd (zK σ) (Int32.toNatClampNeg p0) 0)) (zZero (zST (zsK σ (upd (zK σ) (Int32.toNatClampNeg p0) 0))) (zFnd (zsK σ (upd (zK σ) (Int32.toNatClampNeg p0) 0)) 11) 64)) bs 0 p0 p1 (zFnd (zsK σ (upd (zK σ) (Int32.toNatClampNeg p0) 0)) 11) 0 p2 0 hm.rf (zin_7 (by assumption))) (cwV 6 hts gX2_allocate_X2_becomes rfl rfl rfl (by decide +kernel) ⟨(Nat.le_of_ble_eq_true rfl), (Nat.le_of_ble_eq_true rfl)⟩) rfl hl.1 rfl (Nat.le_of_ble_eq_true rfl) dX2_allocate_111 ⟨(Nat.le_of_ble_eq_true rfl), (Nat.le_of_ble_eq_true rfl)⟩ (fun _ _ _ _ _ _ _ hp => False.elim hp) (fun r9 L9 f9 H locs hp hw => ?_)
                obtain ⟨rfl, rfl, hm9⟩ := hp
                refine W.eq (g2 := F0 m 114 ls []) rfl ?_
                have hm := hm.tr hm9
                refine lv_iload hx hb dX2_allocate_114 (lv_at hl 0 rfl) ?_
                have ho : (o_allocate σ p0 p1 p2) = (0, 1, (zBecomes (zsST (zsK σ (upd (zK σ) (Int32.toNatClampNeg p0) 0)) (zZero (zST (zsK σ (upd (zK σ) (Int32.toNatClampNeg p0) 0))) (zFnd (zsK σ (upd (zK σ) (Int32.toNatClampNeg p0) 0)) 11) 64)) (Int32.toNatClampNeg p0) p1 (zFnd (zsK σ (upd (zK σ) (Int32.toNatClampNeg p0) 0)) 11) 0 p2 0)) := by unfold o_allocate; first | exact (if_pos (show (zin p0 0 7 = true) from by assumption)).trans ((if_pos (show (p1 = 105) from by assumption)).trans ((if_pos (show (zin p2 0 64 = true) from by assumption)).trans (if_neg (show ¬ (zK σ (Int32.toNatClampNeg p0) = 0) from by assumption)))) | exact (if_pos (show (zin p0 0 7 = true) from by assumption)).trans ((if_neg (show ¬ (p1 = 105) from by assumption)).trans ((if_pos (show (p1 = 108) from by assumption)).trans ((if_pos (show (zin p2 0 64 = true) from by assumption)).trans (if_neg (show ¬ (zK σ (Int32.toNatClampNeg p0) = 0) from by assumption))))) | exact (if_pos (show (zin p0 0 7 = true) from by assumption)).trans ((if_neg (show ¬ (p1 = 105) from by assumption)).trans ((if_neg (show ¬ (p1 = 108) from by assumption)).trans ((if_pos (show (p1 = 99) from by assumption)).trans ((if_pos (show (zin p2 0 64 = true) from by assumption)).trans (if_neg (show ¬ (zK σ (Int32.toNatClampNeg p0) = 0) from by assumption)))))) | exact (if_pos (show (zin p0 0 7 = true) from by assumption)).trans ((if_neg (show ¬ (p1 = 105) from by assumption)).trans ((if_neg (show ¬ (p1 = 108) from by assumption)).trans ((if_neg (show ¬ (p1 = 99) from by assumption)).trans ((if_pos (show (p1 = 115) from by assumption)).trans ((if_pos (show (zin p2 0 64 = true) from by assumption)).trans (if_neg (show ¬ (zK σ (Int32.toNatClampNeg p0) = 0) from by assumption)))))))
                exact z_zret hx hb hr hlocks rfl hw (Nat.le_of_ble_eq_true rfl) (Nat.le_of_ble_eq_true rfl) dX2_allocate_116 ⟨rfl, _, _, rfl, by rw [ho]; exact hm, by rw [ho]; exact fun _ => rfl⟩
            · refine lv_iconst (v := 2) hx hb dX2_allocate_61 (by decide) ?_
              refine lv_goto (tgt := 66) hx hb dX2_allocate_62 (by decide) ?_
              refine zm_putT hx hb hts hi_X2_allocate hown hw hm hf_X2_allocate_48 dX2_allocate_66 (fun f_55 H locs hm hw => ?_)
              refine lv_aload_n hx hb dX2_allocate_69 rfl (lv_at hl 1 rfl) ?_
              refine zm_get (v := .int 2) hx hb hts hi_X2_allocate hown hw hm 12 (by decide) hf_X2_allocate_48 rfl dX2_allocate_70 ?_
              refine lv_if_le (tgt := 78) hx hb dX2_allocate_73 (by decide) (fun c_56 => absurd c_56 (by decide)) (fun c_56 => ?_)
              refine lv_iconst (v := 0) hx hb dX2_allocate_76 (by decide) ?_
              have ho : (o_allocate σ p0 p1 p2) = (2, 0, σ) := by unfold o_allocate; first | exact (if_pos (show (zin p0 0 7 = true) from by assumption)).trans ((if_pos (show (p1 = 105) from by assumption)).trans (if_neg (show ¬ (zin p2 0 64 = true) from by assumption))) | exact (if_pos (show (zin p0 0 7 = true) from by assumption)).trans ((if_neg (show ¬ (p1 = 105) from by assumption)).trans ((if_pos (show (p1 = 108) from by assumption)).trans (if_neg (show ¬ (zin p2 0 64 = true) from by assumption)))) | exact (if_pos (show (zin p0 0 7 = true) from by assumption)).trans ((if_neg (show ¬ (p1 = 105) from by assumption)).trans ((if_neg (show ¬ (p1 = 108) from by assumption)).trans ((if_pos (show (p1 = 99) from by assumption)).trans (if_neg (show ¬ (zin p2 0 64 = true) from by assumption))))) | exact (if_pos (show (zin p0 0 7 = true) from by assumption)).trans ((if_neg (show ¬ (p1 = 105) from by assumption)).trans ((if_neg (show ¬ (p1 = 108) from by assumption)).trans ((if_neg (show ¬ (p1 = 99) from by assumption)).trans ((if_pos (show (p1 = 115) from by assumption)).trans (if_neg (show ¬ (zin p2 0 64 = true) from by assumption)))))) | exact (if_pos (show (zin p0 0 7 = true) from by assumption)).trans ((if_neg (show ¬ (p1 = 105) from by assumption)).trans ((if_neg (show ¬ (p1 = 108) from by assumption)).trans ((if_neg (show ¬ (p1 = 99) from by assumption)).trans (if_neg (show ¬ (p1 = 115) from by assumption)))))
              exact z_zret hx hb hr hlocks rfl hw (Nat.le_of_ble_eq_true rfl) (Nat.le_of_ble_eq_true rfl) dX2_allocate_77 ⟨rfl, _, _, rfl, by rw [ho]; exact hm, by rw [ho]; exact fun h => absurd (show (2 : Int32) = 0 from h) (by decide)⟩
          · refine lv_iconst (v := 1) hx hb dX2_allocate_42 (by decide) ?_
            refine lv_goto (tgt := 66) hx hb dX2_allocate_43 (by decide) ?_
            refine zm_putT hx hb hts hi_X2_allocate hown hw hm hf_X2_allocate_48 dX2_allocate_66 (fun f_57 H locs hm hw => ?_)
            refine lv_aload_n hx hb dX2_allocate_69 rfl (lv_at hl 1 rfl) ?_
            refine zm_get (v := .int 1) hx hb hts hi_X2_allocate hown hw hm 12 (by decide) hf_X2_allocate_48 rfl dX2_allocate_70 ?_
            refine lv_if_le (tgt := 78) hx hb dX2_allocate_73 (by decide) (fun c_58 => absurd c_58 (by decide)) (fun c_58 => ?_)
            refine lv_iconst (v := 0) hx hb dX2_allocate_76 (by decide) ?_
            have ho : (o_allocate σ p0 p1 p2) = (1, 0, σ) := by unfold o_allocate; first | exact if_neg (show ¬ (zin p0 0 7 = true) from by assumption)
            exact z_zret hx hb hr hlocks rfl hw (Nat.le_of_ble_eq_true rfl) (Nat.le_of_ble_eq_true rfl) dX2_allocate_77 ⟨rfl, _, _, rfl, by rw [ho]; exact hm, by rw [ho]; exact fun h => absurd (show (1 : Int32) = 0 from h) (by decide)⟩

theorem zbes_step {B F : Nat → Int64} {k : Nat} (hk : k < 2 ^ 31) (h : ∀ q, q < k → B q = F q) : ∀ q, q < k + 1 → vp_updL B (Int32.toNatClampNeg (nI k)) (F k) q = F q := by
  intro q hq
  rw [nI_clamp hk]
  by_cases e : q = k
  · rw [e, pk_uLs]
  · rw [pk_uLn e]
    exact h q (by omega)

def o_compact (σ : ZS) (p0 : Int32) : Int32 × Int32 × ZS := if zis σ p0 = true then if zRD σ (Int32.toNatClampNeg p0) = 0 then (0, (zEN σ (Int32.toNatClampNeg p0) - zPL σ (Int32.toNatClampNeg p0)), zStands (zComp σ (Int32.toNatClampNeg p0) (Int32.toNatClampNeg (zEN σ (Int32.toNatClampNeg p0) - zPL σ (Int32.toNatClampNeg p0)))) (Int32.toNatClampNeg p0) (zEN σ (Int32.toNatClampNeg p0) - zPL σ (Int32.toNatClampNeg p0)) (zSZ (zComp σ (Int32.toNatClampNeg p0) (Int32.toNatClampNeg (zEN σ (Int32.toNatClampNeg p0) - zPL σ (Int32.toNatClampNeg p0)))) (Int32.toNatClampNeg p0))) else (2, 0, σ) else (1, 0, σ)

theorem hi_X2_compact : ∀ w ∈ wsX20, w ∈ wsX2_compact := by decide +kernel
theorem hf_X2_compact_23 : Cond.fieldLink RX2 23 (TX2 4).1 (TX2 4).2.1 (TX2 4).2.2.1 ∈ wsX2_compact := by decide +kernel
theorem hf_X2_compact_26 : Cond.fieldLink RX2 26 (TX2 5).1 (TX2 5).2.1 (TX2 5).2.2.1 ∈ wsX2_compact := by decide +kernel
theorem hf_X2_compact_29 : Cond.fieldLink RX2 29 (TX2 6).1 (TX2 6).2.1 (TX2 6).2.2.1 ∈ wsX2_compact := by decide +kernel
theorem hf_X2_compact_35 : Cond.fieldLink RX2 35 (TX2 8).1 (TX2 8).2.1 (TX2 8).2.2.1 ∈ wsX2_compact := by decide +kernel
theorem hf_X2_compact_45 : Cond.fieldLink RX2 45 (TX2 11).1 (TX2 11).2.1 (TX2 11).2.2.1 ∈ wsX2_compact := by decide +kernel
theorem hf_X2_compact_48 : Cond.fieldLink RX2 48 (TX2 12).1 (TX2 12).2.1 (TX2 12).2.2.1 ∈ wsX2_compact := by decide +kernel
set_option maxRecDepth 100000 in
set_option maxHeartbeats 4000000 in
theorem c_X2_compact (l : Launch) (g : zG) (am : Nat → Nat) (L : List Nat) (f : Nat → va_E) (σ : ZS) (bs : Nat → Int64) (th : Int32) (p0 : Int32) (hm : zM g am f σ bs th L f) {ln : Nat → Nat} {kd : Nat → Int32} (hI : zI σ ln kd) : zC l yX2_compact wsX2_compact { frames := 2, cells := 0, slots := 0, locals := 43 } 0 0 g [.ref (am 0), .int p0] L f (fun r L1 f1 => L = L1 ∧ ∃ (b9 : Int32) (bs1 : Nat → Int64), some (.int b9) = r ∧ zM g am f (o_compact σ p0).2.2 bs1 (o_compact σ p0).1 L f1 ∧ ((o_compact σ p0).1 = 0 → b9 = (o_compact σ p0).2.1)) zNo := by
  refine z_ofW (cc := cX2_compact) (maxL := 4) (ret := (some .int)) (by decide) rfl (Nat.le_of_ble_eq_true rfl) ?_
  intro p e s m args below meth c ls A hx hb hr hts hown hlocks hml htab hin hw hX hl
  have hl : lv_has ls 4 [(0, .ref (am 0)), (1, .int p0)] := hl
  have hown : s.vm.findClass RX2 = some m.cls := hown
  refine lv_aload_n hx hb dX2_compact_0 rfl (lv_at hl 0 rfl) ?_
  refine lv_aload_n hx hb dX2_compact_1 rfl (lv_at hl 0 rfl) ?_
  refine lv_iload_n hx hb dX2_compact_2 rfl (lv_at hl 1 rfl) ?_
  refine z_callV (As := [.int p0]) (rest := [.ref (am 0)]) ⟨hx, hb, hml, hown, hts⟩ hw hX (hm.1.1 0 (by decide)) rfl (c_X2_is l g am L f σ bs th p0 hm.rf) (cwV 1 hts gX2_compact_X2_is rfl rfl rfl (by decide +kernel) ⟨(Nat.le_of_ble_eq_true rfl), (Nat.le_of_ble_eq_true rfl)⟩) rfl hl.1 rfl (Nat.le_of_ble_eq_true rfl) dX2_compact_3 ⟨(Nat.le_of_ble_eq_true rfl), (Nat.le_of_ble_eq_true rfl)⟩ (fun _ _ _ _ _ _ _ hp => False.elim hp) (fun r9 L9 f9 H locs hp hw => ?_)
  obtain ⟨rfl, rfl, rfl⟩ := hp
  refine W.eq (g2 := F0 m 6 ls [.int (zb (zis σ p0)), .ref (am 0)]) rfl ?_
  refine zr_bne hx hb dX2_compact_6 (tgt := 13) (by decide) (fun c_1 => ?_) (fun c_1 => ?_)
  · refine lv_aload_n hx hb dX2_compact_13 rfl (lv_at hl 0 rfl) ?_
    refine zm_get (v := .ref (am 9)) hx hb hts hi_X2_compact hown hw hm 8 (by decide) hf_X2_compact_35 rfl dX2_compact_14 ?_
    refine lv_iload_n hx hb dX2_compact_17 rfl (lv_at hl 1 rfl) ?_
    refine zm_ldRD hx hb hw hm (by first | assumption | exact zis_7 (by assumption) | exact zin_7 (by assumption) | exact zin_1 (by assumption)) dX2_compact_18 ?_
    refine lv_if_eq (tgt := 26) hx hb dX2_compact_19 (by decide) (fun c_2 => ?_) (fun c_2 => ?_)
    · refine lv_iconst (v := 0) hx hb dX2_compact_26 (by decide) ?_
      refine zm_putT hx hb hts hi_X2_compact hown hw hm hf_X2_compact_48 dX2_compact_27 (fun f_3 H locs hm hw => ?_)
      refine lv_aload_n hx hb dX2_compact_30 rfl (lv_at hl 0 rfl) ?_
      refine zm_get (v := .int 0) hx hb hts hi_X2_compact hown hw hm 12 (by decide) hf_X2_compact_48 rfl dX2_compact_31 ?_
      refine lv_if_le (tgt := 39) hx hb dX2_compact_34 (by decide) (fun c_4 => ?_) (fun c_4 => absurd (by decide) c_4)
      refine lv_aload_n hx hb dX2_compact_39 rfl (lv_at hl 0 rfl) ?_
      refine zm_get (v := .ref (am 7)) hx hb hts hi_X2_compact hown hw hm 6 (by decide) hf_X2_compact_29 rfl dX2_compact_40 ?_
      refine lv_iload_n hx hb dX2_compact_43 rfl (lv_at hl 1 rfl) ?_
      refine zm_ldEN hx hb hw hm (by first | assumption | exact zis_7 (by assumption) | exact zin_7 (by assumption) | exact zin_1 (by assumption)) dX2_compact_44 ?_
      refine lv_aload_n hx hb dX2_compact_45 rfl (lv_at hl 0 rfl) ?_
      refine zm_get (v := .ref (am 6)) hx hb hts hi_X2_compact hown hw hm 5 (by decide) hf_X2_compact_26 rfl dX2_compact_46 ?_
      refine lv_iload_n hx hb dX2_compact_49 rfl (lv_at hl 1 rfl) ?_
      refine zm_ldPL hx hb hw hm (by first | assumption | exact zis_7 (by assumption) | exact zin_7 (by assumption) | exact zin_1 (by assumption)) dX2_compact_50 ?_
      refine lv_isub hx hb dX2_compact_51 ?_
      refine lv_istore_n (lv' := [(2, .int ((zEN σ (Int32.toNatClampNeg p0)) - (zPL σ (Int32.toNatClampNeg p0)))), (0, .ref (am 0)), (1, .int p0)]) hx hb dX2_compact_52 rfl hl (by decide) rfl (fun ls hl => ?_)
      refine lv_iconst (v := 0) hx hb dX2_compact_53 (by decide) ?_
      refine lv_istore_n (lv' := [(3, .int 0), (2, .int ((zEN σ (Int32.toNatClampNeg p0)) - (zPL σ (Int32.toNatClampNeg p0)))), (0, .ref (am 0)), (1, .int p0)]) hx hb dX2_compact_54 rfl hl (by decide) rfl (fun ls hl => ?_)
      obtain ⟨n, hn64, hnn⟩ := zWin_n (zI_win hI (by assumption))
      have loop_55 : ∀ (n9 : Nat) (k : Nat) (f8 : Nat → va_E) (bs8 : Nat → Int64) (H : Heap) (locs : List Loc) (ls : Array Slot), (k ≤ n) → (n + 1 ≤ k + n9) → (∀ q, q < k → bs8 q = zVal σ (Int32.toNatClampNeg p0) (zPL σ (Int32.toNatClampNeg p0) + nI q)) → zM g am f σ bs8 0 L f8 → zW g A s L f8 H locs → lv_has ls 4 [(0, .ref (am 0)), (1, .int p0), (2, .int (zEN σ (Int32.toNatClampNeg p0) - zPL σ (Int32.toNatClampNeg p0))), (3, .int (nI k))] → W p l e { frames := 2, cells := 0, slots := 0, locals := 43 } s m args below meth c H locs 0 0 (vx_MQ below (zQ g A (fun r L1 f1 => L = L1 ∧ ∃ (b9 : Int32) (bs1 : Nat → Int64), some (.int b9) = r ∧ zM g am f (o_compact σ p0).2.2 bs1 (o_compact σ p0).1 L f1 ∧ ((o_compact σ p0).1 = 0 → b9 = (o_compact σ p0).2.1))) (zXC g A zNo) args s 0 0 A) (F0 m 55 ls []) := by
        intro n9
        induction n9 with
        | zero => intro k f8 bs8 H locs ls hk hn hbs hm hw hl; exact absurd hn (by omega)
        | succ n9 ih_55 =>
          intro k f8 bs8 H locs ls hk hn hbs hm hw hl
          refine lv_iload_n hx hb dX2_compact_55 rfl (lv_at hl 3 rfl) ?_
          refine lv_iload_n hx hb dX2_compact_56 rfl (lv_at hl 2 rfl) ?_
          refine lv_icmp_ge (tgt := 85) hx hb dX2_compact_57 (by decide) (fun c_5 => ?_) (fun c_5 => ?_)
          · have hke : k = n := zn_ge (n := n) (by rw [← hnn]; exact c_5) hk (by omega)
            refine lv_iconst (v := 0) hx hb dX2_compact_85 (by decide) ?_
            refine lv_istore_n (lv' := [(3, .int 0), (0, .ref (am 0)), (1, .int p0), (2, .int (zEN σ (Int32.toNatClampNeg p0) - zPL σ (Int32.toNatClampNeg p0)))]) hx hb dX2_compact_86 rfl hl (by decide) rfl (fun ls hl => ?_)
            have loop_87 : ∀ (n9 : Nat) (k2 : Nat) (f8 : Nat → va_E) (H : Heap) (locs : List Loc) (ls : Array Slot), (k2 ≤ n) → (n + 1 ≤ k2 + n9) → zM g am f (zComp σ (Int32.toNatClampNeg p0) k2) bs8 0 L f8 → zW g A s L f8 H locs → lv_has ls 4 [(0, .ref (am 0)), (1, .int p0), (2, .int (zEN σ (Int32.toNatClampNeg p0) - zPL σ (Int32.toNatClampNeg p0))), (3, .int (nI k2))] → W p l e { frames := 2, cells := 0, slots := 0, locals := 43 } s m args below meth c H locs 0 0 (vx_MQ below (zQ g A (fun r L1 f1 => L = L1 ∧ ∃ (b9 : Int32) (bs1 : Nat → Int64), some (.int b9) = r ∧ zM g am f (o_compact σ p0).2.2 bs1 (o_compact σ p0).1 L f1 ∧ ((o_compact σ p0).1 = 0 → b9 = (o_compact σ p0).2.1))) (zXC g A zNo) args s 0 0 A) (F0 m 87 ls []) := by
              intro n9
              induction n9 with
              | zero => intro k2 f8 H locs ls hk2 hn2 hm hw hl; exact absurd hn2 (by omega)
              | succ n9 ih_87 =>
                intro k2 f8 H locs ls hk2 hn2 hm hw hl
                refine lv_iload_n hx hb dX2_compact_87 rfl (lv_at hl 3 rfl) ?_
                refine lv_iload_n hx hb dX2_compact_88 rfl (lv_at hl 2 rfl) ?_
                refine lv_icmp_ge (tgt := 110) hx hb dX2_compact_89 (by decide) (fun c_6 => ?_) (fun c_6 => ?_)
                · have hke2 : k2 = n := zn_ge (n := n) (by rw [← hnn]; exact c_6) hk2 (by omega)
                  refine lv_aload_n hx hb dX2_compact_110 rfl (lv_at hl 0 rfl) ?_
                  refine lv_iload_n hx hb dX2_compact_111 rfl (lv_at hl 1 rfl) ?_
                  refine lv_iload_n hx hb dX2_compact_112 rfl (lv_at hl 2 rfl) ?_
                  refine lv_aload_n hx hb dX2_compact_113 rfl (lv_at hl 0 rfl) ?_
                  refine zm_get (v := .ref (am 5)) hx hb hts hi_X2_compact hown hw hm 4 (by decide) hf_X2_compact_23 rfl dX2_compact_114 ?_
                  refine lv_iload_n hx hb dX2_compact_117 rfl (lv_at hl 1 rfl) ?_
                  refine zm_ldSZ hx hb hw hm (by first | assumption | exact zis_7 (by assumption) | exact zin_7 (by assumption) | exact zin_1 (by assumption)) dX2_compact_118 ?_
                  refine z_callV (As := [.int p0, .int (zEN σ (Int32.toNatClampNeg p0) - zPL σ (Int32.toNatClampNeg p0)), .int (zSZ (zComp σ (Int32.toNatClampNeg p0) k2) (Int32.toNatClampNeg p0))]) (rest := []) ⟨hx, hb, hml, hown, hts⟩ hw hX (hm.1.1 0 (by decide)) rfl (c_X2_stands l g am L f8 (zComp σ (Int32.toNatClampNeg p0) k2) bs8 0 p0 (zEN σ (Int32.toNatClampNeg p0) - zPL σ (Int32.toNatClampNeg p0)) (zSZ (zComp σ (Int32.toNatClampNeg p0) k2) (Int32.toNatClampNeg p0)) hm.rf (by first | assumption | exact zis_7 (by assumption) | exact zin_7 (by assumption) | exact zin_1 (by assumption))) (cwV 3 hts gX2_compact_X2_stands rfl rfl rfl (by decide +kernel) ⟨(Nat.le_of_ble_eq_true rfl), (Nat.le_of_ble_eq_true rfl)⟩) rfl hl.1 rfl (Nat.le_of_ble_eq_true rfl) dX2_compact_119 ⟨(Nat.le_of_ble_eq_true rfl), (Nat.le_of_ble_eq_true rfl)⟩ (fun _ _ _ _ _ _ _ hp => False.elim hp) (fun r9 L9 f9 H locs hp hw => ?_)
                  obtain ⟨rfl, rfl, hm9⟩ := hp
                  refine W.eq (g2 := F0 m 122 ls []) rfl ?_
                  have hm := hm.tr hm9
                  refine lv_iload_n hx hb dX2_compact_122 rfl (lv_at hl 2 rfl) ?_
                  have hz : Int32.toNatClampNeg (zEN σ (Int32.toNatClampNeg p0) - zPL σ (Int32.toNatClampNeg p0)) = k2 := by rw [hnn, nI_clamp (by omega)]; exact hke2.symm
                  have ho : (o_compact σ p0) = (0, (zEN σ (Int32.toNatClampNeg p0) - zPL σ (Int32.toNatClampNeg p0)), (zStands (zComp σ (Int32.toNatClampNeg p0) k2) (Int32.toNatClampNeg p0) (zEN σ (Int32.toNatClampNeg p0) - zPL σ (Int32.toNatClampNeg p0)) (zSZ (zComp σ (Int32.toNatClampNeg p0) k2) (Int32.toNatClampNeg p0)))) := by unfold o_compact; rw [hz]; first | exact (if_pos (show (zis σ p0 = true) from by assumption)).trans (if_pos (show (zRD σ (Int32.toNatClampNeg p0) = 0) from by assumption))
                  exact z_iret hx hb hr hlocks hw (Nat.le_of_ble_eq_true rfl) (Nat.le_of_ble_eq_true rfl) dX2_compact_123 ⟨rfl, _, _, rfl, by rw [ho]; exact hm, by rw [ho]; exact fun _ => rfl⟩
                · have hlt2 : k2 < n := zn_lt (n := n) (by rw [← hnn]; exact c_6) hk2 (by omega)
                  refine lv_aload_n hx hb dX2_compact_92 rfl (lv_at hl 0 rfl) ?_
                  refine lv_iload_n hx hb dX2_compact_93 rfl (lv_at hl 1 rfl) ?_
                  refine lv_iload_n hx hb dX2_compact_94 rfl (lv_at hl 3 rfl) ?_
                  refine lv_aload_n hx hb dX2_compact_95 rfl (lv_at hl 0 rfl) ?_
                  refine zm_get (v := .ref (am 12)) hx hb hts hi_X2_compact hown hw hm 11 (by decide) hf_X2_compact_45 rfl dX2_compact_96 ?_
                  refine lv_iload_n hx hb dX2_compact_99 rfl (lv_at hl 3 rfl) ?_
                  refine zm_ldBS hx hb hw hm (vp_in_nI (by omega) (by decide)) dX2_compact_100 ?_
                  refine z_callV (As := [.int p0, .int (nI k2), .long (bs8 (Int32.toNatClampNeg (nI k2)))]) (rest := []) ⟨hx, hb, hml, hown, hts⟩ hw hX (hm.1.1 0 (by decide)) rfl (c_X2_lays l g am L f8 (zComp σ (Int32.toNatClampNeg p0) k2) bs8 0 p0 (nI k2) (bs8 (Int32.toNatClampNeg (nI k2))) hm.rf (by first | assumption | exact zis_7 (by assumption) | exact zin_7 (by assumption) | exact zin_1 (by assumption)) (by rw [zAt_eq _ (zComp_f _ _ _).2.2.1 (zComp_f _ _ _).2.2.2.1]; exact zAt_k0 (zI_win hI (by assumption)) hnn (by omega) hlt2)) (cwV 3 hts gX2_compact_X2_lays rfl rfl rfl (by decide +kernel) ⟨(Nat.le_of_ble_eq_true rfl), (Nat.le_of_ble_eq_true rfl)⟩) rfl hl.1 rfl (Nat.le_of_ble_eq_true rfl) dX2_compact_101 ⟨(Nat.le_of_ble_eq_true rfl), (Nat.le_of_ble_eq_true rfl)⟩ (fun _ _ _ _ _ _ _ hp => False.elim hp) (fun r9 L9 f9 H locs hp hw => ?_)
                  obtain ⟨rfl, rfl, hm9⟩ := hp
                  refine W.eq (g2 := F0 m 104 ls []) rfl ?_
                  have hm := hm.tr hm9
                  refine lv_iinc (v := ((nI k2) + 1)) (lv' := [(3, .int ((nI k2) + 1)), (0, .ref (am 0)), (1, .int p0), (2, .int (zEN σ (Int32.toNatClampNeg p0) - zPL σ (Int32.toNatClampNeg p0)))]) hx hb dX2_compact_104 hl (k := 3) rfl rfl (by decide) rfl (fun ls hl => ?_)
                  refine lv_goto (tgt := 87) hx hb dX2_compact_107 (by decide) ?_
                  rw [nI_clamp (by omega), hbs k2 (by omega)] at hm
                  refine ih_87 (k2 + 1) _ _ _ _ (by omega) (by omega) hm hw ?_
                  have hl := lv_sub hl (l' := [(0, .ref (am 0)), (1, .int p0), (2, .int (zEN σ (Int32.toNatClampNeg p0) - zPL σ (Int32.toNatClampNeg p0))), (3, .int ((nI k2) + 1))]) [1, 2, 3, 0] rfl
                  rw [← nI_1 k2]
                  exact hl
            refine loop_87 (n + 1) 0 _ _ _ _ (Nat.zero_le _) (by omega) hm hw ?_
            have hl := lv_sub hl (l' := [(0, .ref (am 0)), (1, .int p0), (2, .int (zEN σ (Int32.toNatClampNeg p0) - zPL σ (Int32.toNatClampNeg p0))), (3, .int 0)]) [1, 2, 3, 0] rfl
            exact hl
          · have hlt : k < n := zn_lt (n := n) (by rw [← hnn]; exact c_5) hk (by omega)
            refine lv_aload_n hx hb dX2_compact_60 rfl (lv_at hl 0 rfl) ?_
            refine zm_get (v := .ref (am 12)) hx hb hts hi_X2_compact hown hw hm 11 (by decide) hf_X2_compact_45 rfl dX2_compact_61 ?_
            refine lv_iload_n hx hb dX2_compact_64 rfl (lv_at hl 3 rfl) ?_
            refine lv_aload_n hx hb dX2_compact_65 rfl (lv_at hl 0 rfl) ?_
            refine lv_iload_n hx hb dX2_compact_66 rfl (lv_at hl 1 rfl) ?_
            refine lv_aload_n hx hb dX2_compact_67 rfl (lv_at hl 0 rfl) ?_
            refine zm_get (v := .ref (am 6)) hx hb hts hi_X2_compact hown hw hm 5 (by decide) hf_X2_compact_26 rfl dX2_compact_68 ?_
            refine lv_iload_n hx hb dX2_compact_71 rfl (lv_at hl 1 rfl) ?_
            refine zm_ldPL hx hb hw hm (by first | assumption | exact zis_7 (by assumption) | exact zin_7 (by assumption) | exact zin_1 (by assumption)) dX2_compact_72 ?_
            refine lv_iload_n hx hb dX2_compact_73 rfl (lv_at hl 3 rfl) ?_
            refine lv_iadd hx hb dX2_compact_74 ?_
            refine z_callV (As := [.int p0, .int ((zPL σ (Int32.toNatClampNeg p0)) + (nI k))]) (rest := [.int (nI k), .ref (am 12)]) ⟨hx, hb, hml, hown, hts⟩ hw hX (hm.1.1 0 (by decide)) rfl (c_X2_value l g am L f8 σ bs8 0 p0 ((zPL σ (Int32.toNatClampNeg p0)) + (nI k)) hm.rf (by first | assumption | exact zis_7 (by assumption) | exact zin_7 (by assumption) | exact zin_1 (by assumption)) (zAt_pk (zI_win hI (by assumption)) hnn (by omega) hlt)) (cwV 2 hts gX2_compact_X2_value rfl rfl rfl (by decide +kernel) ⟨(Nat.le_of_ble_eq_true rfl), (Nat.le_of_ble_eq_true rfl)⟩) rfl hl.1 rfl (Nat.le_of_ble_eq_true rfl) dX2_compact_75 ⟨(Nat.le_of_ble_eq_true rfl), (Nat.le_of_ble_eq_true rfl)⟩ (fun _ _ _ _ _ _ _ hp => False.elim hp) (fun r9 L9 f9 H locs hp hw => ?_)
            obtain ⟨rfl, rfl, rfl⟩ := hp
            refine W.eq (g2 := F0 m 78 ls [.long (zVal σ (Int32.toNatClampNeg p0) ((zPL σ (Int32.toNatClampNeg p0)) + (nI k))), .int (nI k), .ref (am 12)]) rfl ?_
            refine zm_stBS hx hb hw hm (vp_in_nI (by omega) (by decide)) dX2_compact_78 (fun f_7 H locs hm hw => ?_)
            refine lv_iinc (v := ((nI k) + 1)) (lv' := [(3, .int ((nI k) + 1)), (0, .ref (am 0)), (1, .int p0), (2, .int (zEN σ (Int32.toNatClampNeg p0) - zPL σ (Int32.toNatClampNeg p0)))]) hx hb dX2_compact_79 hl (k := 3) rfl rfl (by decide) rfl (fun ls hl => ?_)
            refine lv_goto (tgt := 55) hx hb dX2_compact_82 (by decide) ?_
            refine ih_55 (k + 1) _ _ _ _ _ (by omega) (by omega) (zbes_step (F := fun q => zVal σ (Int32.toNatClampNeg p0) (zPL σ (Int32.toNatClampNeg p0) + nI q)) (by omega) hbs) hm hw ?_
            have hl := lv_sub hl (l' := [(0, .ref (am 0)), (1, .int p0), (2, .int (zEN σ (Int32.toNatClampNeg p0) - zPL σ (Int32.toNatClampNeg p0))), (3, .int ((nI k) + 1))]) [1, 2, 3, 0] rfl
            rw [← nI_1 k]
            exact hl
      refine loop_55 (n + 1) 0 _ _ _ _ _ (Nat.zero_le _) (by omega) (fun q h => absurd h (Nat.not_lt_zero q)) hm hw ?_
      have hl := lv_sub hl (l' := [(0, .ref (am 0)), (1, .int p0), (2, .int ((zEN σ (Int32.toNatClampNeg p0)) - (zPL σ (Int32.toNatClampNeg p0)))), (3, .int 0)]) [2, 3, 1, 0] rfl
      exact hl
    · refine lv_iconst (v := 2) hx hb dX2_compact_22 (by decide) ?_
      refine lv_goto (tgt := 27) hx hb dX2_compact_23 (by decide) ?_
      refine zm_putT hx hb hts hi_X2_compact hown hw hm hf_X2_compact_48 dX2_compact_27 (fun f_8 H locs hm hw => ?_)
      refine lv_aload_n hx hb dX2_compact_30 rfl (lv_at hl 0 rfl) ?_
      refine zm_get (v := .int 2) hx hb hts hi_X2_compact hown hw hm 12 (by decide) hf_X2_compact_48 rfl dX2_compact_31 ?_
      refine lv_if_le (tgt := 39) hx hb dX2_compact_34 (by decide) (fun c_9 => absurd c_9 (by decide)) (fun c_9 => ?_)
      refine lv_iconst (v := 0) hx hb dX2_compact_37 (by decide) ?_
      have ho : (o_compact σ p0) = (2, 0, σ) := by unfold o_compact; first | exact (if_pos (show (zis σ p0 = true) from by assumption)).trans (if_neg (show ¬ (zRD σ (Int32.toNatClampNeg p0) = 0) from by assumption))
      exact z_iret hx hb hr hlocks hw (Nat.le_of_ble_eq_true rfl) (Nat.le_of_ble_eq_true rfl) dX2_compact_38 ⟨rfl, _, _, rfl, by rw [ho]; exact hm, by rw [ho]; exact fun h => absurd (show (2 : Int32) = 0 from h) (by decide)⟩
  · refine lv_iconst (v := 1) hx hb dX2_compact_9 (by decide) ?_
    refine lv_goto (tgt := 27) hx hb dX2_compact_10 (by decide) ?_
    refine zm_putT hx hb hts hi_X2_compact hown hw hm hf_X2_compact_48 dX2_compact_27 (fun f_10 H locs hm hw => ?_)
    refine lv_aload_n hx hb dX2_compact_30 rfl (lv_at hl 0 rfl) ?_
    refine zm_get (v := .int 1) hx hb hts hi_X2_compact hown hw hm 12 (by decide) hf_X2_compact_48 rfl dX2_compact_31 ?_
    refine lv_if_le (tgt := 39) hx hb dX2_compact_34 (by decide) (fun c_11 => absurd c_11 (by decide)) (fun c_11 => ?_)
    refine lv_iconst (v := 0) hx hb dX2_compact_37 (by decide) ?_
    have ho : (o_compact σ p0) = (1, 0, σ) := by unfold o_compact; first | exact if_neg (show ¬ (zis σ p0 = true) from by assumption)
    exact z_iret hx hb hr hlocks hw (Nat.le_of_ble_eq_true rfl) (Nat.le_of_ble_eq_true rfl) dX2_compact_38 ⟨rfl, _, _, rfl, by rw [ho]; exact hm, by rw [ho]; exact fun h => absurd (show (1 : Int32) = 0 from h) (by decide)⟩

def o_fill (σ : ZS) (p0 : Int32) (p1 : Int32) (p2 : Int64) (p3 : Int64) : Int32 × Int32 × ZS := if zis σ p0 = true then if 0 ≤ p1 then if zRD σ (Int32.toNatClampNeg p0) = 0 then if p1 ≤ (zEN σ (Int32.toNatClampNeg p0) - zPL σ (Int32.toNatClampNeg p0)) then (0, zPL (zFill σ (Int32.toNatClampNeg p0) p2 p3 (Int32.toNatClampNeg p1)) (Int32.toNatClampNeg p0), (zFill σ (Int32.toNatClampNeg p0) p2 p3 (Int32.toNatClampNeg p1))) else (4, 0, σ) else (3, 0, σ) else (2, 0, σ) else (1, 0, σ)

theorem hi_X2_fill : ∀ w ∈ wsX20, w ∈ wsX2_fill := by decide +kernel
theorem hf_X2_fill_26 : Cond.fieldLink RX2 26 (TX2 5).1 (TX2 5).2.1 (TX2 5).2.2.1 ∈ wsX2_fill := by decide +kernel
theorem hf_X2_fill_29 : Cond.fieldLink RX2 29 (TX2 6).1 (TX2 6).2.1 (TX2 6).2.2.1 ∈ wsX2_fill := by decide +kernel
theorem hf_X2_fill_35 : Cond.fieldLink RX2 35 (TX2 8).1 (TX2 8).2.1 (TX2 8).2.2.1 ∈ wsX2_fill := by decide +kernel
theorem hf_X2_fill_48 : Cond.fieldLink RX2 48 (TX2 12).1 (TX2 12).2.1 (TX2 12).2.2.1 ∈ wsX2_fill := by decide +kernel
set_option maxRecDepth 100000 in
set_option maxHeartbeats 4000000 in
theorem c_X2_fill (l : Launch) (g : zG) (am : Nat → Nat) (L : List Nat) (f : Nat → va_E) (σ : ZS) (bs : Nat → Int64) (th : Int32) (p0 : Int32) (p1 : Int32) (p2 : Int64) (p3 : Int64) (hm : zM g am f σ bs th L f) {ln : Nat → Nat} {kd : Nat → Int32} (hI : zI σ ln kd) : zC l yX2_fill wsX2_fill { frames := 2, cells := 0, slots := 0, locals := 43 } 0 0 g [.ref (am 0), .int p0, .int p1, .long p2, .long p3] L f (fun r L1 f1 => L = L1 ∧ ∃ (b9 : Int32) (bs1 : Nat → Int64), some (.int b9) = r ∧ zM g am f (o_fill σ p0 p1 p2 p3).2.2 bs1 (o_fill σ p0 p1 p2 p3).1 L f1 ∧ ((o_fill σ p0 p1 p2 p3).1 = 0 → b9 = (o_fill σ p0 p1 p2 p3).2.1)) zNo := by
  refine z_ofW (cc := cX2_fill) (maxL := 8) (ret := (some .int)) (by decide) rfl (Nat.le_of_ble_eq_true rfl) ?_
  intro p e s m args below meth c ls A hx hb hr hts hown hlocks hml htab hin hw hX hl
  have hl : lv_has ls 8 [(0, .ref (am 0)), (1, .int p0), (2, .int p1), (3, .long p2), (5, .long p3)] := hl
  have hown : s.vm.findClass RX2 = some m.cls := hown
  refine lv_aload_n hx hb dX2_fill_0 rfl (lv_at hl 0 rfl) ?_
  refine lv_aload_n hx hb dX2_fill_1 rfl (lv_at hl 0 rfl) ?_
  refine lv_iload_n hx hb dX2_fill_2 rfl (lv_at hl 1 rfl) ?_
  refine z_callV (As := [.int p0]) (rest := [.ref (am 0)]) ⟨hx, hb, hml, hown, hts⟩ hw hX (hm.1.1 0 (by decide)) rfl (c_X2_is l g am L f σ bs th p0 hm.rf) (cwV 1 hts gX2_fill_X2_is rfl rfl rfl (by decide +kernel) ⟨(Nat.le_of_ble_eq_true rfl), (Nat.le_of_ble_eq_true rfl)⟩) rfl hl.1 rfl (Nat.le_of_ble_eq_true rfl) dX2_fill_3 ⟨(Nat.le_of_ble_eq_true rfl), (Nat.le_of_ble_eq_true rfl)⟩ (fun _ _ _ _ _ _ _ hp => False.elim hp) (fun r9 L9 f9 H locs hp hw => ?_)
  obtain ⟨rfl, rfl, rfl⟩ := hp
  refine W.eq (g2 := F0 m 6 ls [.int (zb (zis σ p0)), .ref (am 0)]) rfl ?_
  refine zr_bne hx hb dX2_fill_6 (tgt := 13) (by decide) (fun c_1 => ?_) (fun c_1 => ?_)
  · refine lv_iload_n hx hb dX2_fill_13 rfl (lv_at hl 2 rfl) ?_
    refine lv_if_ge (tgt := 21) hx hb dX2_fill_14 (by decide) (fun c_2 => ?_) (fun c_2 => ?_)
    · refine lv_aload_n hx hb dX2_fill_21 rfl (lv_at hl 0 rfl) ?_
      refine zm_get (v := .ref (am 9)) hx hb hts hi_X2_fill hown hw hm 8 (by decide) hf_X2_fill_35 rfl dX2_fill_22 ?_
      refine lv_iload_n hx hb dX2_fill_25 rfl (lv_at hl 1 rfl) ?_
      refine zm_ldRD hx hb hw hm (by first | assumption | exact zis_7 (by assumption) | exact zin_7 (by assumption) | exact zin_1 (by assumption)) dX2_fill_26 ?_
      refine lv_if_eq (tgt := 34) hx hb dX2_fill_27 (by decide) (fun c_3 => ?_) (fun c_3 => ?_)
      · refine lv_iload_n hx hb dX2_fill_34 rfl (lv_at hl 2 rfl) ?_
        refine lv_aload_n hx hb dX2_fill_35 rfl (lv_at hl 0 rfl) ?_
        refine zm_get (v := .ref (am 7)) hx hb hts hi_X2_fill hown hw hm 6 (by decide) hf_X2_fill_29 rfl dX2_fill_36 ?_
        refine lv_iload_n hx hb dX2_fill_39 rfl (lv_at hl 1 rfl) ?_
        refine zm_ldEN hx hb hw hm (by first | assumption | exact zis_7 (by assumption) | exact zin_7 (by assumption) | exact zin_1 (by assumption)) dX2_fill_40 ?_
        refine lv_aload_n hx hb dX2_fill_41 rfl (lv_at hl 0 rfl) ?_
        refine zm_get (v := .ref (am 6)) hx hb hts hi_X2_fill hown hw hm 5 (by decide) hf_X2_fill_26 rfl dX2_fill_42 ?_
        refine lv_iload_n hx hb dX2_fill_45 rfl (lv_at hl 1 rfl) ?_
        refine zm_ldPL hx hb hw hm (by first | assumption | exact zis_7 (by assumption) | exact zin_7 (by assumption) | exact zin_1 (by assumption)) dX2_fill_46 ?_
        refine lv_isub hx hb dX2_fill_47 ?_
        refine lv_icmp_le (tgt := 55) hx hb dX2_fill_48 (by decide) (fun c_4 => ?_) (fun c_4 => ?_)
        · refine lv_iconst (v := 0) hx hb dX2_fill_55 (by decide) ?_
          refine zm_putT hx hb hts hi_X2_fill hown hw hm hf_X2_fill_48 dX2_fill_56 (fun f_5 H locs hm hw => ?_)
          refine lv_aload_n hx hb dX2_fill_59 rfl (lv_at hl 0 rfl) ?_
          refine zm_get (v := .int 0) hx hb hts hi_X2_fill hown hw hm 12 (by decide) hf_X2_fill_48 rfl dX2_fill_60 ?_
          refine lv_if_le (tgt := 68) hx hb dX2_fill_63 (by decide) (fun c_6 => ?_) (fun c_6 => absurd (by decide) c_6)
          refine lv_iconst (v := 0) hx hb dX2_fill_68 (by decide) ?_
          refine lv_istore (lv' := [(7, .int 0), (0, .ref (am 0)), (1, .int p0), (2, .int p1), (3, .long p2), (5, .long p3)]) hx hb dX2_fill_69 hl (by decide) rfl (fun ls hl => ?_)
          obtain ⟨n, hn0, hpn⟩ := nI_of (Int32.not_lt.mpr (show 0 ≤ p1 from by assumption))
          have hc9 : nI n ≤ zEN σ (Int32.toNatClampNeg p0) - zPL σ (Int32.toNatClampNeg p0) := by rw [← hpn]; assumption
          have loop_71 : ∀ (n9 : Nat) (k : Nat) (f8 : Nat → va_E) (H : Heap) (locs : List Loc) (ls : Array Slot), (k ≤ n) → (n + 1 ≤ k + n9) → zM g am f (zFill σ (Int32.toNatClampNeg p0) p2 p3 k) bs 0 L f8 → zW g A s L f8 H locs → lv_has ls 8 [(0, .ref (am 0)), (1, .int p0), (2, .int p1), (3, .long p2), (5, .long p3), (7, .int (nI k))] → W p l e { frames := 2, cells := 0, slots := 0, locals := 43 } s m args below meth c H locs 0 0 (vx_MQ below (zQ g A (fun r L1 f1 => L = L1 ∧ ∃ (b9 : Int32) (bs1 : Nat → Int64), some (.int b9) = r ∧ zM g am f (o_fill σ p0 p1 p2 p3).2.2 bs1 (o_fill σ p0 p1 p2 p3).1 L f1 ∧ ((o_fill σ p0 p1 p2 p3).1 = 0 → b9 = (o_fill σ p0 p1 p2 p3).2.1))) (zXC g A zNo) args s 0 0 A) (F0 m 71 ls []) := by
            intro n9
            induction n9 with
            | zero => intro k f8 H locs ls hk hn hm hw hl; exact absurd hn (by omega)
            | succ n9 ih_71 =>
              intro k f8 H locs ls hk hn hm hw hl
              refine lv_iload hx hb dX2_fill_71 (lv_at hl 5 rfl) ?_
              refine lv_iload_n hx hb dX2_fill_73 rfl (lv_at hl 2 rfl) ?_
              refine lv_icmp_ge (tgt := 112) hx hb dX2_fill_74 (by decide) (fun c_7 => ?_) (fun c_7 => ?_)
              · have hke : k = n := zn_ge (n := n) (by rw [← hpn]; exact c_7) hk hn0
                refine lv_aload_n hx hb dX2_fill_112 rfl (lv_at hl 0 rfl) ?_
                refine zm_get (v := .ref (am 6)) hx hb hts hi_X2_fill hown hw hm 5 (by decide) hf_X2_fill_26 rfl dX2_fill_113 ?_
                refine lv_iload_n hx hb dX2_fill_116 rfl (lv_at hl 1 rfl) ?_
                refine zm_ldPL hx hb hw hm (by first | assumption | exact zis_7 (by assumption) | exact zin_7 (by assumption) | exact zin_1 (by assumption)) dX2_fill_117 ?_
                have hz : Int32.toNatClampNeg p1 = k := by rw [hpn, nI_clamp hn0]; exact hke.symm
                have ho : (o_fill σ p0 p1 p2 p3) = (0, (zPL (zFill σ (Int32.toNatClampNeg p0) p2 p3 k) (Int32.toNatClampNeg p0)), (zFill σ (Int32.toNatClampNeg p0) p2 p3 k)) := by unfold o_fill; rw [hz]; first | exact (if_pos (show (zis σ p0 = true) from by assumption)).trans ((if_pos (show (0 ≤ p1) from by assumption)).trans ((if_pos (show (zRD σ (Int32.toNatClampNeg p0) = 0) from by assumption)).trans (if_pos (show (p1 ≤ (zEN σ (Int32.toNatClampNeg p0) - zPL σ (Int32.toNatClampNeg p0))) from by assumption))))
                exact z_iret hx hb hr hlocks hw (Nat.le_of_ble_eq_true rfl) (Nat.le_of_ble_eq_true rfl) dX2_fill_118 ⟨rfl, _, _, rfl, by rw [ho]; exact hm, by rw [ho]; exact fun _ => rfl⟩
              · have hlt : k < n := zn_lt (n := n) (by rw [← hpn]; exact c_7) hk hn0
                refine lv_aload_n hx hb dX2_fill_77 rfl (lv_at hl 0 rfl) ?_
                refine lv_iload_n hx hb dX2_fill_78 rfl (lv_at hl 1 rfl) ?_
                refine lv_aload_n hx hb dX2_fill_79 rfl (lv_at hl 0 rfl) ?_
                refine zm_get (v := .ref (am 6)) hx hb hts hi_X2_fill hown hw hm 5 (by decide) hf_X2_fill_26 rfl dX2_fill_80 ?_
                refine lv_iload_n hx hb dX2_fill_83 rfl (lv_at hl 1 rfl) ?_
                refine zm_ldPL hx hb hw hm (by first | assumption | exact zis_7 (by assumption) | exact zin_7 (by assumption) | exact zin_1 (by assumption)) dX2_fill_84 ?_
                refine lv_lload_n hx hb dX2_fill_85 rfl (lv_at hl 3 rfl) ?_
                refine lv_iload hx hb dX2_fill_86 (lv_at hl 5 rfl) ?_
                refine lv_i2l (v := (nI k).toInt64) hx hb dX2_fill_88 rfl ?_
                refine lv_lload hx hb dX2_fill_89 (lv_at hl 4 rfl) ?_
                refine lv_lmul hx hb dX2_fill_91 ?_
                refine lv_ladd hx hb dX2_fill_92 ?_
                refine z_callV (As := [.int p0, .int (zPL (zFill σ (Int32.toNatClampNeg p0) p2 p3 k) (Int32.toNatClampNeg p0)), .long (p2 + ((nI k).toInt64 * p3))]) (rest := []) ⟨hx, hb, hml, hown, hts⟩ hw hX (hm.1.1 0 (by decide)) rfl (c_X2_lays l g am L f8 (zFill σ (Int32.toNatClampNeg p0) p2 p3 k) bs 0 p0 (zPL (zFill σ (Int32.toNatClampNeg p0) p2 p3 k) (Int32.toNatClampNeg p0)) (p2 + ((nI k).toInt64 * p3)) hm.rf (by first | assumption | exact zis_7 (by assumption) | exact zin_7 (by assumption) | exact zin_1 (by assumption)) (zFill_in (zI_win hI (by assumption)) hc9 hn0 hlt)) (cwV 3 hts gX2_fill_X2_lays rfl rfl rfl (by decide +kernel) ⟨(Nat.le_of_ble_eq_true rfl), (Nat.le_of_ble_eq_true rfl)⟩) rfl hl.1 rfl (Nat.le_of_ble_eq_true rfl) dX2_fill_93 ⟨(Nat.le_of_ble_eq_true rfl), (Nat.le_of_ble_eq_true rfl)⟩ (fun _ _ _ _ _ _ _ hp => False.elim hp) (fun r9 L9 f9 H locs hp hw => ?_)
                obtain ⟨rfl, rfl, hm9⟩ := hp
                refine W.eq (g2 := F0 m 96 ls []) rfl ?_
                have hm := hm.tr hm9
                refine lv_aload_n hx hb dX2_fill_96 rfl (lv_at hl 0 rfl) ?_
                refine zm_get (v := .ref (am 6)) hx hb hts hi_X2_fill hown hw hm 5 (by decide) hf_X2_fill_26 rfl dX2_fill_97 ?_
                refine lv_iload_n hx hb dX2_fill_100 rfl (lv_at hl 1 rfl) ?_
                refine lv_dup2_11 hx hb dX2_fill_101 rfl rfl ?_
                refine zm_ldPL hx hb hw hm (by first | assumption | exact zis_7 (by assumption) | exact zin_7 (by assumption) | exact zin_1 (by assumption)) dX2_fill_102 ?_
                refine lv_iconst (v := 1) hx hb dX2_fill_103 (by decide) ?_
                refine lv_iadd hx hb dX2_fill_104 ?_
                refine zm_stPL hx hb hw hm (by first | assumption | exact zis_7 (by assumption) | exact zin_7 (by assumption) | exact zin_1 (by assumption)) dX2_fill_105 (fun f_8 H locs hm hw => ?_)
                refine lv_iinc (v := ((nI k) + 1)) (lv' := [(7, .int ((nI k) + 1)), (0, .ref (am 0)), (1, .int p0), (2, .int p1), (3, .long p2), (5, .long p3)]) hx hb dX2_fill_106 hl (k := 5) rfl rfl (by decide) rfl (fun ls hl => ?_)
                refine lv_goto (tgt := 71) hx hb dX2_fill_109 (by decide) ?_
                refine ih_71 (k + 1) _ _ _ _ (by omega) (by omega) hm hw ?_
                have hl := lv_sub hl (l' := [(0, .ref (am 0)), (1, .int p0), (2, .int p1), (3, .long p2), (5, .long p3), (7, .int ((nI k) + 1))]) [1, 2, 3, 4, 5, 0] rfl
                rw [← nI_1 k]
                exact hl
          refine loop_71 (n + 1) 0 _ _ _ _ (Nat.zero_le _) (by omega) hm hw ?_
          have hl := lv_sub hl (l' := [(0, .ref (am 0)), (1, .int p0), (2, .int p1), (3, .long p2), (5, .long p3), (7, .int 0)]) [1, 2, 3, 4, 5, 0] rfl
          exact hl
        · refine lv_iconst (v := 4) hx hb dX2_fill_51 (by decide) ?_
          refine lv_goto (tgt := 56) hx hb dX2_fill_52 (by decide) ?_
          refine zm_putT hx hb hts hi_X2_fill hown hw hm hf_X2_fill_48 dX2_fill_56 (fun f_9 H locs hm hw => ?_)
          refine lv_aload_n hx hb dX2_fill_59 rfl (lv_at hl 0 rfl) ?_
          refine zm_get (v := .int 4) hx hb hts hi_X2_fill hown hw hm 12 (by decide) hf_X2_fill_48 rfl dX2_fill_60 ?_
          refine lv_if_le (tgt := 68) hx hb dX2_fill_63 (by decide) (fun c_10 => absurd c_10 (by decide)) (fun c_10 => ?_)
          refine lv_iconst (v := 0) hx hb dX2_fill_66 (by decide) ?_
          have ho : (o_fill σ p0 p1 p2 p3) = (4, 0, σ) := by unfold o_fill; first | exact (if_pos (show (zis σ p0 = true) from by assumption)).trans ((if_pos (show (0 ≤ p1) from by assumption)).trans ((if_pos (show (zRD σ (Int32.toNatClampNeg p0) = 0) from by assumption)).trans (if_neg (show ¬ (p1 ≤ (zEN σ (Int32.toNatClampNeg p0) - zPL σ (Int32.toNatClampNeg p0))) from by assumption))))
          exact z_iret hx hb hr hlocks hw (Nat.le_of_ble_eq_true rfl) (Nat.le_of_ble_eq_true rfl) dX2_fill_67 ⟨rfl, _, _, rfl, by rw [ho]; exact hm, by rw [ho]; exact fun h => absurd (show (4 : Int32) = 0 from h) (by decide)⟩
      · refine lv_iconst (v := 3) hx hb dX2_fill_30 (by decide) ?_
        refine lv_goto (tgt := 56) hx hb dX2_fill_31 (by decide) ?_
        refine zm_putT hx hb hts hi_X2_fill hown hw hm hf_X2_fill_48 dX2_fill_56 (fun f_11 H locs hm hw => ?_)
        refine lv_aload_n hx hb dX2_fill_59 rfl (lv_at hl 0 rfl) ?_
        refine zm_get (v := .int 3) hx hb hts hi_X2_fill hown hw hm 12 (by decide) hf_X2_fill_48 rfl dX2_fill_60 ?_
        refine lv_if_le (tgt := 68) hx hb dX2_fill_63 (by decide) (fun c_12 => absurd c_12 (by decide)) (fun c_12 => ?_)
        refine lv_iconst (v := 0) hx hb dX2_fill_66 (by decide) ?_
        have ho : (o_fill σ p0 p1 p2 p3) = (3, 0, σ) := by unfold o_fill; first | exact (if_pos (show (zis σ p0 = true) from by assumption)).trans ((if_pos (show (0 ≤ p1) from by assumption)).trans (if_neg (show ¬ (zRD σ (Int32.toNatClampNeg p0) = 0) from by assumption)))
        exact z_iret hx hb hr hlocks hw (Nat.le_of_ble_eq_true rfl) (Nat.le_of_ble_eq_true rfl) dX2_fill_67 ⟨rfl, _, _, rfl, by rw [ho]; exact hm, by rw [ho]; exact fun h => absurd (show (3 : Int32) = 0 from h) (by decide)⟩
    · refine lv_iconst (v := 2) hx hb dX2_fill_17 (by decide) ?_
      refine lv_goto (tgt := 56) hx hb dX2_fill_18 (by decide) ?_
      refine zm_putT hx hb hts hi_X2_fill hown hw hm hf_X2_fill_48 dX2_fill_56 (fun f_13 H locs hm hw => ?_)
      refine lv_aload_n hx hb dX2_fill_59 rfl (lv_at hl 0 rfl) ?_
      refine zm_get (v := .int 2) hx hb hts hi_X2_fill hown hw hm 12 (by decide) hf_X2_fill_48 rfl dX2_fill_60 ?_
      refine lv_if_le (tgt := 68) hx hb dX2_fill_63 (by decide) (fun c_14 => absurd c_14 (by decide)) (fun c_14 => ?_)
      refine lv_iconst (v := 0) hx hb dX2_fill_66 (by decide) ?_
      have ho : (o_fill σ p0 p1 p2 p3) = (2, 0, σ) := by unfold o_fill; first | exact (if_pos (show (zis σ p0 = true) from by assumption)).trans (if_neg (show ¬ (0 ≤ p1) from by assumption))
      exact z_iret hx hb hr hlocks hw (Nat.le_of_ble_eq_true rfl) (Nat.le_of_ble_eq_true rfl) dX2_fill_67 ⟨rfl, _, _, rfl, by rw [ho]; exact hm, by rw [ho]; exact fun h => absurd (show (2 : Int32) = 0 from h) (by decide)⟩
  · refine lv_iconst (v := 1) hx hb dX2_fill_9 (by decide) ?_
    refine lv_goto (tgt := 56) hx hb dX2_fill_10 (by decide) ?_
    refine zm_putT hx hb hts hi_X2_fill hown hw hm hf_X2_fill_48 dX2_fill_56 (fun f_15 H locs hm hw => ?_)
    refine lv_aload_n hx hb dX2_fill_59 rfl (lv_at hl 0 rfl) ?_
    refine zm_get (v := .int 1) hx hb hts hi_X2_fill hown hw hm 12 (by decide) hf_X2_fill_48 rfl dX2_fill_60 ?_
    refine lv_if_le (tgt := 68) hx hb dX2_fill_63 (by decide) (fun c_16 => absurd c_16 (by decide)) (fun c_16 => ?_)
    refine lv_iconst (v := 0) hx hb dX2_fill_66 (by decide) ?_
    have ho : (o_fill σ p0 p1 p2 p3) = (1, 0, σ) := by unfold o_fill; first | exact if_neg (show ¬ (zis σ p0 = true) from by assumption)
    exact z_iret hx hb hr hlocks hw (Nat.le_of_ble_eq_true rfl) (Nat.le_of_ble_eq_true rfl) dX2_fill_67 ⟨rfl, _, _, rfl, by rw [ho]; exact hm, by rw [ho]; exact fun h => absurd (show (1 : Int32) = 0 from h) (by decide)⟩

def o_pour (σ : ZS) (p0 : Int32) (p1 : Int32) (p2 : Int32) : Int32 × Int32 × ZS := if zis σ p0 = true then if zis σ p1 = true then if p0 = p1 then (2, 0, σ) else if 0 ≤ p2 then if zRD σ (Int32.toNatClampNeg p1) = 0 then if p2 ≤ (zEN σ (Int32.toNatClampNeg p0) - zPL σ (Int32.toNatClampNeg p0)) then if p2 ≤ (zEN σ (Int32.toNatClampNeg p1) - zPL σ (Int32.toNatClampNeg p1)) then (0, zPL (zPour σ (Int32.toNatClampNeg p0) (Int32.toNatClampNeg p1) (Int32.toNatClampNeg p2)) (Int32.toNatClampNeg p1), (zPour σ (Int32.toNatClampNeg p0) (Int32.toNatClampNeg p1) (Int32.toNatClampNeg p2))) else (5, 0, σ) else (4, 0, σ) else (3, 0, σ) else (2, 0, σ) else (1, 0, σ) else (1, 0, σ)

theorem hi_X2_pour : ∀ w ∈ wsX20, w ∈ wsX2_pour := by decide +kernel
theorem hf_X2_pour_26 : Cond.fieldLink RX2 26 (TX2 5).1 (TX2 5).2.1 (TX2 5).2.2.1 ∈ wsX2_pour := by decide +kernel
theorem hf_X2_pour_29 : Cond.fieldLink RX2 29 (TX2 6).1 (TX2 6).2.1 (TX2 6).2.2.1 ∈ wsX2_pour := by decide +kernel
theorem hf_X2_pour_35 : Cond.fieldLink RX2 35 (TX2 8).1 (TX2 8).2.1 (TX2 8).2.2.1 ∈ wsX2_pour := by decide +kernel
theorem hf_X2_pour_48 : Cond.fieldLink RX2 48 (TX2 12).1 (TX2 12).2.1 (TX2 12).2.2.1 ∈ wsX2_pour := by decide +kernel
set_option maxRecDepth 100000 in
set_option maxHeartbeats 4000000 in
theorem c_X2_pour (l : Launch) (g : zG) (am : Nat → Nat) (L : List Nat) (f : Nat → va_E) (σ : ZS) (bs : Nat → Int64) (th : Int32) (p0 : Int32) (p1 : Int32) (p2 : Int32) (hm : zM g am f σ bs th L f) {ln : Nat → Nat} {kd : Nat → Int32} (hI : zI σ ln kd) : zC l yX2_pour wsX2_pour { frames := 2, cells := 0, slots := 0, locals := 43 } 0 0 g [.ref (am 0), .int p0, .int p1, .int p2] L f (fun r L1 f1 => L = L1 ∧ ∃ (b9 : Int32) (bs1 : Nat → Int64), some (.int b9) = r ∧ zM g am f (o_pour σ p0 p1 p2).2.2 bs1 (o_pour σ p0 p1 p2).1 L f1 ∧ ((o_pour σ p0 p1 p2).1 = 0 → b9 = (o_pour σ p0 p1 p2).2.1)) zNo := by
  refine z_ofW (cc := cX2_pour) (maxL := 6) (ret := (some .int)) (by decide) rfl (Nat.le_of_ble_eq_true rfl) ?_
  intro p e s m args below meth c ls A hx hb hr hts hown hlocks hml htab hin hw hX hl
  have hl : lv_has ls 6 [(0, .ref (am 0)), (1, .int p0), (2, .int p1), (3, .int p2)] := hl
  have hown : s.vm.findClass RX2 = some m.cls := hown
  refine lv_aload_n hx hb dX2_pour_0 rfl (lv_at hl 0 rfl) ?_
  refine lv_iload_n hx hb dX2_pour_1 rfl (lv_at hl 1 rfl) ?_
  refine z_callV (As := [.int p0]) (rest := []) ⟨hx, hb, hml, hown, hts⟩ hw hX (hm.1.1 0 (by decide)) rfl (c_X2_is l g am L f σ bs th p0 hm.rf) (cwV 1 hts gX2_pour_X2_is rfl rfl rfl (by decide +kernel) ⟨(Nat.le_of_ble_eq_true rfl), (Nat.le_of_ble_eq_true rfl)⟩) rfl hl.1 rfl (Nat.le_of_ble_eq_true rfl) dX2_pour_2 ⟨(Nat.le_of_ble_eq_true rfl), (Nat.le_of_ble_eq_true rfl)⟩ (fun _ _ _ _ _ _ _ hp => False.elim hp) (fun r9 L9 f9 H locs hp hw => ?_)
  obtain ⟨rfl, rfl, rfl⟩ := hp
  refine W.eq (g2 := F0 m 5 ls [.int (zb (zis σ p0))]) rfl ?_
  refine zr_beq hx hb dX2_pour_5 (tgt := 20) (by decide) (fun c_1 => ?_) (fun c_1 => ?_)
  · refine lv_iconst (v := 0) hx hb dX2_pour_20 (by decide) ?_
    refine lv_istore (lv' := [(4, .int 0), (0, .ref (am 0)), (1, .int p0), (2, .int p1), (3, .int p2)]) hx hb dX2_pour_21 hl (by decide) rfl (fun ls hl => ?_)
    refine lv_aload_n hx hb dX2_pour_23 rfl (lv_at hl 1 rfl) ?_
    refine lv_iload hx hb dX2_pour_24 (lv_at hl 0 rfl) ?_
    refine lv_if_ne (tgt := 33) hx hb dX2_pour_26 (by decide) (fun c_2 => absurd (by decide) c_2) (fun c_2 => ?_)
    refine lv_iconst (v := 1) hx hb dX2_pour_29 (by decide) ?_
    refine lv_goto (tgt := 102) hx hb dX2_pour_30 (by decide) ?_
    refine zm_putT hx hb hts hi_X2_pour hown hw hm hf_X2_pour_48 dX2_pour_102 (fun f_3 H locs hm hw => ?_)
    refine lv_aload_n hx hb dX2_pour_105 rfl (lv_at hl 1 rfl) ?_
    refine zm_get (v := .int 1) hx hb hts hi_X2_pour hown hw hm 12 (by decide) hf_X2_pour_48 rfl dX2_pour_106 ?_
    refine lv_if_le (tgt := 114) hx hb dX2_pour_109 (by decide) (fun c_4 => absurd c_4 (by decide)) (fun c_4 => ?_)
    refine lv_iconst (v := 0) hx hb dX2_pour_112 (by decide) ?_
    have ho : (o_pour σ p0 p1 p2) = (1, 0, σ) := by unfold o_pour; first | exact (if_pos (show (zis σ p0 = true) from by assumption)).trans (if_neg (show ¬ (zis σ p1 = true) from by assumption)) | exact if_neg (show ¬ (zis σ p0 = true) from by assumption)
    exact z_iret hx hb hr hlocks hw (Nat.le_of_ble_eq_true rfl) (Nat.le_of_ble_eq_true rfl) dX2_pour_113 ⟨rfl, _, _, rfl, by rw [ho]; exact hm, by rw [ho]; exact fun h => absurd (show (1 : Int32) = 0 from h) (by decide)⟩
  · refine lv_aload_n hx hb dX2_pour_8 rfl (lv_at hl 0 rfl) ?_
    refine lv_iload_n hx hb dX2_pour_9 rfl (lv_at hl 2 rfl) ?_
    refine z_callV (As := [.int p1]) (rest := []) ⟨hx, hb, hml, hown, hts⟩ hw hX (hm.1.1 0 (by decide)) rfl (c_X2_is l g am L f σ bs th p1 hm.rf) (cwV 1 hts gX2_pour_X2_is rfl rfl rfl (by decide +kernel) ⟨(Nat.le_of_ble_eq_true rfl), (Nat.le_of_ble_eq_true rfl)⟩) rfl hl.1 rfl (Nat.le_of_ble_eq_true rfl) dX2_pour_10 ⟨(Nat.le_of_ble_eq_true rfl), (Nat.le_of_ble_eq_true rfl)⟩ (fun _ _ _ _ _ _ _ hp => False.elim hp) (fun r9 L9 f9 H locs hp hw => ?_)
    obtain ⟨rfl, rfl, rfl⟩ := hp
    refine W.eq (g2 := F0 m 13 ls [.int (zb (zis σ p1))]) rfl ?_
    refine zr_beq hx hb dX2_pour_13 (tgt := 20) (by decide) (fun c_5 => ?_) (fun c_5 => ?_)
    · refine lv_iconst (v := 0) hx hb dX2_pour_20 (by decide) ?_
      refine lv_istore (lv' := [(4, .int 0), (0, .ref (am 0)), (1, .int p0), (2, .int p1), (3, .int p2)]) hx hb dX2_pour_21 hl (by decide) rfl (fun ls hl => ?_)
      refine lv_aload_n hx hb dX2_pour_23 rfl (lv_at hl 1 rfl) ?_
      refine lv_iload hx hb dX2_pour_24 (lv_at hl 0 rfl) ?_
      refine lv_if_ne (tgt := 33) hx hb dX2_pour_26 (by decide) (fun c_6 => absurd (by decide) c_6) (fun c_6 => ?_)
      refine lv_iconst (v := 1) hx hb dX2_pour_29 (by decide) ?_
      refine lv_goto (tgt := 102) hx hb dX2_pour_30 (by decide) ?_
      refine zm_putT hx hb hts hi_X2_pour hown hw hm hf_X2_pour_48 dX2_pour_102 (fun f_7 H locs hm hw => ?_)
      refine lv_aload_n hx hb dX2_pour_105 rfl (lv_at hl 1 rfl) ?_
      refine zm_get (v := .int 1) hx hb hts hi_X2_pour hown hw hm 12 (by decide) hf_X2_pour_48 rfl dX2_pour_106 ?_
      refine lv_if_le (tgt := 114) hx hb dX2_pour_109 (by decide) (fun c_8 => absurd c_8 (by decide)) (fun c_8 => ?_)
      refine lv_iconst (v := 0) hx hb dX2_pour_112 (by decide) ?_
      have ho : (o_pour σ p0 p1 p2) = (1, 0, σ) := by unfold o_pour; first | exact (if_pos (show (zis σ p0 = true) from by assumption)).trans (if_neg (show ¬ (zis σ p1 = true) from by assumption)) | exact if_neg (show ¬ (zis σ p0 = true) from by assumption)
      exact z_iret hx hb hr hlocks hw (Nat.le_of_ble_eq_true rfl) (Nat.le_of_ble_eq_true rfl) dX2_pour_113 ⟨rfl, _, _, rfl, by rw [ho]; exact hm, by rw [ho]; exact fun h => absurd (show (1 : Int32) = 0 from h) (by decide)⟩
    · refine lv_iconst (v := 1) hx hb dX2_pour_16 (by decide) ?_
      refine lv_goto (tgt := 21) hx hb dX2_pour_17 (by decide) ?_
      refine lv_istore (lv' := [(4, .int 1), (0, .ref (am 0)), (1, .int p0), (2, .int p1), (3, .int p2)]) hx hb dX2_pour_21 hl (by decide) rfl (fun ls hl => ?_)
      refine lv_aload_n hx hb dX2_pour_23 rfl (lv_at hl 1 rfl) ?_
      refine lv_iload hx hb dX2_pour_24 (lv_at hl 0 rfl) ?_
      refine lv_if_ne (tgt := 33) hx hb dX2_pour_26 (by decide) (fun c_9 => ?_) (fun c_9 => absurd c_9 (by decide))
      refine lv_iload_n hx hb dX2_pour_33 rfl (lv_at hl 2 rfl) ?_
      refine lv_iload_n hx hb dX2_pour_34 rfl (lv_at hl 3 rfl) ?_
      refine lv_icmp_eq (tgt := 42) hx hb dX2_pour_35 (by decide) (fun c_10 => ?_) (fun c_10 => ?_)
      · refine lv_iconst (v := 2) hx hb dX2_pour_42 (by decide) ?_
        refine lv_goto (tgt := 102) hx hb dX2_pour_43 (by decide) ?_
        refine zm_putT hx hb hts hi_X2_pour hown hw hm hf_X2_pour_48 dX2_pour_102 (fun f_11 H locs hm hw => ?_)
        refine lv_aload_n hx hb dX2_pour_105 rfl (lv_at hl 1 rfl) ?_
        refine zm_get (v := .int 2) hx hb hts hi_X2_pour hown hw hm 12 (by decide) hf_X2_pour_48 rfl dX2_pour_106 ?_
        refine lv_if_le (tgt := 114) hx hb dX2_pour_109 (by decide) (fun c_12 => absurd c_12 (by decide)) (fun c_12 => ?_)
        refine lv_iconst (v := 0) hx hb dX2_pour_112 (by decide) ?_
        have ho : (o_pour σ p0 p1 p2) = (2, 0, σ) := by unfold o_pour; first | exact (if_pos (show (zis σ p0 = true) from by assumption)).trans ((if_pos (show (zis σ p1 = true) from by assumption)).trans (if_pos (show (p0 = p1) from by assumption))) | exact (if_pos (show (zis σ p0 = true) from by assumption)).trans ((if_pos (show (zis σ p1 = true) from by assumption)).trans ((if_neg (show ¬ (p0 = p1) from by assumption)).trans (if_neg (show ¬ (0 ≤ p2) from by assumption))))
        exact z_iret hx hb hr hlocks hw (Nat.le_of_ble_eq_true rfl) (Nat.le_of_ble_eq_true rfl) dX2_pour_113 ⟨rfl, _, _, rfl, by rw [ho]; exact hm, by rw [ho]; exact fun h => absurd (show (2 : Int32) = 0 from h) (by decide)⟩
      · refine lv_iload_n hx hb dX2_pour_38 rfl (lv_at hl 4 rfl) ?_
        refine lv_if_ge (tgt := 46) hx hb dX2_pour_39 (by decide) (fun c_13 => ?_) (fun c_13 => ?_)
        · refine lv_aload_n hx hb dX2_pour_46 rfl (lv_at hl 1 rfl) ?_
          refine zm_get (v := .ref (am 9)) hx hb hts hi_X2_pour hown hw hm 8 (by decide) hf_X2_pour_35 rfl dX2_pour_47 ?_
          refine lv_iload_n hx hb dX2_pour_50 rfl (lv_at hl 3 rfl) ?_
          refine zm_ldRD hx hb hw hm (zis_7 (show zis σ p1 = true from by assumption)) dX2_pour_51 ?_
          refine lv_if_eq (tgt := 59) hx hb dX2_pour_52 (by decide) (fun c_14 => ?_) (fun c_14 => ?_)
          · refine lv_iload_n hx hb dX2_pour_59 rfl (lv_at hl 4 rfl) ?_
            refine lv_aload_n hx hb dX2_pour_60 rfl (lv_at hl 1 rfl) ?_
            refine zm_get (v := .ref (am 7)) hx hb hts hi_X2_pour hown hw hm 6 (by decide) hf_X2_pour_29 rfl dX2_pour_61 ?_
            refine lv_iload_n hx hb dX2_pour_64 rfl (lv_at hl 2 rfl) ?_
            refine zm_ldEN hx hb hw hm (zis_7 (show zis σ p0 = true from by assumption)) dX2_pour_65 ?_
            refine lv_aload_n hx hb dX2_pour_66 rfl (lv_at hl 1 rfl) ?_
            refine zm_get (v := .ref (am 6)) hx hb hts hi_X2_pour hown hw hm 5 (by decide) hf_X2_pour_26 rfl dX2_pour_67 ?_
            refine lv_iload_n hx hb dX2_pour_70 rfl (lv_at hl 2 rfl) ?_
            refine zm_ldPL hx hb hw hm (zis_7 (show zis σ p0 = true from by assumption)) dX2_pour_71 ?_
            refine lv_isub hx hb dX2_pour_72 ?_
            refine lv_icmp_le (tgt := 80) hx hb dX2_pour_73 (by decide) (fun c_15 => ?_) (fun c_15 => ?_)
            · refine lv_iload_n hx hb dX2_pour_80 rfl (lv_at hl 4 rfl) ?_
              refine lv_aload_n hx hb dX2_pour_81 rfl (lv_at hl 1 rfl) ?_
              refine zm_get (v := .ref (am 7)) hx hb hts hi_X2_pour hown hw hm 6 (by decide) hf_X2_pour_29 rfl dX2_pour_82 ?_
              refine lv_iload_n hx hb dX2_pour_85 rfl (lv_at hl 3 rfl) ?_
              refine zm_ldEN hx hb hw hm (zis_7 (show zis σ p1 = true from by assumption)) dX2_pour_86 ?_
              refine lv_aload_n hx hb dX2_pour_87 rfl (lv_at hl 1 rfl) ?_
              refine zm_get (v := .ref (am 6)) hx hb hts hi_X2_pour hown hw hm 5 (by decide) hf_X2_pour_26 rfl dX2_pour_88 ?_
              refine lv_iload_n hx hb dX2_pour_91 rfl (lv_at hl 3 rfl) ?_
              refine zm_ldPL hx hb hw hm (zis_7 (show zis σ p1 = true from by assumption)) dX2_pour_92 ?_
              refine lv_isub hx hb dX2_pour_93 ?_
              refine lv_icmp_le (tgt := 101) hx hb dX2_pour_94 (by decide) (fun c_16 => ?_) (fun c_16 => ?_)
              · refine lv_iconst (v := 0) hx hb dX2_pour_101 (by decide) ?_
                refine zm_putT hx hb hts hi_X2_pour hown hw hm hf_X2_pour_48 dX2_pour_102 (fun f_17 H locs hm hw => ?_)
                refine lv_aload_n hx hb dX2_pour_105 rfl (lv_at hl 1 rfl) ?_
                refine zm_get (v := .int 0) hx hb hts hi_X2_pour hown hw hm 12 (by decide) hf_X2_pour_48 rfl dX2_pour_106 ?_
                refine lv_if_le (tgt := 114) hx hb dX2_pour_109 (by decide) (fun c_18 => ?_) (fun c_18 => absurd (by decide) c_18)
                refine lv_iconst (v := 0) hx hb dX2_pour_114 (by decide) ?_
                refine lv_istore (lv' := [(5, .int 0), (4, .int 1), (0, .ref (am 0)), (1, .int p0), (2, .int p1), (3, .int p2)]) hx hb dX2_pour_115 hl (by decide) rfl (fun ls hl => ?_)
                obtain ⟨n, hn0, hpn⟩ := nI_of (Int32.not_lt.mpr (show 0 ≤ p2 from by assumption))
                have hc9 : nI n ≤ zEN σ (Int32.toNatClampNeg p0) - zPL σ (Int32.toNatClampNeg p0) := by rw [← hpn]; assumption
                have hc8 : nI n ≤ zEN σ (Int32.toNatClampNeg p1) - zPL σ (Int32.toNatClampNeg p1) := by rw [← hpn]; assumption
                have hij := z_nne (zis_7 (show zis σ p0 = true from by assumption)) (zis_7 (show zis σ p1 = true from by assumption)) (by decide) (by assumption)
                have loop_117 : ∀ (n9 : Nat) (k : Nat) (f8 : Nat → va_E) (H : Heap) (locs : List Loc) (ls : Array Slot), (k ≤ n) → (n + 1 ≤ k + n9) → zM g am f (zPour σ (Int32.toNatClampNeg p0) (Int32.toNatClampNeg p1) k) bs 0 L f8 → zW g A s L f8 H locs → lv_has ls 6 [(0, .ref (am 0)), (1, .int p0), (2, .int p1), (3, .int p2), (5, .int (nI k))] → W p l e { frames := 2, cells := 0, slots := 0, locals := 43 } s m args below meth c H locs 0 0 (vx_MQ below (zQ g A (fun r L1 f1 => L = L1 ∧ ∃ (b9 : Int32) (bs1 : Nat → Int64), some (.int b9) = r ∧ zM g am f (o_pour σ p0 p1 p2).2.2 bs1 (o_pour σ p0 p1 p2).1 L f1 ∧ ((o_pour σ p0 p1 p2).1 = 0 → b9 = (o_pour σ p0 p1 p2).2.1))) (zXC g A zNo) args s 0 0 A) (F0 m 117 ls []) := by
                  intro n9
                  induction n9 with
                  | zero => intro k f8 H locs ls hk hn hm hw hl; exact absurd hn (by omega)
                  | succ n9 ih_117 =>
                    intro k f8 H locs ls hk hn hm hw hl
                    refine lv_iload hx hb dX2_pour_117 (lv_at hl 4 rfl) ?_
                    refine lv_iload_n hx hb dX2_pour_119 rfl (lv_at hl 3 rfl) ?_
                    refine lv_icmp_ge (tgt := 171) hx hb dX2_pour_120 (by decide) (fun c_19 => ?_) (fun c_19 => ?_)
                    · have hke : k = n := zn_ge (n := n) (by rw [← hpn]; exact c_19) hk hn0
                      refine lv_aload_n hx hb dX2_pour_171 rfl (lv_at hl 0 rfl) ?_
                      refine zm_get (v := .ref (am 6)) hx hb hts hi_X2_pour hown hw hm 5 (by decide) hf_X2_pour_26 rfl dX2_pour_172 ?_
                      refine lv_iload_n hx hb dX2_pour_175 rfl (lv_at hl 2 rfl) ?_
                      refine zm_ldPL hx hb hw hm (zis_7 (show zis σ p1 = true from by assumption)) dX2_pour_176 ?_
                      have hz : Int32.toNatClampNeg p2 = k := by rw [hpn, nI_clamp hn0]; exact hke.symm
                      have ho : (o_pour σ p0 p1 p2) = (0, (zPL (zPour σ (Int32.toNatClampNeg p0) (Int32.toNatClampNeg p1) k) (Int32.toNatClampNeg p1)), (zPour σ (Int32.toNatClampNeg p0) (Int32.toNatClampNeg p1) k)) := by unfold o_pour; rw [hz]; first | exact (if_pos (show (zis σ p0 = true) from by assumption)).trans ((if_pos (show (zis σ p1 = true) from by assumption)).trans ((if_neg (show ¬ (p0 = p1) from by assumption)).trans ((if_pos (show (0 ≤ p2) from by assumption)).trans ((if_pos (show (zRD σ (Int32.toNatClampNeg p1) = 0) from by assumption)).trans ((if_pos (show (p2 ≤ (zEN σ (Int32.toNatClampNeg p0) - zPL σ (Int32.toNatClampNeg p0))) from by assumption)).trans (if_pos (show (p2 ≤ (zEN σ (Int32.toNatClampNeg p1) - zPL σ (Int32.toNatClampNeg p1))) from by assumption)))))))
                      exact z_iret hx hb hr hlocks hw (Nat.le_of_ble_eq_true rfl) (Nat.le_of_ble_eq_true rfl) dX2_pour_177 ⟨rfl, _, _, rfl, by rw [ho]; exact hm, by rw [ho]; exact fun _ => rfl⟩
                    · have hlt : k < n := zn_lt (n := n) (by rw [← hpn]; exact c_19) hk hn0
                      refine lv_aload_n hx hb dX2_pour_123 rfl (lv_at hl 0 rfl) ?_
                      refine lv_iload_n hx hb dX2_pour_124 rfl (lv_at hl 2 rfl) ?_
                      refine lv_aload_n hx hb dX2_pour_125 rfl (lv_at hl 0 rfl) ?_
                      refine zm_get (v := .ref (am 6)) hx hb hts hi_X2_pour hown hw hm 5 (by decide) hf_X2_pour_26 rfl dX2_pour_126 ?_
                      refine lv_iload_n hx hb dX2_pour_129 rfl (lv_at hl 2 rfl) ?_
                      refine zm_ldPL hx hb hw hm (zis_7 (show zis σ p1 = true from by assumption)) dX2_pour_130 ?_
                      refine lv_aload_n hx hb dX2_pour_131 rfl (lv_at hl 0 rfl) ?_
                      refine lv_iload_n hx hb dX2_pour_132 rfl (lv_at hl 1 rfl) ?_
                      refine lv_aload_n hx hb dX2_pour_133 rfl (lv_at hl 0 rfl) ?_
                      refine zm_get (v := .ref (am 6)) hx hb hts hi_X2_pour hown hw hm 5 (by decide) hf_X2_pour_26 rfl dX2_pour_134 ?_
                      refine lv_iload_n hx hb dX2_pour_137 rfl (lv_at hl 1 rfl) ?_
                      refine zm_ldPL hx hb hw hm (zis_7 (show zis σ p0 = true from by assumption)) dX2_pour_138 ?_
                      refine z_callV (As := [.int p0, .int (zPL (zPour σ (Int32.toNatClampNeg p0) (Int32.toNatClampNeg p1) k) (Int32.toNatClampNeg p0))]) (rest := [.int (zPL (zPour σ (Int32.toNatClampNeg p0) (Int32.toNatClampNeg p1) k) (Int32.toNatClampNeg p1)), .int p1, .ref (am 0)]) ⟨hx, hb, hml, hown, hts⟩ hw hX (hm.1.1 0 (by decide)) rfl (c_X2_value l g am L f8 (zPour σ (Int32.toNatClampNeg p0) (Int32.toNatClampNeg p1) k) bs 0 p0 (zPL (zPour σ (Int32.toNatClampNeg p0) (Int32.toNatClampNeg p1) k) (Int32.toNatClampNeg p0)) hm.rf (zis_7 (show zis σ p0 = true from by assumption)) (zPour_in hij (zI_win hI (show zis σ p0 = true from by assumption)) (zI_win hI (show zis σ p1 = true from by assumption)) hc9 hc8 hn0 hlt).1) (cwV 2 hts gX2_pour_X2_value rfl rfl rfl (by decide +kernel) ⟨(Nat.le_of_ble_eq_true rfl), (Nat.le_of_ble_eq_true rfl)⟩) rfl hl.1 rfl (Nat.le_of_ble_eq_true rfl) dX2_pour_139 ⟨(Nat.le_of_ble_eq_true rfl), (Nat.le_of_ble_eq_true rfl)⟩ (fun _ _ _ _ _ _ _ hp => False.elim hp) (fun r9 L9 f9 H locs hp hw => ?_)
                      obtain ⟨rfl, rfl, rfl⟩ := hp
                      refine W.eq (g2 := F0 m 142 ls [.long (zVal (zPour σ (Int32.toNatClampNeg p0) (Int32.toNatClampNeg p1) k) (Int32.toNatClampNeg p0) (zPL (zPour σ (Int32.toNatClampNeg p0) (Int32.toNatClampNeg p1) k) (Int32.toNatClampNeg p0))), .int (zPL (zPour σ (Int32.toNatClampNeg p0) (Int32.toNatClampNeg p1) k) (Int32.toNatClampNeg p1)), .int p1, .ref (am 0)]) rfl ?_
                      refine z_callV (As := [.int p1, .int (zPL (zPour σ (Int32.toNatClampNeg p0) (Int32.toNatClampNeg p1) k) (Int32.toNatClampNeg p1)), .long (zVal (zPour σ (Int32.toNatClampNeg p0) (Int32.toNatClampNeg p1) k) (Int32.toNatClampNeg p0) (zPL (zPour σ (Int32.toNatClampNeg p0) (Int32.toNatClampNeg p1) k) (Int32.toNatClampNeg p0)))]) (rest := []) ⟨hx, hb, hml, hown, hts⟩ hw hX (hm.1.1 0 (by decide)) rfl (c_X2_lays l g am L f8 (zPour σ (Int32.toNatClampNeg p0) (Int32.toNatClampNeg p1) k) bs 0 p1 (zPL (zPour σ (Int32.toNatClampNeg p0) (Int32.toNatClampNeg p1) k) (Int32.toNatClampNeg p1)) (zVal (zPour σ (Int32.toNatClampNeg p0) (Int32.toNatClampNeg p1) k) (Int32.toNatClampNeg p0) (zPL (zPour σ (Int32.toNatClampNeg p0) (Int32.toNatClampNeg p1) k) (Int32.toNatClampNeg p0))) hm.rf (zis_7 (show zis σ p1 = true from by assumption)) (zPour_in hij (zI_win hI (show zis σ p0 = true from by assumption)) (zI_win hI (show zis σ p1 = true from by assumption)) hc9 hc8 hn0 hlt).2) (cwV 3 hts gX2_pour_X2_lays rfl rfl rfl (by decide +kernel) ⟨(Nat.le_of_ble_eq_true rfl), (Nat.le_of_ble_eq_true rfl)⟩) rfl hl.1 rfl (Nat.le_of_ble_eq_true rfl) dX2_pour_142 ⟨(Nat.le_of_ble_eq_true rfl), (Nat.le_of_ble_eq_true rfl)⟩ (fun _ _ _ _ _ _ _ hp => False.elim hp) (fun r9 L9 f9 H locs hp hw => ?_)
                      obtain ⟨rfl, rfl, hm9⟩ := hp
                      refine W.eq (g2 := F0 m 145 ls []) rfl ?_
                      have hm := hm.tr hm9
                      refine lv_aload_n hx hb dX2_pour_145 rfl (lv_at hl 0 rfl) ?_
                      refine zm_get (v := .ref (am 6)) hx hb hts hi_X2_pour hown hw hm 5 (by decide) hf_X2_pour_26 rfl dX2_pour_146 ?_
                      refine lv_iload_n hx hb dX2_pour_149 rfl (lv_at hl 1 rfl) ?_
                      refine lv_dup2_11 hx hb dX2_pour_150 rfl rfl ?_
                      refine zm_ldPL hx hb hw hm (zis_7 (show zis σ p0 = true from by assumption)) dX2_pour_151 ?_
                      refine lv_iconst (v := 1) hx hb dX2_pour_152 (by decide) ?_
                      refine lv_iadd hx hb dX2_pour_153 ?_
                      refine zm_stPL hx hb hw hm (zis_7 (show zis σ p0 = true from by assumption)) dX2_pour_154 (fun f_20 H locs hm hw => ?_)
                      refine lv_aload_n hx hb dX2_pour_155 rfl (lv_at hl 0 rfl) ?_
                      refine zm_get (v := .ref (am 6)) hx hb hts hi_X2_pour hown hw hm 5 (by decide) hf_X2_pour_26 rfl dX2_pour_156 ?_
                      refine lv_iload_n hx hb dX2_pour_159 rfl (lv_at hl 2 rfl) ?_
                      refine lv_dup2_11 hx hb dX2_pour_160 rfl rfl ?_
                      refine zm_ldPL hx hb hw hm (zis_7 (show zis σ p1 = true from by assumption)) dX2_pour_161 ?_
                      refine lv_iconst (v := 1) hx hb dX2_pour_162 (by decide) ?_
                      refine lv_iadd hx hb dX2_pour_163 ?_
                      refine zm_stPL hx hb hw hm (zis_7 (show zis σ p1 = true from by assumption)) dX2_pour_164 (fun f_21 H locs hm hw => ?_)
                      refine lv_iinc (v := ((nI k) + 1)) (lv' := [(5, .int ((nI k) + 1)), (0, .ref (am 0)), (1, .int p0), (2, .int p1), (3, .int p2)]) hx hb dX2_pour_165 hl (k := 4) rfl rfl (by decide) rfl (fun ls hl => ?_)
                      refine lv_goto (tgt := 117) hx hb dX2_pour_168 (by decide) ?_
                      refine ih_117 (k + 1) _ _ _ _ (by omega) (by omega) hm hw ?_
                      have hl := lv_sub hl (l' := [(0, .ref (am 0)), (1, .int p0), (2, .int p1), (3, .int p2), (5, .int ((nI k) + 1))]) [1, 2, 3, 4, 0] rfl
                      rw [← nI_1 k]
                      exact hl
                refine loop_117 (n + 1) 0 _ _ _ _ (Nat.zero_le _) (by omega) hm hw ?_
                have hl := lv_sub hl (l' := [(0, .ref (am 0)), (1, .int p0), (2, .int p1), (3, .int p2), (5, .int 0)]) [2, 3, 4, 5, 0] rfl
                exact hl
              · refine lv_iconst (v := 5) hx hb dX2_pour_97 (by decide) ?_
                refine lv_goto (tgt := 102) hx hb dX2_pour_98 (by decide) ?_
                refine zm_putT hx hb hts hi_X2_pour hown hw hm hf_X2_pour_48 dX2_pour_102 (fun f_22 H locs hm hw => ?_)
                refine lv_aload_n hx hb dX2_pour_105 rfl (lv_at hl 1 rfl) ?_
                refine zm_get (v := .int 5) hx hb hts hi_X2_pour hown hw hm 12 (by decide) hf_X2_pour_48 rfl dX2_pour_106 ?_
                refine lv_if_le (tgt := 114) hx hb dX2_pour_109 (by decide) (fun c_23 => absurd c_23 (by decide)) (fun c_23 => ?_)
                refine lv_iconst (v := 0) hx hb dX2_pour_112 (by decide) ?_
                have ho : (o_pour σ p0 p1 p2) = (5, 0, σ) := by unfold o_pour; first | exact (if_pos (show (zis σ p0 = true) from by assumption)).trans ((if_pos (show (zis σ p1 = true) from by assumption)).trans ((if_neg (show ¬ (p0 = p1) from by assumption)).trans ((if_pos (show (0 ≤ p2) from by assumption)).trans ((if_pos (show (zRD σ (Int32.toNatClampNeg p1) = 0) from by assumption)).trans ((if_pos (show (p2 ≤ (zEN σ (Int32.toNatClampNeg p0) - zPL σ (Int32.toNatClampNeg p0))) from by assumption)).trans (if_neg (show ¬ (p2 ≤ (zEN σ (Int32.toNatClampNeg p1) - zPL σ (Int32.toNatClampNeg p1))) from by assumption)))))))
                exact z_iret hx hb hr hlocks hw (Nat.le_of_ble_eq_true rfl) (Nat.le_of_ble_eq_true rfl) dX2_pour_113 ⟨rfl, _, _, rfl, by rw [ho]; exact hm, by rw [ho]; exact fun h => absurd (show (5 : Int32) = 0 from h) (by decide)⟩
            · refine lv_iconst (v := 4) hx hb dX2_pour_76 (by decide) ?_
              refine lv_goto (tgt := 102) hx hb dX2_pour_77 (by decide) ?_
              refine zm_putT hx hb hts hi_X2_pour hown hw hm hf_X2_pour_48 dX2_pour_102 (fun f_24 H locs hm hw => ?_)
              refine lv_aload_n hx hb dX2_pour_105 rfl (lv_at hl 1 rfl) ?_
              refine zm_get (v := .int 4) hx hb hts hi_X2_pour hown hw hm 12 (by decide) hf_X2_pour_48 rfl dX2_pour_106 ?_
              refine lv_if_le (tgt := 114) hx hb dX2_pour_109 (by decide) (fun c_25 => absurd c_25 (by decide)) (fun c_25 => ?_)
              refine lv_iconst (v := 0) hx hb dX2_pour_112 (by decide) ?_
              have ho : (o_pour σ p0 p1 p2) = (4, 0, σ) := by unfold o_pour; first | exact (if_pos (show (zis σ p0 = true) from by assumption)).trans ((if_pos (show (zis σ p1 = true) from by assumption)).trans ((if_neg (show ¬ (p0 = p1) from by assumption)).trans ((if_pos (show (0 ≤ p2) from by assumption)).trans ((if_pos (show (zRD σ (Int32.toNatClampNeg p1) = 0) from by assumption)).trans (if_neg (show ¬ (p2 ≤ (zEN σ (Int32.toNatClampNeg p0) - zPL σ (Int32.toNatClampNeg p0))) from by assumption))))))
              exact z_iret hx hb hr hlocks hw (Nat.le_of_ble_eq_true rfl) (Nat.le_of_ble_eq_true rfl) dX2_pour_113 ⟨rfl, _, _, rfl, by rw [ho]; exact hm, by rw [ho]; exact fun h => absurd (show (4 : Int32) = 0 from h) (by decide)⟩
          · refine lv_iconst (v := 3) hx hb dX2_pour_55 (by decide) ?_
            refine lv_goto (tgt := 102) hx hb dX2_pour_56 (by decide) ?_
            refine zm_putT hx hb hts hi_X2_pour hown hw hm hf_X2_pour_48 dX2_pour_102 (fun f_26 H locs hm hw => ?_)
            refine lv_aload_n hx hb dX2_pour_105 rfl (lv_at hl 1 rfl) ?_
            refine zm_get (v := .int 3) hx hb hts hi_X2_pour hown hw hm 12 (by decide) hf_X2_pour_48 rfl dX2_pour_106 ?_
            refine lv_if_le (tgt := 114) hx hb dX2_pour_109 (by decide) (fun c_27 => absurd c_27 (by decide)) (fun c_27 => ?_)
            refine lv_iconst (v := 0) hx hb dX2_pour_112 (by decide) ?_
            have ho : (o_pour σ p0 p1 p2) = (3, 0, σ) := by unfold o_pour; first | exact (if_pos (show (zis σ p0 = true) from by assumption)).trans ((if_pos (show (zis σ p1 = true) from by assumption)).trans ((if_neg (show ¬ (p0 = p1) from by assumption)).trans ((if_pos (show (0 ≤ p2) from by assumption)).trans (if_neg (show ¬ (zRD σ (Int32.toNatClampNeg p1) = 0) from by assumption)))))
            exact z_iret hx hb hr hlocks hw (Nat.le_of_ble_eq_true rfl) (Nat.le_of_ble_eq_true rfl) dX2_pour_113 ⟨rfl, _, _, rfl, by rw [ho]; exact hm, by rw [ho]; exact fun h => absurd (show (3 : Int32) = 0 from h) (by decide)⟩
        · refine lv_iconst (v := 2) hx hb dX2_pour_42 (by decide) ?_
          refine lv_goto (tgt := 102) hx hb dX2_pour_43 (by decide) ?_
          refine zm_putT hx hb hts hi_X2_pour hown hw hm hf_X2_pour_48 dX2_pour_102 (fun f_28 H locs hm hw => ?_)
          refine lv_aload_n hx hb dX2_pour_105 rfl (lv_at hl 1 rfl) ?_
          refine zm_get (v := .int 2) hx hb hts hi_X2_pour hown hw hm 12 (by decide) hf_X2_pour_48 rfl dX2_pour_106 ?_
          refine lv_if_le (tgt := 114) hx hb dX2_pour_109 (by decide) (fun c_29 => absurd c_29 (by decide)) (fun c_29 => ?_)
          refine lv_iconst (v := 0) hx hb dX2_pour_112 (by decide) ?_
          have ho : (o_pour σ p0 p1 p2) = (2, 0, σ) := by unfold o_pour; first | exact (if_pos (show (zis σ p0 = true) from by assumption)).trans ((if_pos (show (zis σ p1 = true) from by assumption)).trans (if_pos (show (p0 = p1) from by assumption))) | exact (if_pos (show (zis σ p0 = true) from by assumption)).trans ((if_pos (show (zis σ p1 = true) from by assumption)).trans ((if_neg (show ¬ (p0 = p1) from by assumption)).trans (if_neg (show ¬ (0 ≤ p2) from by assumption))))
          exact z_iret hx hb hr hlocks hw (Nat.le_of_ble_eq_true rfl) (Nat.le_of_ble_eq_true rfl) dX2_pour_113 ⟨rfl, _, _, rfl, by rw [ho]; exact hm, by rw [ho]; exact fun h => absurd (show (2 : Int32) = 0 from h) (by decide)⟩

def o_text (σ : ZS) (p0 : Int32) : Int32 × Int64 × ZS := if zis σ p0 = true then if zK σ (Int32.toNatClampNeg p0) = 99 then (0, zSum σ (Int32.toNatClampNeg p0) (zPL σ (Int32.toNatClampNeg p0)) 7 (Int32.toNatClampNeg (zEN σ (Int32.toNatClampNeg p0) - zPL σ (Int32.toNatClampNeg p0))), σ) else (2, 0, σ) else (1, 0, σ)

theorem hi_X2_text : ∀ w ∈ wsX20, w ∈ wsX2_text := by decide +kernel
theorem hf_X2_text_13 : Cond.fieldLink RX2 13 (TX2 1).1 (TX2 1).2.1 (TX2 1).2.2.1 ∈ wsX2_text := by decide +kernel
theorem hf_X2_text_26 : Cond.fieldLink RX2 26 (TX2 5).1 (TX2 5).2.1 (TX2 5).2.2.1 ∈ wsX2_text := by decide +kernel
theorem hf_X2_text_29 : Cond.fieldLink RX2 29 (TX2 6).1 (TX2 6).2.1 (TX2 6).2.2.1 ∈ wsX2_text := by decide +kernel
theorem hf_X2_text_48 : Cond.fieldLink RX2 48 (TX2 12).1 (TX2 12).2.1 (TX2 12).2.2.1 ∈ wsX2_text := by decide +kernel
set_option maxRecDepth 100000 in
set_option maxHeartbeats 4000000 in
theorem c_X2_text (l : Launch) (g : zG) (am : Nat → Nat) (L : List Nat) (f : Nat → va_E) (σ : ZS) (bs : Nat → Int64) (th : Int32) (p0 : Int32) (hm : zM g am f σ bs th L f) {ln : Nat → Nat} {kd : Nat → Int32} (hI : zI σ ln kd) : zC l yX2_text wsX2_text { frames := 2, cells := 0, slots := 0, locals := 43 } 0 0 g [.ref (am 0), .int p0] L f (fun r L1 f1 => L = L1 ∧ ∃ (b9 : Int64) (bs1 : Nat → Int64), some (.long b9) = r ∧ zM g am f (o_text σ p0).2.2 bs1 (o_text σ p0).1 L f1 ∧ ((o_text σ p0).1 = 0 → b9 = (o_text σ p0).2.1)) zNo := by
  refine z_ofW (cc := cX2_text) (maxL := 5) (ret := (some .long)) (by decide) rfl (Nat.le_of_ble_eq_true rfl) ?_
  intro p e s m args below meth c ls A hx hb hr hts hown hlocks hml htab hin hw hX hl
  have hl : lv_has ls 5 [(0, .ref (am 0)), (1, .int p0)] := hl
  have hown : s.vm.findClass RX2 = some m.cls := hown
  refine lv_aload_n hx hb dX2_text_0 rfl (lv_at hl 0 rfl) ?_
  refine lv_aload_n hx hb dX2_text_1 rfl (lv_at hl 0 rfl) ?_
  refine lv_iload_n hx hb dX2_text_2 rfl (lv_at hl 1 rfl) ?_
  refine z_callV (As := [.int p0]) (rest := [.ref (am 0)]) ⟨hx, hb, hml, hown, hts⟩ hw hX (hm.1.1 0 (by decide)) rfl (c_X2_is l g am L f σ bs th p0 hm.rf) (cwV 1 hts gX2_text_X2_is rfl rfl rfl (by decide +kernel) ⟨(Nat.le_of_ble_eq_true rfl), (Nat.le_of_ble_eq_true rfl)⟩) rfl hl.1 rfl (Nat.le_of_ble_eq_true rfl) dX2_text_3 ⟨(Nat.le_of_ble_eq_true rfl), (Nat.le_of_ble_eq_true rfl)⟩ (fun _ _ _ _ _ _ _ hp => False.elim hp) (fun r9 L9 f9 H locs hp hw => ?_)
  obtain ⟨rfl, rfl, rfl⟩ := hp
  refine W.eq (g2 := F0 m 6 ls [.int (zb (zis σ p0)), .ref (am 0)]) rfl ?_
  refine zr_bne hx hb dX2_text_6 (tgt := 13) (by decide) (fun c_1 => ?_) (fun c_1 => ?_)
  · refine lv_aload_n hx hb dX2_text_13 rfl (lv_at hl 0 rfl) ?_
    refine zm_get (v := .ref (am 2)) hx hb hts hi_X2_text hown hw hm 1 (by decide) hf_X2_text_13 rfl dX2_text_14 ?_
    refine lv_iload_n hx hb dX2_text_17 rfl (lv_at hl 1 rfl) ?_
    refine zm_ldK hx hb hw hm (by first | assumption | exact zis_7 (by assumption) | exact zin_7 (by assumption) | exact zin_1 (by assumption)) dX2_text_18 ?_
    refine lv_bipush (v := 99) hx hb dX2_text_19 (by decide) ?_
    refine lv_icmp_eq (tgt := 28) hx hb dX2_text_21 (by decide) (fun c_2 => ?_) (fun c_2 => ?_)
    · refine lv_iconst (v := 0) hx hb dX2_text_28 (by decide) ?_
      refine zm_putT hx hb hts hi_X2_text hown hw hm hf_X2_text_48 dX2_text_29 (fun f_3 H locs hm hw => ?_)
      refine lv_ldc2 (v := 7) hx hb hown (hts (.constantLong RX2 93 7) (by decide +kernel)) dX2_text_32 ?_
      refine lv_lstore_n (lv' := [(2, .long 7), (0, .ref (am 0)), (1, .int p0)]) hx hb dX2_text_35 rfl hl (by decide) rfl (fun ls hl => ?_)
      refine lv_aload_n hx hb dX2_text_36 rfl (lv_at hl 1 rfl) ?_
      refine zm_get (v := .int 0) hx hb hts hi_X2_text hown hw hm 12 (by decide) hf_X2_text_48 rfl dX2_text_37 ?_
      refine lv_if_le (tgt := 47) hx hb dX2_text_40 (by decide) (fun c_4 => ?_) (fun c_4 => absurd (by decide) c_4)
      refine lv_aload_n hx hb dX2_text_47 rfl (lv_at hl 1 rfl) ?_
      refine zm_get (v := .ref (am 6)) hx hb hts hi_X2_text hown hw hm 5 (by decide) hf_X2_text_26 rfl dX2_text_48 ?_
      refine lv_iload_n hx hb dX2_text_51 rfl (lv_at hl 2 rfl) ?_
      refine zm_ldPL hx hb hw hm (by first | assumption | exact zis_7 (by assumption) | exact zin_7 (by assumption) | exact zin_1 (by assumption)) dX2_text_52 ?_
      refine lv_istore (lv' := [(4, .int (zPL σ (Int32.toNatClampNeg p0))), (2, .long 7), (0, .ref (am 0)), (1, .int p0)]) hx hb dX2_text_53 hl (by decide) rfl (fun ls hl => ?_)
      obtain ⟨n, hn64, hnn⟩ := zWin_n (zI_win hI (show zis σ p0 = true from by assumption))
      have loop_55 : ∀ (n9 : Nat) (k : Nat) (f8 : Nat → va_E) (H : Heap) (locs : List Loc) (ls : Array Slot), (k ≤ n) → (n + 1 ≤ k + n9) → zM g am f σ bs 0 L f8 → zW g A s L f8 H locs → lv_has ls 5 [(0, .ref (am 0)), (1, .int p0), (2, .long (zSum σ (Int32.toNatClampNeg p0) (zPL σ (Int32.toNatClampNeg p0)) 7 k)), (4, .int (zPL σ (Int32.toNatClampNeg p0) + nI k))] → W p l e { frames := 2, cells := 0, slots := 0, locals := 43 } s m args below meth c H locs 0 0 (vx_MQ below (zQ g A (fun r L1 f1 => L = L1 ∧ ∃ (b9 : Int64) (bs1 : Nat → Int64), some (.long b9) = r ∧ zM g am f (o_text σ p0).2.2 bs1 (o_text σ p0).1 L f1 ∧ ((o_text σ p0).1 = 0 → b9 = (o_text σ p0).2.1))) (zXC g A zNo) args s 0 0 A) (F0 m 55 ls []) := by
        intro n9
        induction n9 with
        | zero => intro k f8 H locs ls hk hn hm hw hl; exact absurd hn (by omega)
        | succ n9 ih_55 =>
          intro k f8 H locs ls hk hn hm hw hl
          refine lv_aload_n hx hb dX2_text_55 rfl (lv_at hl 0 rfl) ?_
          refine zm_get (v := .int 0) hx hb hts hi_X2_text hown hw hm 12 (by decide) hf_X2_text_48 rfl dX2_text_56 ?_
          refine lv_if_ne (tgt := 93) hx hb dX2_text_59 (by decide) (fun c_5 => absurd (by decide) c_5) (fun c_5 => ?_)
          refine lv_iload hx hb dX2_text_62 (lv_at hl 3 rfl) ?_
          refine lv_aload_n hx hb dX2_text_64 rfl (lv_at hl 0 rfl) ?_
          refine zm_get (v := .ref (am 7)) hx hb hts hi_X2_text hown hw hm 6 (by decide) hf_X2_text_29 rfl dX2_text_65 ?_
          refine lv_iload_n hx hb dX2_text_68 rfl (lv_at hl 1 rfl) ?_
          refine zm_ldEN hx hb hw hm (by first | assumption | exact zis_7 (by assumption) | exact zin_7 (by assumption) | exact zin_1 (by assumption)) dX2_text_69 ?_
          refine lv_icmp_ge (tgt := 93) hx hb dX2_text_70 (by decide) (fun c_6 => ?_) (fun c_6 => ?_)
          · have hke : k = n := Nat.le_antisymm hk ((zrun_lt (zI_win hI (show zis σ p0 = true from by assumption)) hnn hn64 hk).mp c_6)
            refine lv_aload_n hx hb dX2_text_93 rfl (lv_at hl 0 rfl) ?_
            refine zm_get (v := .int 0) hx hb hts hi_X2_text hown hw hm 12 (by decide) hf_X2_text_48 rfl dX2_text_94 ?_
            refine lv_if_le (tgt := 104) hx hb dX2_text_97 (by decide) (fun c_7 => ?_) (fun c_7 => absurd (by decide) c_7)
            refine lv_lload_n hx hb dX2_text_104 rfl (lv_at hl 2 rfl) ?_
            have hz : Int32.toNatClampNeg (zEN σ (Int32.toNatClampNeg p0) - zPL σ (Int32.toNatClampNeg p0)) = k := by rw [hnn, nI_clamp (by omega)]; exact hke.symm
            have ho : (o_text σ p0) = (0, (zSum σ (Int32.toNatClampNeg p0) (zPL σ (Int32.toNatClampNeg p0)) 7 k), σ) := by unfold o_text; rw [hz]; first | exact (if_pos (show (zis σ p0 = true) from by assumption)).trans (if_pos (show (zK σ (Int32.toNatClampNeg p0) = 99) from by assumption))
            exact z_lret hx hb hr hlocks hw (Nat.le_of_ble_eq_true rfl) (Nat.le_of_ble_eq_true rfl) dX2_text_105 ⟨rfl, _, _, rfl, by rw [ho]; exact hm, by rw [ho]; exact fun _ => rfl⟩
          · have hlt : k < n := Nat.lt_of_not_le (fun q => c_6 ((zrun_lt (zI_win hI (show zis σ p0 = true from by assumption)) hnn hn64 hk).mpr q))
            refine lv_ldc2 (v := 31) hx hb hown (hts (.constantLong RX2 95 31) (by decide +kernel)) dX2_text_73 ?_
            refine lv_lload_n hx hb dX2_text_76 rfl (lv_at hl 2 rfl) ?_
            refine lv_lmul hx hb dX2_text_77 ?_
            refine lv_aload_n hx hb dX2_text_78 rfl (lv_at hl 0 rfl) ?_
            refine lv_iload_n hx hb dX2_text_79 rfl (lv_at hl 1 rfl) ?_
            refine lv_iload hx hb dX2_text_80 (lv_at hl 3 rfl) ?_
            refine z_callV (As := [.int p0, .int (zPL σ (Int32.toNatClampNeg p0) + nI k)]) (rest := [.long (31 * (zSum σ (Int32.toNatClampNeg p0) (zPL σ (Int32.toNatClampNeg p0)) 7 k))]) ⟨hx, hb, hml, hown, hts⟩ hw hX (hm.1.1 0 (by decide)) rfl (c_X2_value l g am L f8 σ bs 0 p0 (zPL σ (Int32.toNatClampNeg p0) + nI k) hm.rf (by first | assumption | exact zis_7 (by assumption) | exact zin_7 (by assumption) | exact zin_1 (by assumption)) (zAt_pk (zI_win hI (show zis σ p0 = true from by assumption)) hnn (by omega) hlt)) (cwV 2 hts gX2_text_X2_value rfl rfl rfl (by decide +kernel) ⟨(Nat.le_of_ble_eq_true rfl), (Nat.le_of_ble_eq_true rfl)⟩) rfl hl.1 rfl (Nat.le_of_ble_eq_true rfl) dX2_text_82 ⟨(Nat.le_of_ble_eq_true rfl), (Nat.le_of_ble_eq_true rfl)⟩ (fun _ _ _ _ _ _ _ hp => False.elim hp) (fun r9 L9 f9 H locs hp hw => ?_)
            obtain ⟨rfl, rfl, rfl⟩ := hp
            refine W.eq (g2 := F0 m 85 ls [.long (zVal σ (Int32.toNatClampNeg p0) (zPL σ (Int32.toNatClampNeg p0) + nI k)), .long (31 * (zSum σ (Int32.toNatClampNeg p0) (zPL σ (Int32.toNatClampNeg p0)) 7 k))]) rfl ?_
            refine lv_ladd hx hb dX2_text_85 ?_
            refine lv_lstore_n (lv' := [(2, .long ((31 * (zSum σ (Int32.toNatClampNeg p0) (zPL σ (Int32.toNatClampNeg p0)) 7 k)) + (zVal σ (Int32.toNatClampNeg p0) (zPL σ (Int32.toNatClampNeg p0) + nI k)))), (0, .ref (am 0)), (1, .int p0), (4, .int (zPL σ (Int32.toNatClampNeg p0) + nI k))]) hx hb dX2_text_86 rfl hl (by decide) rfl (fun ls hl => ?_)
            refine lv_iinc (v := ((zPL σ (Int32.toNatClampNeg p0) + nI k) + 1)) (lv' := [(4, .int ((zPL σ (Int32.toNatClampNeg p0) + nI k) + 1)), (2, .long ((31 * (zSum σ (Int32.toNatClampNeg p0) (zPL σ (Int32.toNatClampNeg p0)) 7 k)) + (zVal σ (Int32.toNatClampNeg p0) (zPL σ (Int32.toNatClampNeg p0) + nI k)))), (0, .ref (am 0)), (1, .int p0)]) hx hb dX2_text_87 hl (k := 3) rfl rfl (by decide) rfl (fun ls hl => ?_)
            refine lv_goto (tgt := 55) hx hb dX2_text_90 (by decide) ?_
            refine ih_55 (k + 1) _ _ _ _ (by omega) (by omega) hm hw ?_
            have hl := lv_sub hl (l' := [(0, .ref (am 0)), (1, .int p0), (2, .long ((31 * (zSum σ (Int32.toNatClampNeg p0) (zPL σ (Int32.toNatClampNeg p0)) 7 k)) + (zVal σ (Int32.toNatClampNeg p0) (zPL σ (Int32.toNatClampNeg p0) + nI k)))), (4, .int ((zPL σ (Int32.toNatClampNeg p0) + nI k) + 1))]) [2, 3, 1, 0] rfl
            rw [nI_succ, ← Int32.add_assoc]
            exact hl
      refine loop_55 (n + 1) 0 _ _ _ _ (Nat.zero_le _) (by omega) hm hw ?_
      have hl := lv_sub hl (l' := [(0, .ref (am 0)), (1, .int p0), (2, .long 7), (4, .int (zPL σ (Int32.toNatClampNeg p0)))]) [2, 3, 1, 0] rfl
      rw [nI_0, Int32.add_zero]
      exact hl
    · refine lv_iconst (v := 2) hx hb dX2_text_24 (by decide) ?_
      refine lv_goto (tgt := 29) hx hb dX2_text_25 (by decide) ?_
      refine zm_putT hx hb hts hi_X2_text hown hw hm hf_X2_text_48 dX2_text_29 (fun f_8 H locs hm hw => ?_)
      refine lv_ldc2 (v := 7) hx hb hown (hts (.constantLong RX2 93 7) (by decide +kernel)) dX2_text_32 ?_
      refine lv_lstore_n (lv' := [(2, .long 7), (0, .ref (am 0)), (1, .int p0)]) hx hb dX2_text_35 rfl hl (by decide) rfl (fun ls hl => ?_)
      refine lv_aload_n hx hb dX2_text_36 rfl (lv_at hl 1 rfl) ?_
      refine zm_get (v := .int 2) hx hb hts hi_X2_text hown hw hm 12 (by decide) hf_X2_text_48 rfl dX2_text_37 ?_
      refine lv_if_le (tgt := 47) hx hb dX2_text_40 (by decide) (fun c_9 => absurd c_9 (by decide)) (fun c_9 => ?_)
      refine lv_iconst (v := 0) hx hb dX2_text_43 (by decide) ?_
      refine lv_goto (tgt := 53) hx hb dX2_text_44 (by decide) ?_
      refine lv_istore (lv' := [(4, .int 0), (2, .long 7), (0, .ref (am 0)), (1, .int p0)]) hx hb dX2_text_53 hl (by decide) rfl (fun ls hl => ?_)
      refine lv_aload_n hx hb dX2_text_55 rfl (lv_at hl 2 rfl) ?_
      refine zm_get (v := .int 2) hx hb hts hi_X2_text hown hw hm 12 (by decide) hf_X2_text_48 rfl dX2_text_56 ?_
      refine lv_if_ne (tgt := 93) hx hb dX2_text_59 (by decide) (fun c_10 => ?_) (fun c_10 => absurd c_10 (by decide))
      refine lv_aload_n hx hb dX2_text_93 rfl (lv_at hl 2 rfl) ?_
      refine zm_get (v := .int 2) hx hb hts hi_X2_text hown hw hm 12 (by decide) hf_X2_text_48 rfl dX2_text_94 ?_
      refine lv_if_le (tgt := 104) hx hb dX2_text_97 (by decide) (fun c_11 => absurd c_11 (by decide)) (fun c_11 => ?_)
      refine lv_lconst (v := 0) hx hb dX2_text_100 (by decide) ?_
      refine lv_goto (tgt := 105) hx hb dX2_text_101 (by decide) ?_
      have ho : (o_text σ p0) = (2, 0, σ) := by unfold o_text; first | exact (if_pos (show (zis σ p0 = true) from by assumption)).trans (if_neg (show ¬ (zK σ (Int32.toNatClampNeg p0) = 99) from by assumption))
      exact z_lret hx hb hr hlocks hw (Nat.le_of_ble_eq_true rfl) (Nat.le_of_ble_eq_true rfl) dX2_text_105 ⟨rfl, _, _, rfl, by rw [ho]; exact hm, by rw [ho]; exact fun h => absurd (show (2 : Int32) = 0 from h) (by decide)⟩
  · refine lv_iconst (v := 1) hx hb dX2_text_9 (by decide) ?_
    refine lv_goto (tgt := 29) hx hb dX2_text_10 (by decide) ?_
    refine zm_putT hx hb hts hi_X2_text hown hw hm hf_X2_text_48 dX2_text_29 (fun f_12 H locs hm hw => ?_)
    refine lv_ldc2 (v := 7) hx hb hown (hts (.constantLong RX2 93 7) (by decide +kernel)) dX2_text_32 ?_
    refine lv_lstore_n (lv' := [(2, .long 7), (0, .ref (am 0)), (1, .int p0)]) hx hb dX2_text_35 rfl hl (by decide) rfl (fun ls hl => ?_)
    refine lv_aload_n hx hb dX2_text_36 rfl (lv_at hl 1 rfl) ?_
    refine zm_get (v := .int 1) hx hb hts hi_X2_text hown hw hm 12 (by decide) hf_X2_text_48 rfl dX2_text_37 ?_
    refine lv_if_le (tgt := 47) hx hb dX2_text_40 (by decide) (fun c_13 => absurd c_13 (by decide)) (fun c_13 => ?_)
    refine lv_iconst (v := 0) hx hb dX2_text_43 (by decide) ?_
    refine lv_goto (tgt := 53) hx hb dX2_text_44 (by decide) ?_
    refine lv_istore (lv' := [(4, .int 0), (2, .long 7), (0, .ref (am 0)), (1, .int p0)]) hx hb dX2_text_53 hl (by decide) rfl (fun ls hl => ?_)
    refine lv_aload_n hx hb dX2_text_55 rfl (lv_at hl 2 rfl) ?_
    refine zm_get (v := .int 1) hx hb hts hi_X2_text hown hw hm 12 (by decide) hf_X2_text_48 rfl dX2_text_56 ?_
    refine lv_if_ne (tgt := 93) hx hb dX2_text_59 (by decide) (fun c_14 => ?_) (fun c_14 => absurd c_14 (by decide))
    refine lv_aload_n hx hb dX2_text_93 rfl (lv_at hl 2 rfl) ?_
    refine zm_get (v := .int 1) hx hb hts hi_X2_text hown hw hm 12 (by decide) hf_X2_text_48 rfl dX2_text_94 ?_
    refine lv_if_le (tgt := 104) hx hb dX2_text_97 (by decide) (fun c_15 => absurd c_15 (by decide)) (fun c_15 => ?_)
    refine lv_lconst (v := 0) hx hb dX2_text_100 (by decide) ?_
    refine lv_goto (tgt := 105) hx hb dX2_text_101 (by decide) ?_
    have ho : (o_text σ p0) = (1, 0, σ) := by unfold o_text; first | exact if_neg (show ¬ (zis σ p0 = true) from by assumption)
    exact z_lret hx hb hr hlocks hw (Nat.le_of_ble_eq_true rfl) (Nat.le_of_ble_eq_true rfl) dX2_text_105 ⟨rfl, _, _, rfl, by rw [ho]; exact hm, by rw [ho]; exact fun h => absurd (show (1 : Int32) = 0 from h) (by decide)⟩

def o_isAlike (σ : ZS) (p0 : Int32) (p1 : Int32) : Int32 × Int32 × ZS := if zis σ p0 = true then if zis σ p1 = true then (0, (zb (zAlk σ (Int32.toNatClampNeg p0) (Int32.toNatClampNeg p1) (Int32.toNatClampNeg (zEN σ (Int32.toNatClampNeg p0) - zPL σ (Int32.toNatClampNeg p0))))), σ) else (1, 0, σ) else (1, 0, σ)

theorem hi_X2_isAlike : ∀ w ∈ wsX20, w ∈ wsX2_isAlike := by decide +kernel
theorem hf_X2_isAlike_26 : Cond.fieldLink RX2 26 (TX2 5).1 (TX2 5).2.1 (TX2 5).2.2.1 ∈ wsX2_isAlike := by decide +kernel
theorem hf_X2_isAlike_29 : Cond.fieldLink RX2 29 (TX2 6).1 (TX2 6).2.1 (TX2 6).2.2.1 ∈ wsX2_isAlike := by decide +kernel
theorem hf_X2_isAlike_48 : Cond.fieldLink RX2 48 (TX2 12).1 (TX2 12).2.1 (TX2 12).2.2.1 ∈ wsX2_isAlike := by decide +kernel
set_option maxRecDepth 100000 in
set_option maxHeartbeats 4000000 in
theorem c_X2_isAlike (l : Launch) (g : zG) (am : Nat → Nat) (L : List Nat) (f : Nat → va_E) (σ : ZS) (bs : Nat → Int64) (th : Int32) (p0 : Int32) (p1 : Int32) (hm : zM g am f σ bs th L f) {ln : Nat → Nat} {kd : Nat → Int32} (hI : zI σ ln kd) : zC l yX2_isAlike wsX2_isAlike { frames := 2, cells := 0, slots := 0, locals := 43 } 0 0 g [.ref (am 0), .int p0, .int p1] L f (fun r L1 f1 => L = L1 ∧ ∃ (b9 : Int32) (bs1 : Nat → Int64), some (.int b9) = r ∧ zM g am f (o_isAlike σ p0 p1).2.2 bs1 (o_isAlike σ p0 p1).1 L f1 ∧ ((o_isAlike σ p0 p1).1 = 0 → b9 = (o_isAlike σ p0 p1).2.1)) zNo := by
  refine z_ofW (cc := cX2_isAlike) (maxL := 6) (ret := (some .boolean)) (by decide) rfl (Nat.le_of_ble_eq_true rfl) ?_
  intro p e s m args below meth c ls A hx hb hr hts hown hlocks hml htab hin hw hX hl
  have hl : lv_has ls 6 [(0, .ref (am 0)), (1, .int p0), (2, .int p1)] := hl
  have hown : s.vm.findClass RX2 = some m.cls := hown
  refine lv_aload_n hx hb dX2_isAlike_0 rfl (lv_at hl 0 rfl) ?_
  refine lv_aload_n hx hb dX2_isAlike_1 rfl (lv_at hl 0 rfl) ?_
  refine lv_iload_n hx hb dX2_isAlike_2 rfl (lv_at hl 1 rfl) ?_
  refine z_callV (As := [.int p0]) (rest := [.ref (am 0)]) ⟨hx, hb, hml, hown, hts⟩ hw hX (hm.1.1 0 (by decide)) rfl (c_X2_is l g am L f σ bs th p0 hm.rf) (cwV 1 hts gX2_isAlike_X2_is rfl rfl rfl (by decide +kernel) ⟨(Nat.le_of_ble_eq_true rfl), (Nat.le_of_ble_eq_true rfl)⟩) rfl hl.1 rfl (Nat.le_of_ble_eq_true rfl) dX2_isAlike_3 ⟨(Nat.le_of_ble_eq_true rfl), (Nat.le_of_ble_eq_true rfl)⟩ (fun _ _ _ _ _ _ _ hp => False.elim hp) (fun r9 L9 f9 H locs hp hw => ?_)
  obtain ⟨rfl, rfl, rfl⟩ := hp
  refine W.eq (g2 := F0 m 6 ls [.int (zb (zis σ p0)), .ref (am 0)]) rfl ?_
  refine zr_beq hx hb dX2_isAlike_6 (tgt := 21) (by decide) (fun c_1 => ?_) (fun c_1 => ?_)
  · refine lv_iconst (v := 1) hx hb dX2_isAlike_21 (by decide) ?_
    refine zm_putT hx hb hts hi_X2_isAlike hown hw hm hf_X2_isAlike_48 dX2_isAlike_22 (fun f_2 H locs hm hw => ?_)
    refine lv_aload_n hx hb dX2_isAlike_25 rfl (lv_at hl 0 rfl) ?_
    refine zm_get (v := .int 1) hx hb hts hi_X2_isAlike hown hw hm 12 (by decide) hf_X2_isAlike_48 rfl dX2_isAlike_26 ?_
    refine lv_if_le (tgt := 34) hx hb dX2_isAlike_29 (by decide) (fun c_3 => absurd c_3 (by decide)) (fun c_3 => ?_)
    refine lv_iconst (v := 0) hx hb dX2_isAlike_32 (by decide) ?_
    have ho : (o_isAlike σ p0 p1) = (1, 0, σ) := by unfold o_isAlike; first | exact (if_pos (show (zis σ p0 = true) from by assumption)).trans (if_neg (show ¬ (zis σ p1 = true) from by assumption)) | exact if_neg (show ¬ (zis σ p0 = true) from by assumption)
    exact z_zret hx hb hr hlocks rfl hw (Nat.le_of_ble_eq_true rfl) (Nat.le_of_ble_eq_true rfl) dX2_isAlike_33 ⟨rfl, _, _, rfl, by rw [ho]; exact hm, by rw [ho]; exact fun h => absurd (show (1 : Int32) = 0 from h) (by decide)⟩
  · refine lv_aload_n hx hb dX2_isAlike_9 rfl (lv_at hl 0 rfl) ?_
    refine lv_iload_n hx hb dX2_isAlike_10 rfl (lv_at hl 2 rfl) ?_
    refine z_callV (As := [.int p1]) (rest := [.ref (am 0)]) ⟨hx, hb, hml, hown, hts⟩ hw hX (hm.1.1 0 (by decide)) rfl (c_X2_is l g am L f σ bs th p1 hm.rf) (cwV 1 hts gX2_isAlike_X2_is rfl rfl rfl (by decide +kernel) ⟨(Nat.le_of_ble_eq_true rfl), (Nat.le_of_ble_eq_true rfl)⟩) rfl hl.1 rfl (Nat.le_of_ble_eq_true rfl) dX2_isAlike_11 ⟨(Nat.le_of_ble_eq_true rfl), (Nat.le_of_ble_eq_true rfl)⟩ (fun _ _ _ _ _ _ _ hp => False.elim hp) (fun r9 L9 f9 H locs hp hw => ?_)
    obtain ⟨rfl, rfl, rfl⟩ := hp
    refine W.eq (g2 := F0 m 14 ls [.int (zb (zis σ p1)), .ref (am 0)]) rfl ?_
    refine zr_beq hx hb dX2_isAlike_14 (tgt := 21) (by decide) (fun c_4 => ?_) (fun c_4 => ?_)
    · refine lv_iconst (v := 1) hx hb dX2_isAlike_21 (by decide) ?_
      refine zm_putT hx hb hts hi_X2_isAlike hown hw hm hf_X2_isAlike_48 dX2_isAlike_22 (fun f_5 H locs hm hw => ?_)
      refine lv_aload_n hx hb dX2_isAlike_25 rfl (lv_at hl 0 rfl) ?_
      refine zm_get (v := .int 1) hx hb hts hi_X2_isAlike hown hw hm 12 (by decide) hf_X2_isAlike_48 rfl dX2_isAlike_26 ?_
      refine lv_if_le (tgt := 34) hx hb dX2_isAlike_29 (by decide) (fun c_6 => absurd c_6 (by decide)) (fun c_6 => ?_)
      refine lv_iconst (v := 0) hx hb dX2_isAlike_32 (by decide) ?_
      have ho : (o_isAlike σ p0 p1) = (1, 0, σ) := by unfold o_isAlike; first | exact (if_pos (show (zis σ p0 = true) from by assumption)).trans (if_neg (show ¬ (zis σ p1 = true) from by assumption)) | exact if_neg (show ¬ (zis σ p0 = true) from by assumption)
      exact z_zret hx hb hr hlocks rfl hw (Nat.le_of_ble_eq_true rfl) (Nat.le_of_ble_eq_true rfl) dX2_isAlike_33 ⟨rfl, _, _, rfl, by rw [ho]; exact hm, by rw [ho]; exact fun h => absurd (show (1 : Int32) = 0 from h) (by decide)⟩
    · refine lv_iconst (v := 0) hx hb dX2_isAlike_17 (by decide) ?_
      refine lv_goto (tgt := 22) hx hb dX2_isAlike_18 (by decide) ?_
      refine zm_putT hx hb hts hi_X2_isAlike hown hw hm hf_X2_isAlike_48 dX2_isAlike_22 (fun f_7 H locs hm hw => ?_)
      refine lv_aload_n hx hb dX2_isAlike_25 rfl (lv_at hl 0 rfl) ?_
      refine zm_get (v := .int 0) hx hb hts hi_X2_isAlike hown hw hm 12 (by decide) hf_X2_isAlike_48 rfl dX2_isAlike_26 ?_
      refine lv_if_le (tgt := 34) hx hb dX2_isAlike_29 (by decide) (fun c_8 => ?_) (fun c_8 => absurd (by decide) c_8)
      refine lv_aload_n hx hb dX2_isAlike_34 rfl (lv_at hl 0 rfl) ?_
      refine zm_get (v := .ref (am 7)) hx hb hts hi_X2_isAlike hown hw hm 6 (by decide) hf_X2_isAlike_29 rfl dX2_isAlike_35 ?_
      refine lv_iload_n hx hb dX2_isAlike_38 rfl (lv_at hl 1 rfl) ?_
      refine zm_ldEN hx hb hw hm (zis_7 (show zis σ p0 = true from by assumption)) dX2_isAlike_39 ?_
      refine lv_aload_n hx hb dX2_isAlike_40 rfl (lv_at hl 0 rfl) ?_
      refine zm_get (v := .ref (am 6)) hx hb hts hi_X2_isAlike hown hw hm 5 (by decide) hf_X2_isAlike_26 rfl dX2_isAlike_41 ?_
      refine lv_iload_n hx hb dX2_isAlike_44 rfl (lv_at hl 1 rfl) ?_
      refine zm_ldPL hx hb hw hm (zis_7 (show zis σ p0 = true from by assumption)) dX2_isAlike_45 ?_
      refine lv_isub hx hb dX2_isAlike_46 ?_
      refine lv_istore_n (lv' := [(3, .int ((zEN σ (Int32.toNatClampNeg p0)) - (zPL σ (Int32.toNatClampNeg p0)))), (0, .ref (am 0)), (1, .int p0), (2, .int p1)]) hx hb dX2_isAlike_47 rfl hl (by decide) rfl (fun ls hl => ?_)
      refine lv_iload_n hx hb dX2_isAlike_48 rfl (lv_at hl 0 rfl) ?_
      refine lv_aload_n hx hb dX2_isAlike_49 rfl (lv_at hl 1 rfl) ?_
      refine zm_get (v := .ref (am 7)) hx hb hts hi_X2_isAlike hown hw hm 6 (by decide) hf_X2_isAlike_29 rfl dX2_isAlike_50 ?_
      refine lv_iload_n hx hb dX2_isAlike_53 rfl (lv_at hl 3 rfl) ?_
      refine zm_ldEN hx hb hw hm (zis_7 (show zis σ p1 = true from by assumption)) dX2_isAlike_54 ?_
      refine lv_aload_n hx hb dX2_isAlike_55 rfl (lv_at hl 1 rfl) ?_
      refine zm_get (v := .ref (am 6)) hx hb hts hi_X2_isAlike hown hw hm 5 (by decide) hf_X2_isAlike_26 rfl dX2_isAlike_56 ?_
      refine lv_iload_n hx hb dX2_isAlike_59 rfl (lv_at hl 3 rfl) ?_
      refine zm_ldPL hx hb hw hm (zis_7 (show zis σ p1 = true from by assumption)) dX2_isAlike_60 ?_
      refine lv_isub hx hb dX2_isAlike_61 ?_
      refine lv_icmp_ne (tgt := 69) hx hb dX2_isAlike_62 (by decide) (fun c_9 => ?_) (fun c_9 => ?_)
      · refine lv_iconst (v := 0) hx hb dX2_isAlike_69 (by decide) ?_
        refine lv_istore (lv' := [(4, .int 0), (3, .int ((zEN σ (Int32.toNatClampNeg p0)) - (zPL σ (Int32.toNatClampNeg p0)))), (0, .ref (am 0)), (1, .int p0), (2, .int p1)]) hx hb dX2_isAlike_70 hl (by decide) rfl (fun ls hl => ?_)
        refine lv_iconst (v := 0) hx hb dX2_isAlike_72 (by decide) ?_
        refine lv_istore (lv' := [(5, .int 0), (4, .int 0), (3, .int ((zEN σ (Int32.toNatClampNeg p0)) - (zPL σ (Int32.toNatClampNeg p0)))), (0, .ref (am 0)), (1, .int p0), (2, .int p1)]) hx hb dX2_isAlike_73 hl (by decide) rfl (fun ls hl => ?_)
        obtain ⟨n, hn64, hnn⟩ := zWin_n (zI_win hI (show zis σ p0 = true from by assumption))
        have loop_75 : ∀ (n9 : Nat) (k : Nat) (f8 : Nat → va_E) (H : Heap) (locs : List Loc) (ls : Array Slot), (k ≤ n) → (n + 1 ≤ k + n9) → zM g am f σ bs 0 L f8 → zW g A s L f8 H locs → lv_has ls 6 [(0, .ref (am 0)), (1, .int p0), (2, .int p1), (3, .int (zEN σ (Int32.toNatClampNeg p0) - zPL σ (Int32.toNatClampNeg p0))), (4, .int (zb (zAlk σ (Int32.toNatClampNeg p0) (Int32.toNatClampNeg p1) k))), (5, .int (nI k))] → W p l e { frames := 2, cells := 0, slots := 0, locals := 43 } s m args below meth c H locs 0 0 (vx_MQ below (zQ g A (fun r L1 f1 => L = L1 ∧ ∃ (b9 : Int32) (bs1 : Nat → Int64), some (.int b9) = r ∧ zM g am f (o_isAlike σ p0 p1).2.2 bs1 (o_isAlike σ p0 p1).1 L f1 ∧ ((o_isAlike σ p0 p1).1 = 0 → b9 = (o_isAlike σ p0 p1).2.1))) (zXC g A zNo) args s 0 0 A) (F0 m 75 ls []) := by
          intro n9
          induction n9 with
          | zero => intro k f8 H locs ls hk hn hm hw hl; exact absurd hn (by omega)
          | succ n9 ih_75 =>
            intro k f8 H locs ls hk hn hm hw hl
            refine lv_iload hx hb dX2_isAlike_75 (lv_at hl 4 rfl) ?_
            refine zr_beq hx hb dX2_isAlike_77 (tgt := 131) (by decide) (fun c_10 => ?_) (fun c_10 => ?_)
            · refine lv_iload hx hb dX2_isAlike_131 (lv_at hl 4 rfl) ?_
              have hz0 : Int32.toNatClampNeg (zEN σ (Int32.toNatClampNeg p0) - zPL σ (Int32.toNatClampNeg p0)) = n := by rw [hnn, nI_clamp (by omega)]
              have hz : zAlk σ (Int32.toNatClampNeg p0) (Int32.toNatClampNeg p1) (Int32.toNatClampNeg (zEN σ (Int32.toNatClampNeg p0) - zPL σ (Int32.toNatClampNeg p0))) = zAlk σ (Int32.toNatClampNeg p0) (Int32.toNatClampNeg p1) k := by
                rw [hz0, Bool.eq_false_iff.mpr c_10]
                exact z_al_mono hk (Bool.eq_false_iff.mpr c_10)
              have ho : (o_isAlike σ p0 p1) = (0, (zb (zAlk σ (Int32.toNatClampNeg p0) (Int32.toNatClampNeg p1) k)), σ) := by unfold o_isAlike; rw [hz]; first | exact (if_pos (show (zis σ p0 = true) from by assumption)).trans (if_pos (show (zis σ p1 = true) from by assumption))
              exact z_zret hx hb hr hlocks zb_n hw (Nat.le_of_ble_eq_true rfl) (Nat.le_of_ble_eq_true rfl) dX2_isAlike_133 ⟨rfl, _, _, rfl, by rw [ho]; exact hm, by rw [ho]; exact fun _ => rfl⟩
            · refine lv_iload hx hb dX2_isAlike_80 (lv_at hl 5 rfl) ?_
              refine lv_iload_n hx hb dX2_isAlike_82 rfl (lv_at hl 3 rfl) ?_
              refine lv_icmp_ge (tgt := 131) hx hb dX2_isAlike_83 (by decide) (fun c_11 => ?_) (fun c_11 => ?_)
              · refine lv_iload hx hb dX2_isAlike_131 (lv_at hl 4 rfl) ?_
                have hz0 : Int32.toNatClampNeg (zEN σ (Int32.toNatClampNeg p0) - zPL σ (Int32.toNatClampNeg p0)) = n := by rw [hnn, nI_clamp (by omega)]
                have hz : zAlk σ (Int32.toNatClampNeg p0) (Int32.toNatClampNeg p1) (Int32.toNatClampNeg (zEN σ (Int32.toNatClampNeg p0) - zPL σ (Int32.toNatClampNeg p0))) = zAlk σ (Int32.toNatClampNeg p0) (Int32.toNatClampNeg p1) k := by
                  rw [hz0, show k = n from zn_ge (n := n) (by rw [← hnn]; exact c_11) hk (by omega)]
                have ho : (o_isAlike σ p0 p1) = (0, (zb (zAlk σ (Int32.toNatClampNeg p0) (Int32.toNatClampNeg p1) k)), σ) := by unfold o_isAlike; rw [hz]; first | exact (if_pos (show (zis σ p0 = true) from by assumption)).trans (if_pos (show (zis σ p1 = true) from by assumption))
                exact z_zret hx hb hr hlocks zb_n hw (Nat.le_of_ble_eq_true rfl) (Nat.le_of_ble_eq_true rfl) dX2_isAlike_133 ⟨rfl, _, _, rfl, by rw [ho]; exact hm, by rw [ho]; exact fun _ => rfl⟩
              · have hlt : k < n := zn_lt (n := n) (by rw [← hnn]; exact c_11) hk (by omega)
                have hnm : zEN σ (Int32.toNatClampNeg p1) - zPL σ (Int32.toNatClampNeg p1) = nI n := by
                  have h0 : zAlk σ (Int32.toNatClampNeg p0) (Int32.toNatClampNeg p1) 0 = true := by
                    cases hb0 : zAlk σ (Int32.toNatClampNeg p0) (Int32.toNatClampNeg p1) 0
                    · exact absurd c_10 (by rw [z_al_mono (Nat.zero_le k) hb0]; decide)
                    · rfl
                  rw [← hnn]
                  exact (of_decide_eq_true h0).symm
                refine lv_aload_n hx hb dX2_isAlike_86 rfl (lv_at hl 0 rfl) ?_
                refine lv_iload_n hx hb dX2_isAlike_87 rfl (lv_at hl 1 rfl) ?_
                refine lv_aload_n hx hb dX2_isAlike_88 rfl (lv_at hl 0 rfl) ?_
                refine zm_get (v := .ref (am 6)) hx hb hts hi_X2_isAlike hown hw hm 5 (by decide) hf_X2_isAlike_26 rfl dX2_isAlike_89 ?_
                refine lv_iload_n hx hb dX2_isAlike_92 rfl (lv_at hl 1 rfl) ?_
                refine zm_ldPL hx hb hw hm (zis_7 (show zis σ p0 = true from by assumption)) dX2_isAlike_93 ?_
                refine lv_iload hx hb dX2_isAlike_94 (lv_at hl 5 rfl) ?_
                refine lv_iadd hx hb dX2_isAlike_96 ?_
                refine z_callV (As := [.int p0, .int ((zPL σ (Int32.toNatClampNeg p0)) + (nI k))]) (rest := []) ⟨hx, hb, hml, hown, hts⟩ hw hX (hm.1.1 0 (by decide)) rfl (c_X2_value l g am L f8 σ bs 0 p0 ((zPL σ (Int32.toNatClampNeg p0)) + (nI k)) hm.rf (zis_7 (show zis σ p0 = true from by assumption)) (zAt_pk (zI_win hI (show zis σ p0 = true from by assumption)) hnn (by omega) hlt)) (cwV 2 hts gX2_isAlike_X2_value rfl rfl rfl (by decide +kernel) ⟨(Nat.le_of_ble_eq_true rfl), (Nat.le_of_ble_eq_true rfl)⟩) rfl hl.1 rfl (Nat.le_of_ble_eq_true rfl) dX2_isAlike_97 ⟨(Nat.le_of_ble_eq_true rfl), (Nat.le_of_ble_eq_true rfl)⟩ (fun _ _ _ _ _ _ _ hp => False.elim hp) (fun r9 L9 f9 H locs hp hw => ?_)
                obtain ⟨rfl, rfl, rfl⟩ := hp
                refine W.eq (g2 := F0 m 100 ls [.long (zVal σ (Int32.toNatClampNeg p0) ((zPL σ (Int32.toNatClampNeg p0)) + (nI k)))]) rfl ?_
                refine lv_aload_n hx hb dX2_isAlike_100 rfl (lv_at hl 0 rfl) ?_
                refine lv_iload_n hx hb dX2_isAlike_101 rfl (lv_at hl 2 rfl) ?_
                refine lv_aload_n hx hb dX2_isAlike_102 rfl (lv_at hl 0 rfl) ?_
                refine zm_get (v := .ref (am 6)) hx hb hts hi_X2_isAlike hown hw hm 5 (by decide) hf_X2_isAlike_26 rfl dX2_isAlike_103 ?_
                refine lv_iload_n hx hb dX2_isAlike_106 rfl (lv_at hl 2 rfl) ?_
                refine zm_ldPL hx hb hw hm (zis_7 (show zis σ p1 = true from by assumption)) dX2_isAlike_107 ?_
                refine lv_iload hx hb dX2_isAlike_108 (lv_at hl 5 rfl) ?_
                refine lv_iadd hx hb dX2_isAlike_110 ?_
                refine z_callV (As := [.int p1, .int ((zPL σ (Int32.toNatClampNeg p1)) + (nI k))]) (rest := [.long (zVal σ (Int32.toNatClampNeg p0) ((zPL σ (Int32.toNatClampNeg p0)) + (nI k)))]) ⟨hx, hb, hml, hown, hts⟩ hw hX (hm.1.1 0 (by decide)) rfl (c_X2_value l g am L f8 σ bs 0 p1 ((zPL σ (Int32.toNatClampNeg p1)) + (nI k)) hm.rf (zis_7 (show zis σ p1 = true from by assumption)) (zAt_pk (zI_win hI (show zis σ p1 = true from by assumption)) hnm (by omega) hlt)) (cwV 2 hts gX2_isAlike_X2_value rfl rfl rfl (by decide +kernel) ⟨(Nat.le_of_ble_eq_true rfl), (Nat.le_of_ble_eq_true rfl)⟩) rfl hl.1 rfl (Nat.le_of_ble_eq_true rfl) dX2_isAlike_111 ⟨(Nat.le_of_ble_eq_true rfl), (Nat.le_of_ble_eq_true rfl)⟩ (fun _ _ _ _ _ _ _ hp => False.elim hp) (fun r9 L9 f9 H locs hp hw => ?_)
                obtain ⟨rfl, rfl, rfl⟩ := hp
                refine W.eq (g2 := F0 m 114 ls [.long (zVal σ (Int32.toNatClampNeg p1) ((zPL σ (Int32.toNatClampNeg p1)) + (nI k))), .long (zVal σ (Int32.toNatClampNeg p0) ((zPL σ (Int32.toNatClampNeg p0)) + (nI k)))]) rfl ?_
                refine W.lcmp hx hb dX2_isAlike_114 ?_
                refine lv_if_ne (tgt := 122) hx hb dX2_isAlike_115 (by decide) (fun c_12 => ?_) (fun c_12 => ?_)
                · refine lv_iconst (v := 0) hx hb dX2_isAlike_122 (by decide) ?_
                  refine lv_istore (lv' := [(4, .int 0), (0, .ref (am 0)), (1, .int p0), (2, .int p1), (3, .int (zEN σ (Int32.toNatClampNeg p0) - zPL σ (Int32.toNatClampNeg p0))), (5, .int (nI k))]) hx hb dX2_isAlike_123 hl (by decide) rfl (fun ls hl => ?_)
                  refine lv_iinc (v := ((nI k) + 1)) (lv' := [(5, .int ((nI k) + 1)), (4, .int 0), (0, .ref (am 0)), (1, .int p0), (2, .int p1), (3, .int (zEN σ (Int32.toNatClampNeg p0) - zPL σ (Int32.toNatClampNeg p0)))]) hx hb dX2_isAlike_125 hl (k := 5) rfl rfl (by decide) rfl (fun ls hl => ?_)
                  refine lv_goto (tgt := 75) hx hb dX2_isAlike_128 (by decide) ?_
                  refine ih_75 (k + 1) _ _ _ _ (by omega) (by omega) hm hw ?_
                  have hl := lv_sub hl (l' := [(0, .ref (am 0)), (1, .int p0), (2, .int p1), (3, .int (zEN σ (Int32.toNatClampNeg p0) - zPL σ (Int32.toNatClampNeg p0))), (4, .int 0), (5, .int ((nI k) + 1))]) [2, 3, 4, 5, 1, 0] rfl
                  rw [show zAlk σ (Int32.toNatClampNeg p0) (Int32.toNatClampNeg p1) (k + 1) = false from by rw [zAlk, c_10, decide_eq_false (fun q => c_12 (zcmp0.mpr q))]; rfl, ← nI_1 k]
                  exact hl
                · refine lv_iconst (v := 1) hx hb dX2_isAlike_118 (by decide) ?_
                  refine lv_goto (tgt := 123) hx hb dX2_isAlike_119 (by decide) ?_
                  refine lv_istore (lv' := [(4, .int 1), (0, .ref (am 0)), (1, .int p0), (2, .int p1), (3, .int (zEN σ (Int32.toNatClampNeg p0) - zPL σ (Int32.toNatClampNeg p0))), (5, .int (nI k))]) hx hb dX2_isAlike_123 hl (by decide) rfl (fun ls hl => ?_)
                  refine lv_iinc (v := ((nI k) + 1)) (lv' := [(5, .int ((nI k) + 1)), (4, .int 1), (0, .ref (am 0)), (1, .int p0), (2, .int p1), (3, .int (zEN σ (Int32.toNatClampNeg p0) - zPL σ (Int32.toNatClampNeg p0)))]) hx hb dX2_isAlike_125 hl (k := 5) rfl rfl (by decide) rfl (fun ls hl => ?_)
                  refine lv_goto (tgt := 75) hx hb dX2_isAlike_128 (by decide) ?_
                  refine ih_75 (k + 1) _ _ _ _ (by omega) (by omega) hm hw ?_
                  have hl := lv_sub hl (l' := [(0, .ref (am 0)), (1, .int p0), (2, .int p1), (3, .int (zEN σ (Int32.toNatClampNeg p0) - zPL σ (Int32.toNatClampNeg p0))), (4, .int 1), (5, .int ((nI k) + 1))]) [2, 3, 4, 5, 1, 0] rfl
                  rw [show zAlk σ (Int32.toNatClampNeg p0) (Int32.toNatClampNeg p1) (k + 1) = true from by rw [zAlk, c_10, decide_eq_true (zcmp0.mp c_12)]; rfl, ← nI_1 k]
                  exact hl
        refine loop_75 (n + 1) 0 _ _ _ _ (Nat.zero_le _) (by omega) hm hw ?_
        have hl := lv_sub hl (l' := [(0, .ref (am 0)), (1, .int p0), (2, .int p1), (3, .int ((zEN σ (Int32.toNatClampNeg p0)) - (zPL σ (Int32.toNatClampNeg p0)))), (4, .int 0), (5, .int 0)]) [3, 4, 5, 2, 1, 0] rfl
        rw [show zAlk σ (Int32.toNatClampNeg p0) (Int32.toNatClampNeg p1) 0 = false from decide_eq_false (by assumption)]
        exact hl
      · refine lv_iconst (v := 1) hx hb dX2_isAlike_65 (by decide) ?_
        refine lv_goto (tgt := 70) hx hb dX2_isAlike_66 (by decide) ?_
        refine lv_istore (lv' := [(4, .int 1), (3, .int ((zEN σ (Int32.toNatClampNeg p0)) - (zPL σ (Int32.toNatClampNeg p0)))), (0, .ref (am 0)), (1, .int p0), (2, .int p1)]) hx hb dX2_isAlike_70 hl (by decide) rfl (fun ls hl => ?_)
        refine lv_iconst (v := 0) hx hb dX2_isAlike_72 (by decide) ?_
        refine lv_istore (lv' := [(5, .int 0), (4, .int 1), (3, .int ((zEN σ (Int32.toNatClampNeg p0)) - (zPL σ (Int32.toNatClampNeg p0)))), (0, .ref (am 0)), (1, .int p0), (2, .int p1)]) hx hb dX2_isAlike_73 hl (by decide) rfl (fun ls hl => ?_)
        obtain ⟨n, hn64, hnn⟩ := zWin_n (zI_win hI (show zis σ p0 = true from by assumption))
        have loop_75 : ∀ (n9 : Nat) (k : Nat) (f8 : Nat → va_E) (H : Heap) (locs : List Loc) (ls : Array Slot), (k ≤ n) → (n + 1 ≤ k + n9) → zM g am f σ bs 0 L f8 → zW g A s L f8 H locs → lv_has ls 6 [(0, .ref (am 0)), (1, .int p0), (2, .int p1), (3, .int (zEN σ (Int32.toNatClampNeg p0) - zPL σ (Int32.toNatClampNeg p0))), (4, .int (zb (zAlk σ (Int32.toNatClampNeg p0) (Int32.toNatClampNeg p1) k))), (5, .int (nI k))] → W p l e { frames := 2, cells := 0, slots := 0, locals := 43 } s m args below meth c H locs 0 0 (vx_MQ below (zQ g A (fun r L1 f1 => L = L1 ∧ ∃ (b9 : Int32) (bs1 : Nat → Int64), some (.int b9) = r ∧ zM g am f (o_isAlike σ p0 p1).2.2 bs1 (o_isAlike σ p0 p1).1 L f1 ∧ ((o_isAlike σ p0 p1).1 = 0 → b9 = (o_isAlike σ p0 p1).2.1))) (zXC g A zNo) args s 0 0 A) (F0 m 75 ls []) := by
          intro n9
          induction n9 with
          | zero => intro k f8 H locs ls hk hn hm hw hl; exact absurd hn (by omega)
          | succ n9 ih_75 =>
            intro k f8 H locs ls hk hn hm hw hl
            refine lv_iload hx hb dX2_isAlike_75 (lv_at hl 4 rfl) ?_
            refine zr_beq hx hb dX2_isAlike_77 (tgt := 131) (by decide) (fun c_13 => ?_) (fun c_13 => ?_)
            · refine lv_iload hx hb dX2_isAlike_131 (lv_at hl 4 rfl) ?_
              have hz0 : Int32.toNatClampNeg (zEN σ (Int32.toNatClampNeg p0) - zPL σ (Int32.toNatClampNeg p0)) = n := by rw [hnn, nI_clamp (by omega)]
              have hz : zAlk σ (Int32.toNatClampNeg p0) (Int32.toNatClampNeg p1) (Int32.toNatClampNeg (zEN σ (Int32.toNatClampNeg p0) - zPL σ (Int32.toNatClampNeg p0))) = zAlk σ (Int32.toNatClampNeg p0) (Int32.toNatClampNeg p1) k := by
                rw [hz0, Bool.eq_false_iff.mpr c_13]
                exact z_al_mono hk (Bool.eq_false_iff.mpr c_13)
              have ho : (o_isAlike σ p0 p1) = (0, (zb (zAlk σ (Int32.toNatClampNeg p0) (Int32.toNatClampNeg p1) k)), σ) := by unfold o_isAlike; rw [hz]; first | exact (if_pos (show (zis σ p0 = true) from by assumption)).trans (if_pos (show (zis σ p1 = true) from by assumption))
              exact z_zret hx hb hr hlocks zb_n hw (Nat.le_of_ble_eq_true rfl) (Nat.le_of_ble_eq_true rfl) dX2_isAlike_133 ⟨rfl, _, _, rfl, by rw [ho]; exact hm, by rw [ho]; exact fun _ => rfl⟩
            · refine lv_iload hx hb dX2_isAlike_80 (lv_at hl 5 rfl) ?_
              refine lv_iload_n hx hb dX2_isAlike_82 rfl (lv_at hl 3 rfl) ?_
              refine lv_icmp_ge (tgt := 131) hx hb dX2_isAlike_83 (by decide) (fun c_14 => ?_) (fun c_14 => ?_)
              · refine lv_iload hx hb dX2_isAlike_131 (lv_at hl 4 rfl) ?_
                have hz0 : Int32.toNatClampNeg (zEN σ (Int32.toNatClampNeg p0) - zPL σ (Int32.toNatClampNeg p0)) = n := by rw [hnn, nI_clamp (by omega)]
                have hz : zAlk σ (Int32.toNatClampNeg p0) (Int32.toNatClampNeg p1) (Int32.toNatClampNeg (zEN σ (Int32.toNatClampNeg p0) - zPL σ (Int32.toNatClampNeg p0))) = zAlk σ (Int32.toNatClampNeg p0) (Int32.toNatClampNeg p1) k := by
                  rw [hz0, show k = n from zn_ge (n := n) (by rw [← hnn]; exact c_14) hk (by omega)]
                have ho : (o_isAlike σ p0 p1) = (0, (zb (zAlk σ (Int32.toNatClampNeg p0) (Int32.toNatClampNeg p1) k)), σ) := by unfold o_isAlike; rw [hz]; first | exact (if_pos (show (zis σ p0 = true) from by assumption)).trans (if_pos (show (zis σ p1 = true) from by assumption))
                exact z_zret hx hb hr hlocks zb_n hw (Nat.le_of_ble_eq_true rfl) (Nat.le_of_ble_eq_true rfl) dX2_isAlike_133 ⟨rfl, _, _, rfl, by rw [ho]; exact hm, by rw [ho]; exact fun _ => rfl⟩
              · have hlt : k < n := zn_lt (n := n) (by rw [← hnn]; exact c_14) hk (by omega)
                have hnm : zEN σ (Int32.toNatClampNeg p1) - zPL σ (Int32.toNatClampNeg p1) = nI n := by
                  have h0 : zAlk σ (Int32.toNatClampNeg p0) (Int32.toNatClampNeg p1) 0 = true := by
                    cases hb0 : zAlk σ (Int32.toNatClampNeg p0) (Int32.toNatClampNeg p1) 0
                    · exact absurd c_13 (by rw [z_al_mono (Nat.zero_le k) hb0]; decide)
                    · rfl
                  rw [← hnn]
                  exact (of_decide_eq_true h0).symm
                refine lv_aload_n hx hb dX2_isAlike_86 rfl (lv_at hl 0 rfl) ?_
                refine lv_iload_n hx hb dX2_isAlike_87 rfl (lv_at hl 1 rfl) ?_
                refine lv_aload_n hx hb dX2_isAlike_88 rfl (lv_at hl 0 rfl) ?_
                refine zm_get (v := .ref (am 6)) hx hb hts hi_X2_isAlike hown hw hm 5 (by decide) hf_X2_isAlike_26 rfl dX2_isAlike_89 ?_
                refine lv_iload_n hx hb dX2_isAlike_92 rfl (lv_at hl 1 rfl) ?_
                refine zm_ldPL hx hb hw hm (zis_7 (show zis σ p0 = true from by assumption)) dX2_isAlike_93 ?_
                refine lv_iload hx hb dX2_isAlike_94 (lv_at hl 5 rfl) ?_
                refine lv_iadd hx hb dX2_isAlike_96 ?_
                refine z_callV (As := [.int p0, .int ((zPL σ (Int32.toNatClampNeg p0)) + (nI k))]) (rest := []) ⟨hx, hb, hml, hown, hts⟩ hw hX (hm.1.1 0 (by decide)) rfl (c_X2_value l g am L f8 σ bs 0 p0 ((zPL σ (Int32.toNatClampNeg p0)) + (nI k)) hm.rf (zis_7 (show zis σ p0 = true from by assumption)) (zAt_pk (zI_win hI (show zis σ p0 = true from by assumption)) hnn (by omega) hlt)) (cwV 2 hts gX2_isAlike_X2_value rfl rfl rfl (by decide +kernel) ⟨(Nat.le_of_ble_eq_true rfl), (Nat.le_of_ble_eq_true rfl)⟩) rfl hl.1 rfl (Nat.le_of_ble_eq_true rfl) dX2_isAlike_97 ⟨(Nat.le_of_ble_eq_true rfl), (Nat.le_of_ble_eq_true rfl)⟩ (fun _ _ _ _ _ _ _ hp => False.elim hp) (fun r9 L9 f9 H locs hp hw => ?_)
                obtain ⟨rfl, rfl, rfl⟩ := hp
                refine W.eq (g2 := F0 m 100 ls [.long (zVal σ (Int32.toNatClampNeg p0) ((zPL σ (Int32.toNatClampNeg p0)) + (nI k)))]) rfl ?_
                refine lv_aload_n hx hb dX2_isAlike_100 rfl (lv_at hl 0 rfl) ?_
                refine lv_iload_n hx hb dX2_isAlike_101 rfl (lv_at hl 2 rfl) ?_
                refine lv_aload_n hx hb dX2_isAlike_102 rfl (lv_at hl 0 rfl) ?_
                refine zm_get (v := .ref (am 6)) hx hb hts hi_X2_isAlike hown hw hm 5 (by decide) hf_X2_isAlike_26 rfl dX2_isAlike_103 ?_
                refine lv_iload_n hx hb dX2_isAlike_106 rfl (lv_at hl 2 rfl) ?_
                refine zm_ldPL hx hb hw hm (zis_7 (show zis σ p1 = true from by assumption)) dX2_isAlike_107 ?_
                refine lv_iload hx hb dX2_isAlike_108 (lv_at hl 5 rfl) ?_
                refine lv_iadd hx hb dX2_isAlike_110 ?_
                refine z_callV (As := [.int p1, .int ((zPL σ (Int32.toNatClampNeg p1)) + (nI k))]) (rest := [.long (zVal σ (Int32.toNatClampNeg p0) ((zPL σ (Int32.toNatClampNeg p0)) + (nI k)))]) ⟨hx, hb, hml, hown, hts⟩ hw hX (hm.1.1 0 (by decide)) rfl (c_X2_value l g am L f8 σ bs 0 p1 ((zPL σ (Int32.toNatClampNeg p1)) + (nI k)) hm.rf (zis_7 (show zis σ p1 = true from by assumption)) (zAt_pk (zI_win hI (show zis σ p1 = true from by assumption)) hnm (by omega) hlt)) (cwV 2 hts gX2_isAlike_X2_value rfl rfl rfl (by decide +kernel) ⟨(Nat.le_of_ble_eq_true rfl), (Nat.le_of_ble_eq_true rfl)⟩) rfl hl.1 rfl (Nat.le_of_ble_eq_true rfl) dX2_isAlike_111 ⟨(Nat.le_of_ble_eq_true rfl), (Nat.le_of_ble_eq_true rfl)⟩ (fun _ _ _ _ _ _ _ hp => False.elim hp) (fun r9 L9 f9 H locs hp hw => ?_)
                obtain ⟨rfl, rfl, rfl⟩ := hp
                refine W.eq (g2 := F0 m 114 ls [.long (zVal σ (Int32.toNatClampNeg p1) ((zPL σ (Int32.toNatClampNeg p1)) + (nI k))), .long (zVal σ (Int32.toNatClampNeg p0) ((zPL σ (Int32.toNatClampNeg p0)) + (nI k)))]) rfl ?_
                refine W.lcmp hx hb dX2_isAlike_114 ?_
                refine lv_if_ne (tgt := 122) hx hb dX2_isAlike_115 (by decide) (fun c_15 => ?_) (fun c_15 => ?_)
                · refine lv_iconst (v := 0) hx hb dX2_isAlike_122 (by decide) ?_
                  refine lv_istore (lv' := [(4, .int 0), (0, .ref (am 0)), (1, .int p0), (2, .int p1), (3, .int (zEN σ (Int32.toNatClampNeg p0) - zPL σ (Int32.toNatClampNeg p0))), (5, .int (nI k))]) hx hb dX2_isAlike_123 hl (by decide) rfl (fun ls hl => ?_)
                  refine lv_iinc (v := ((nI k) + 1)) (lv' := [(5, .int ((nI k) + 1)), (4, .int 0), (0, .ref (am 0)), (1, .int p0), (2, .int p1), (3, .int (zEN σ (Int32.toNatClampNeg p0) - zPL σ (Int32.toNatClampNeg p0)))]) hx hb dX2_isAlike_125 hl (k := 5) rfl rfl (by decide) rfl (fun ls hl => ?_)
                  refine lv_goto (tgt := 75) hx hb dX2_isAlike_128 (by decide) ?_
                  refine ih_75 (k + 1) _ _ _ _ (by omega) (by omega) hm hw ?_
                  have hl := lv_sub hl (l' := [(0, .ref (am 0)), (1, .int p0), (2, .int p1), (3, .int (zEN σ (Int32.toNatClampNeg p0) - zPL σ (Int32.toNatClampNeg p0))), (4, .int 0), (5, .int ((nI k) + 1))]) [2, 3, 4, 5, 1, 0] rfl
                  rw [show zAlk σ (Int32.toNatClampNeg p0) (Int32.toNatClampNeg p1) (k + 1) = false from by rw [zAlk, c_13, decide_eq_false (fun q => c_15 (zcmp0.mpr q))]; rfl, ← nI_1 k]
                  exact hl
                · refine lv_iconst (v := 1) hx hb dX2_isAlike_118 (by decide) ?_
                  refine lv_goto (tgt := 123) hx hb dX2_isAlike_119 (by decide) ?_
                  refine lv_istore (lv' := [(4, .int 1), (0, .ref (am 0)), (1, .int p0), (2, .int p1), (3, .int (zEN σ (Int32.toNatClampNeg p0) - zPL σ (Int32.toNatClampNeg p0))), (5, .int (nI k))]) hx hb dX2_isAlike_123 hl (by decide) rfl (fun ls hl => ?_)
                  refine lv_iinc (v := ((nI k) + 1)) (lv' := [(5, .int ((nI k) + 1)), (4, .int 1), (0, .ref (am 0)), (1, .int p0), (2, .int p1), (3, .int (zEN σ (Int32.toNatClampNeg p0) - zPL σ (Int32.toNatClampNeg p0)))]) hx hb dX2_isAlike_125 hl (k := 5) rfl rfl (by decide) rfl (fun ls hl => ?_)
                  refine lv_goto (tgt := 75) hx hb dX2_isAlike_128 (by decide) ?_
                  refine ih_75 (k + 1) _ _ _ _ (by omega) (by omega) hm hw ?_
                  have hl := lv_sub hl (l' := [(0, .ref (am 0)), (1, .int p0), (2, .int p1), (3, .int (zEN σ (Int32.toNatClampNeg p0) - zPL σ (Int32.toNatClampNeg p0))), (4, .int 1), (5, .int ((nI k) + 1))]) [2, 3, 4, 5, 1, 0] rfl
                  rw [show zAlk σ (Int32.toNatClampNeg p0) (Int32.toNatClampNeg p1) (k + 1) = true from by rw [zAlk, c_13, decide_eq_true (zcmp0.mp c_15)]; rfl, ← nI_1 k]
                  exact hl
        refine loop_75 (n + 1) 0 _ _ _ _ (Nat.zero_le _) (by omega) hm hw ?_
        have hl := lv_sub hl (l' := [(0, .ref (am 0)), (1, .int p0), (2, .int p1), (3, .int ((zEN σ (Int32.toNatClampNeg p0)) - (zPL σ (Int32.toNatClampNeg p0)))), (4, .int 1), (5, .int 0)]) [3, 4, 5, 2, 1, 0] rfl
        rw [show zAlk σ (Int32.toNatClampNeg p0) (Int32.toNatClampNeg p1) 0 = true from decide_eq_true (by assumption)]
        exact hl
