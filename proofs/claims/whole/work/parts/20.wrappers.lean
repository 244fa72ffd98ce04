theorem z_callSX {p : Program} {l : Launch} {e : Env} {R : Room} {s : State} {m : MethodId} {args : Array Value} {below : List Frame} {meth : Method} {c : Code} {H : Heap} {locs : List Loc} {cells slots : Nat} {Q : State → Prop} {cc : ByteArray} {pc : Nat} {ls : Array Slot} {rest : List Value} {g : zG} {A : Nat → Prop} {L : List Nat} {f : Nat → va_E} {mC sC : Nat} {post : Option Value → List Nat → (Nat → va_E) → Prop} {px : String → List Nat → (Nat → va_E) → Prop} {st0 : List Value}
    {y : MethodName} {bytes : ByteArray} {maxL nL n index : Nat} {ret : Option FieldType} {hh : List (Nat × Nat × Nat × Nat)} {ws : List Cond} {rm : Room} {Ts : List Cond} {own : String} {As : List Value}
    (F : CallFix p m c cc nL s args Ts own) (hw : zW g A s L f H locs) (hX : zX A s s.heap) (hM : zC l y ws rm mC sC g As L f post px) (cw : vx_CSW R s args own index y bytes maxL ret hh ws rm mC sC n)
    (hn : As.length = n) (hsize : ls.size = nL) (hstack : st0 = As.reverse ++ rest) (hR : (rest.map fun v => v.category).sum ≤ 8) (hdg : decode cc pc = .ok (.invokestatic index, 3)) (hf : cells + mC ≤ R.cells ∧ slots + sC ≤ R.slots)
    (kx : ∀ (E : String) (ce : Cell) (q9 : Addr) (L1 : List Nat) (f1 : Nat → va_E) (H1 : Heap) (locs1 : List Loc), px E L1 f1 → zW g A s L1 f1 H1 locs1 → H1[q9]? = some ce → ce.vm = .none → s.vm.findClass E = some ce.cls → vx_W p l e R s m args below meth c H1 locs1 (cells + mC) (slots + sC) Q (F0 m pc ls rest) q9)
    (kk : ∀ (r : Option Value) (L1 : List Nat) (f1 : Nat → va_E) (H1 : Heap) (locs1 : List Loc), post r L1 f1 → zW g A s L1 f1 H1 locs1 → W p l e R s m args below meth c H1 locs1 (cells + mC) (slots + sC) Q (F0 m (pc + 3) ls (r.toList ++ rest))) : W p l e R s m args below meth c H locs cells slots Q (F0 m pc ls st0) :=
  z_go hw (vx_runSX F (hM H.size) cw (z_pre hw hX) rfl hn hsize hstack (lv_room hR) hdg hf) kx kk
section Z20
variable {g : zG} {h : Nat} {P : Nat → Prop} {σ : ZS} {L : List Nat} {f f1 : Nat → va_E}
theorem zHC_fr (H : zHC g h P σ L f) (e : ∀ b, ¬ P b → f1 b = f b) : zHC g h P σ L f1 := by
  obtain ⟨ah, G, Rw, rs, wn, ad, ln, kd, ct, h0, hE, hG, hRw, hrd, hw, hdd, hin, hP, hPL, hI⟩ := H
  refine ⟨ah, G, Rw, rs, wn, ad, ln, kd, ct, h0, ⟨fun k hk => ⟨(hE.1 k hk).1, (e _ (hP k hk)).trans (hE.1 k hk).2⟩, hE.2⟩, hG, hRw, hrd, hw, fun d hd hl => ?_, hin, hP, hPL, hI⟩
  obtain ⟨a1, a2, a3⟩ := hdd d hd hl
  exact ⟨⟨a1.1, (e _ a3).trans a1.2⟩, a2, a3⟩
theorem zHC_in (H : zHC g h P σ L f) {b : Nat} (hb : P b) : b ∈ L := by
  obtain ⟨ah, G, Rw, rs, wn, ad, ln, kd, ct, h0, hE, hG, hRw, hrd, hw, hdd, hin, hP, hPL, hI⟩ := H
  exact hPL b hb
theorem zHC_I (H : zHC g h P σ L f) : ∃ (ln : Nat → Nat) (kd : Nat → Int32), zI σ ln kd := by
  obtain ⟨ah, G, Rw, rs, wn, ad, ln, kd, ct, h0, HR⟩ := H
  exact ⟨ln, kd, HR.I⟩
theorem zHC_obj (H : zHC g h P σ L f) : ∃ fs, zc L f h (.inr (1, fs)) := by
  obtain ⟨ah, G, Rw, rs, wn, ad, ln, kd, ct, rfl, HR⟩ := H
  exact ⟨_, HR.1.1 0 (by decide)⟩
set_option maxRecDepth 100000 in
theorem z_nanf2 : ∀ a, a < 65 → ∀ b, b < 65 → 0 < b → vf_n64 (FP.f2d (FP.fdiv (FP.i2f (nI a)) (FP.i2f (nI b)))) := by unfold vf_n64; decide +kernel
set_option maxRecDepth 100000 in
theorem z_eqf2 : ∀ a, a < 65 → ∀ b, b < 65 → 0 < b → Op.cmpValue (FP.dcmp (FP.f2d (FP.fdiv (FP.i2f (nI a)) (FP.i2f (nI b)))) (FP.f2d (FP.fdiv (FP.i2f (nI a)) (FP.i2f (nI b))))) .l = 0 := by decide +kernel
set_option maxRecDepth 100000 in
theorem z_eqd : ∀ a, a < 513 → ∀ b, b < 9 → 0 < b → Op.cmpValue (FP.dcmp (FP.ddiv (FP.i2d (nI a)) (FP.i2d (nI b))) (FP.ddiv (FP.i2d (nI a)) (FP.i2d (nI b)))) .l = 0 := by decide +kernel
theorem zfs_n {ln : Nat → Nat} {kd : Nat → Int32} {w : Int32} (hI : zI σ ln kd) (h0 : (o_fullShare σ w).1 = 0) : ∃ a b, a < 65 ∧ b < 65 ∧ 0 < b ∧ (o_fullShare σ w).2.1 = FP.fdiv (FP.i2f (nI a)) (FP.i2f (nI b)) := by
  unfold o_fullShare at h0 ⊢
  by_cases h1 : zis σ w = true
  · rw [if_pos h1] at h0 ⊢
    by_cases h2 : zSZ σ (Int32.toNatClampNeg w) = 0
    · rw [if_pos h2] at h0
      exact absurd (show (2 : Int32) = 0 from h0) (by decide)
    · rw [if_neg h2]
      obtain ⟨s, p, e, e1, e2, e3, e4, e5, e6, -⟩ := zW_nat (zI_win hI h1)
      rw [e1] at h2 ⊢
      rw [e2]
      exact ⟨p, s, by omega, by omega, Nat.pos_of_ne_zero (fun q => h2 (by rw [q]; rfl)), rfl⟩
  · rw [if_neg h1] at h0
    exact absurd (show (1 : Int32) = 0 from h0) (by decide)
theorem zml_n {ln : Nat → Nat} {kd : Nat → Int32} (hI : zI σ ln kd) (h0 : (o_meanLeft σ).1 = 0) : ∃ a b, a < 513 ∧ b < 9 ∧ 0 < b ∧ (o_meanLeft σ).2.1 = FP.ddiv (FP.i2d (nI a)) (FP.i2d (nI b)) := by
  unfold o_meanLeft at h0 ⊢
  by_cases h2 : zMlc σ 8 = 0
  · rw [if_pos h2] at h0
    exact absurd (show (1 : Int32) = 0 from h0) (by decide)
  · rw [if_neg h2]
    obtain ⟨a, b, h1, h3, h4, h5⟩ := zMl_n hI 8 (Nat.le_refl 8)
    rw [h5] at h2 ⊢
    rw [h4]
    exact ⟨a, b, by omega, by omega, Nat.pos_of_ne_zero (fun q => h2 (by rw [q]; rfl)), rfl⟩
end Z20
theorem z_ofWH {l : Launch} {cc : ByteArray} {g : zG} {L : List Nat} {f : Nat → va_E} {y : MethodName} {ws ws' : List Cond} {rm : Room} {mc ms maxL : Nat} {av : List Value} {post : Option Value → List Nat → (Nat → va_E) → Prop} {px : String → List Nat → (Nat → va_E) → Prop} {ret : Option FieldType} {hh : List (Nat × Nat × Nat × Nat)}
    (hy : plainName y.cls = true) (hw : ws = Cond.codeWith y cc maxL ret hh :: ws') (hlen : (lg_sl av).length ≤ maxL)
    (body : ∀ (p : Program) (e : Env) (s : State) (m : MethodId) (args : Array Value) (below : List Frame) (meth : Method) (c : Code) (ls : Array Slot) (A : Nat → Prop),
      p.tables.exec = Jvm.exec → c.code = cc → meth.sig.returnType = ret → (∀ w ∈ ws, w.before args s = true) → s.vm.findClass y.cls = some m.cls → meth.locks = false → c.maxLocals = maxL → c.exceptionTable.toList = tableOf hh →
      zW g A s L f s.heap [] → zX A s s.heap → lv_has ls maxL (lv_args 0 av) → W p l e rm s m args below meth c s.heap [] 0 0 (vx_MQ below (zQ g A post) (zXC g A px) args s mc ms A) (F0 m 0 ls [])) : zC l y ws rm mc ms g av L f post px := by
  intro sz
  refine vx_ofWH (cc := cc) (maxL := maxL) (ret := ret) (hh := hh) hy hw ?_
  intro p e s m args below meth c s₁ B hml hv
  obtain ⟨rfl, hsz, hP, hK, hD0, hX⟩ := hv
  have hts := atoms_spec (ws := ws) B.pre
  have htab := vx_table (x := y) B (hts _ (by rw [hw]; exact List.mem_cons_self))
  have hown : s.vm.findClass y.cls = some m.cls := findClass_of_methodNamed B.named
  subst hsz
  have hD := hD0.self (sz := s.heap.size)
  generalize hAe : va_A (va_pl L f) s.heap.size = A at hD hX ⊢
  have hA : ∀ q : Nat, s.heap.size ≤ q → A q := fun q h => by rw [← hAe]; exact Or.inr h
  rw [lg_entry_eq]
  exact body p e s m av.toArray below meth c _ A B.exec B.bytes B.returns hts hown B.notSynchronized hml htab ⟨hK, hP, hD, va_S.rf, hA⟩ hX (lv_entry av hlen)

set_option maxRecDepth 100000 in
set_option maxHeartbeats 4000000 in
theorem c_L_make (l : Launch) (hl0 : l.stackTraces = false) (g : zG) (L : List Nat) (f : Nat → va_E) (h : Nat) (P : Nat → Prop) (σ : ZS) (p0 : Int32) (p1 : Int32) (o : Nat) (F : Nat → Int64) (hH : zHC g h P σ L f) (ho : zc L f o (.inl (g.2 1, 1, .inr (.inl F)))) (hPo : P o) : zC l yL_make wsL_make { frames := 9, cells := 3, slots := 76, locals := 147 } 3 76 g [.ref h, .int p0, .int p1, .ref o] L f (fun r L1 f1 => some (.int (o_make σ p0 p1).1) = r ∧ zHC g h P (o_make σ p0 p1).2.2 L1 f1 ∧ (∃ F1 : Nat → Int64, f1 o = .inl (g.2 1, 1, .inr (.inl F1)) ∧ ((o_make σ p0 p1).1 = 0 → F1 0 = (o_make σ p0 p1).2.1.toInt64)) ∧ ∀ b, P b → b ≠ o → f1 b = f b) zNo := by
  refine z_ofWH (cc := cL_make) (maxL := 5) (ret := (some .int)) (hh := [(0, 10, 13, 13), (0, 10, 17, 15)]) (by decide) rfl (Nat.le_of_ble_eq_true rfl) ?_
  intro p e s m args below meth c ls A hx hb hr hts hown hlocks hml htab hw hX hl
  have hl : lv_has ls 5 [(0, .ref h), (1, .int p0), (2, .int p1), (3, .ref o)] := hl
  have hown : s.vm.findClass RL = some m.cls := hown
  obtain ⟨fs9, hcb⟩ := zHC_obj hH
  refine lv_aload_n hx hb dL_make_0 rfl (lv_at hl 3 rfl) ?_
  refine lv_iconst (v := 0) hx hb dL_make_1 (by decide) ?_
  refine lv_aload_n hx hb dL_make_2 rfl (lv_at hl 0 rfl) ?_
  refine lv_iload_n hx hb dL_make_3 rfl (lv_at hl 1 rfl) ?_
  refine lv_iload_n hx hb dL_make_4 rfl (lv_at hl 2 rfl) ?_
  refine z_callV (As := [.int p0, .int p1]) (rest := [.int 0, .ref o]) ⟨hx, hb, hml, hown, hts⟩ hw hX hcb rfl (c_X1_make l hl0 g L f h P σ p0 p1 hH) (cwV 2 hts gL_make_X1_make rfl rfl rfl (by decide +kernel) ⟨(Nat.le_of_ble_eq_true rfl), (Nat.le_of_ble_eq_true rfl)⟩) rfl hl.1 rfl (Nat.le_of_ble_eq_true rfl) dL_make_5 ⟨(Nat.le_of_ble_eq_true rfl), (Nat.le_of_ble_eq_true rfl)⟩ (fun E ce q9 L9 f9 H locs hp hw hce hcv hcl => ?_) (fun r9 L9 f9 H locs hp hw => ?_)
  · obtain ⟨⟨j9, hj, hk⟩, rfl, rfl, hs9⟩ := hp
    cases j9 with
    | zero =>
      obtain rfl : "java/lang/IndexOutOfBoundsException" = E := Option.some.inj hj
      refine vx_catch (E := "java/lang/IndexOutOfBoundsException") hown (tableOf []) ⟨0, 10, 13, 13⟩ (tableOf [(0, 10, 17, 15)]) htab (fun z hz => (nomatch hz)) rfl (by decide) (hts (.classLink RL 13 "java/lang/IndexOutOfBoundsException") (by decide +kernel)) (va_tabs rfl rfl (hX.2.2.1 "java/lang/IndexOutOfBoundsException" (by decide))) hce hcv hcl ?_
      refine W.eq (g2 := F0 m 13 ls [.ref q9]) rfl ?_
      refine lv_astore (lv' := [(4, .ref q9), (0, .ref h), (1, .int p0), (2, .int p1), (3, .ref o)]) hx hb dL_make_13 hl (by decide) rfl (fun ls hl => ?_)
      refine lv_iconst (v := 1) hx hb dL_make_15 (by decide) ?_
      exact z_iret hx hb hr hlocks hw (Nat.le_of_ble_eq_true rfl) (Nat.le_of_ble_eq_true rfl) dL_make_16 ⟨by rw [hk]; rfl, by rw [hs9]; exact hH, ⟨F, ho.2, fun h9 => absurd (hk.symm.trans h9) (by decide)⟩, fun b _ _ => rfl⟩
    | succ j9 =>
      cases j9 with
      | zero =>
        obtain rfl : "java/lang/IllegalArgumentException" = E := Option.some.inj hj
        refine vx_catch (E := "java/lang/IllegalArgumentException") hown (tableOf [(0, 10, 13, 13)]) ⟨0, 10, 17, 15⟩ (tableOf []) htab (fun z hz => ((List.mem_cons.mp hz).elim (fun e9 => by subst e9; exact Or.inr ⟨by decide, "java/lang/IndexOutOfBoundsException", hts (.classLink RL 13 "java/lang/IndexOutOfBoundsException") (by decide +kernel), hX.2.2.2.2.2.2.2.2 ("java/lang/IllegalArgumentException", "java/lang/IndexOutOfBoundsException") (by decide)⟩) (fun hz => (nomatch hz)))) rfl (by decide) (hts (.classLink RL 15 "java/lang/IllegalArgumentException") (by decide +kernel)) (va_tabs rfl rfl (hX.2.2.1 "java/lang/IllegalArgumentException" (by decide))) hce hcv hcl ?_
        refine W.eq (g2 := F0 m 17 ls [.ref q9]) rfl ?_
        refine lv_astore (lv' := [(4, .ref q9), (0, .ref h), (1, .int p0), (2, .int p1), (3, .ref o)]) hx hb dL_make_17 hl (by decide) rfl (fun ls hl => ?_)
        refine lv_iconst (v := 2) hx hb dL_make_19 (by decide) ?_
        exact z_iret hx hb hr hlocks hw (Nat.le_of_ble_eq_true rfl) (Nat.le_of_ble_eq_true rfl) dL_make_20 ⟨by rw [hk]; rfl, by rw [hs9]; exact hH, ⟨F, ho.2, fun h9 => absurd (hk.symm.trans h9) (by decide)⟩, fun b _ _ => rfl⟩
      | succ j9 =>
        exact absurd hj (by simp)
  obtain ⟨ho0, rfl, hH1, hfr⟩ := hp
  have ho9 : zc L9 f9 o (.inl (g.2 1, 1, .inr (.inl F))) := ⟨zHC_in hH1 hPo, (hfr o hPo).trans ho.2⟩
  refine W.eq (g2 := F0 m 8 ls [.int (o_make σ p0 p1).2.1, .int 0, .ref o]) rfl ?_
  refine lv_i2l (v := ((o_make σ p0 p1).2.1).toInt64) hx hb dL_make_8 rfl ?_
  refine zr_last hx hb hw ho9 (vp_in_iff.mpr (by decide)) dL_make_9 (fun H locs hw => ?_)
  refine lv_goto (tgt := 21) hx hb dL_make_10 (by decide) ?_
  refine lv_iconst (v := 0) hx hb dL_make_21 (by decide) ?_
  exact z_iret hx hb hr hlocks hw (Nat.le_of_ble_eq_true rfl) (Nat.le_of_ble_eq_true rfl) dL_make_22 ⟨by rw [ho0], zHC_fr hH1 (fun b hb => va_up_ne _ _ (show b ≠ o from fun e9 => hb (e9 ▸ hPo))), ⟨_, va_up_self _ _ _, fun _ => (if_pos rfl)⟩, fun b hb hne => (va_up_ne _ _ hne).trans (hfr b hb)⟩

set_option maxRecDepth 100000 in
set_option maxHeartbeats 4000000 in
theorem c_L_rowAt (l : Launch) (hl0 : l.stackTraces = false) (g : zG) (L : List Nat) (f : Nat → va_E) (h : Nat) (P : Nat → Prop) (σ : ZS) (p0 : Int32) (p1 : Int32) (o : Nat) (F : Nat → Int64) (hH : zHC g h P σ L f) (ho : zc L f o (.inl (g.2 1, 1, .inr (.inl F)))) (hPo : P o) : zC l yL_rowAt wsL_rowAt { frames := 9, cells := 2, slots := 12, locals := 147 } 2 12 g [.ref h, .int p0, .int p1, .ref o] L f (fun r L1 f1 => some (.int (o_rowAt σ p0 p1).1) = r ∧ zHC g h P (o_rowAt σ p0 p1).2.2 L1 f1 ∧ (∃ F1 : Nat → Int64, f1 o = .inl (g.2 1, 1, .inr (.inl F1)) ∧ ((o_rowAt σ p0 p1).1 = 0 → F1 0 = (o_rowAt σ p0 p1).2.1.toInt64)) ∧ ∀ b, P b → b ≠ o → f1 b = f b) zNo := by
  refine z_ofWH (cc := cL_rowAt) (maxL := 5) (ret := (some .int)) (hh := [(0, 10, 13, 13)]) (by decide) rfl (Nat.le_of_ble_eq_true rfl) ?_
  intro p e s m args below meth c ls A hx hb hr hts hown hlocks hml htab hw hX hl
  have hl : lv_has ls 5 [(0, .ref h), (1, .int p0), (2, .int p1), (3, .ref o)] := hl
  have hown : s.vm.findClass RL = some m.cls := hown
  obtain ⟨fs9, hcb⟩ := zHC_obj hH
  refine lv_aload_n hx hb dL_rowAt_0 rfl (lv_at hl 3 rfl) ?_
  refine lv_iconst (v := 0) hx hb dL_rowAt_1 (by decide) ?_
  refine lv_aload_n hx hb dL_rowAt_2 rfl (lv_at hl 0 rfl) ?_
  refine lv_iload_n hx hb dL_rowAt_3 rfl (lv_at hl 1 rfl) ?_
  refine lv_iload_n hx hb dL_rowAt_4 rfl (lv_at hl 2 rfl) ?_
  refine z_callV (As := [.int p0, .int p1]) (rest := [.int 0, .ref o]) ⟨hx, hb, hml, hown, hts⟩ hw hX hcb rfl (c_X1_rowAt l hl0 g L f h P σ p0 p1 hH) (cwV 2 hts gL_rowAt_X1_rowAt rfl rfl rfl (by decide +kernel) ⟨(Nat.le_of_ble_eq_true rfl), (Nat.le_of_ble_eq_true rfl)⟩) rfl hl.1 rfl (Nat.le_of_ble_eq_true rfl) dL_rowAt_5 ⟨(Nat.le_of_ble_eq_true rfl), (Nat.le_of_ble_eq_true rfl)⟩ (fun E ce q9 L9 f9 H locs hp hw hce hcv hcl => ?_) (fun r9 L9 f9 H locs hp hw => ?_)
  · obtain ⟨⟨j9, hj, hk⟩, rfl, rfl, hs9⟩ := hp
    cases j9 with
    | zero =>
      obtain rfl : "java/lang/IndexOutOfBoundsException" = E := Option.some.inj hj
      refine vx_catch (E := "java/lang/IndexOutOfBoundsException") hown (tableOf []) ⟨0, 10, 13, 13⟩ (tableOf []) htab (fun z hz => (nomatch hz)) rfl (by decide) (hts (.classLink RL 13 "java/lang/IndexOutOfBoundsException") (by decide +kernel)) (va_tabs rfl rfl (hX.2.2.1 "java/lang/IndexOutOfBoundsException" (by decide))) hce hcv hcl ?_
      refine W.eq (g2 := F0 m 13 ls [.ref q9]) rfl ?_
      refine lv_astore (lv' := [(4, .ref q9), (0, .ref h), (1, .int p0), (2, .int p1), (3, .ref o)]) hx hb dL_rowAt_13 hl (by decide) rfl (fun ls hl => ?_)
      refine lv_iconst (v := 1) hx hb dL_rowAt_15 (by decide) ?_
      exact z_iret hx hb hr hlocks hw (Nat.le_of_ble_eq_true rfl) (Nat.le_of_ble_eq_true rfl) dL_rowAt_16 ⟨by rw [hk]; rfl, by rw [hs9]; exact hH, ⟨F, ho.2, fun h9 => absurd (hk.symm.trans h9) (by decide)⟩, fun b _ _ => rfl⟩
    | succ j9 =>
      exact absurd hj (by simp)
  obtain ⟨ho0, rfl, hH1, hfr⟩ := hp
  have ho9 : zc L9 f9 o (.inl (g.2 1, 1, .inr (.inl F))) := ⟨zHC_in hH1 hPo, (hfr o hPo).trans ho.2⟩
  refine W.eq (g2 := F0 m 8 ls [.int (o_rowAt σ p0 p1).2.1, .int 0, .ref o]) rfl ?_
  refine lv_i2l (v := ((o_rowAt σ p0 p1).2.1).toInt64) hx hb dL_rowAt_8 rfl ?_
  refine zr_last hx hb hw ho9 (vp_in_iff.mpr (by decide)) dL_rowAt_9 (fun H locs hw => ?_)
  refine lv_goto (tgt := 17) hx hb dL_rowAt_10 (by decide) ?_
  refine lv_iconst (v := 0) hx hb dL_rowAt_17 (by decide) ?_
  exact z_iret hx hb hr hlocks hw (Nat.le_of_ble_eq_true rfl) (Nat.le_of_ble_eq_true rfl) dL_rowAt_18 ⟨by rw [ho0], zHC_fr hH1 (fun b hb => va_up_ne _ _ (show b ≠ o from fun e9 => hb (e9 ▸ hPo))), ⟨_, va_up_self _ _ _, fun _ => (if_pos rfl)⟩, fun b hb hne => (va_up_ne _ _ hne).trans (hfr b hb)⟩

set_option maxRecDepth 100000 in
set_option maxHeartbeats 4000000 in
theorem c_L_rowPut (l : Launch) (hl0 : l.stackTraces = false) (g : zG) (L : List Nat) (f : Nat → va_E) (h : Nat) (P : Nat → Prop) (σ : ZS) (p0 : Int32) (p1 : Int32) (p2 : Int32) (o : Nat) (F : Nat → Int64) (hH : zHC g h P σ L f) (ho : zc L f o (.inl (g.2 1, 1, .inr (.inl F)))) (hPo : P o) : zC l yL_rowPut wsL_rowPut { frames := 9, cells := 2, slots := 12, locals := 149 } 2 12 g [.ref h, .int p0, .int p1, .int p2, .ref o] L f (fun r L1 f1 => some (.int (o_rowPut σ p0 p1 p2).1) = r ∧ zHC g h P (o_rowPut σ p0 p1 p2).2.2 L1 f1 ∧ (∃ F1 : Nat → Int64, f1 o = .inl (g.2 1, 1, .inr (.inl F1)) ∧ ((o_rowPut σ p0 p1 p2).1 = 0 → F1 0 = (o_rowPut σ p0 p1 p2).2.1.toInt64)) ∧ ∀ b, P b → b ≠ o → f1 b = f b) zNo := by
  refine z_ofWH (cc := cL_rowPut) (maxL := 6) (ret := (some .int)) (hh := [(0, 12, 15, 13)]) (by decide) rfl (Nat.le_of_ble_eq_true rfl) ?_
  intro p e s m args below meth c ls A hx hb hr hts hown hlocks hml htab hw hX hl
  have hl : lv_has ls 6 [(0, .ref h), (1, .int p0), (2, .int p1), (3, .int p2), (4, .ref o)] := hl
  have hown : s.vm.findClass RL = some m.cls := hown
  obtain ⟨fs9, hcb⟩ := zHC_obj hH
  refine lv_aload hx hb dL_rowPut_0 (lv_at hl 4 rfl) ?_
  refine lv_iconst (v := 0) hx hb dL_rowPut_2 (by decide) ?_
  refine lv_aload_n hx hb dL_rowPut_3 rfl (lv_at hl 0 rfl) ?_
  refine lv_iload_n hx hb dL_rowPut_4 rfl (lv_at hl 1 rfl) ?_
  refine lv_iload_n hx hb dL_rowPut_5 rfl (lv_at hl 2 rfl) ?_
  refine lv_iload_n hx hb dL_rowPut_6 rfl (lv_at hl 3 rfl) ?_
  refine z_callV (As := [.int p0, .int p1, .int p2]) (rest := [.int 0, .ref o]) ⟨hx, hb, hml, hown, hts⟩ hw hX hcb rfl (c_X1_rowPut l hl0 g L f h P σ p0 p1 p2 hH) (cwV 3 hts gL_rowPut_X1_rowPut rfl rfl rfl (by decide +kernel) ⟨(Nat.le_of_ble_eq_true rfl), (Nat.le_of_ble_eq_true rfl)⟩) rfl hl.1 rfl (Nat.le_of_ble_eq_true rfl) dL_rowPut_7 ⟨(Nat.le_of_ble_eq_true rfl), (Nat.le_of_ble_eq_true rfl)⟩ (fun E ce q9 L9 f9 H locs hp hw hce hcv hcl => ?_) (fun r9 L9 f9 H locs hp hw => ?_)
  · obtain ⟨⟨j9, hj, hk⟩, rfl, rfl, hs9⟩ := hp
    cases j9 with
    | zero =>
      obtain rfl : "java/lang/IndexOutOfBoundsException" = E := Option.some.inj hj
      refine vx_catch (E := "java/lang/IndexOutOfBoundsException") hown (tableOf []) ⟨0, 12, 15, 13⟩ (tableOf []) htab (fun z hz => (nomatch hz)) rfl (by decide) (hts (.classLink RL 13 "java/lang/IndexOutOfBoundsException") (by decide +kernel)) (va_tabs rfl rfl (hX.2.2.1 "java/lang/IndexOutOfBoundsException" (by decide))) hce hcv hcl ?_
      refine W.eq (g2 := F0 m 15 ls [.ref q9]) rfl ?_
      refine lv_astore (lv' := [(5, .ref q9), (0, .ref h), (1, .int p0), (2, .int p1), (3, .int p2), (4, .ref o)]) hx hb dL_rowPut_15 hl (by decide) rfl (fun ls hl => ?_)
      refine lv_iconst (v := 1) hx hb dL_rowPut_17 (by decide) ?_
      exact z_iret hx hb hr hlocks hw (Nat.le_of_ble_eq_true rfl) (Nat.le_of_ble_eq_true rfl) dL_rowPut_18 ⟨by rw [hk]; rfl, by rw [hs9]; exact hH, ⟨F, ho.2, fun h9 => absurd (hk.symm.trans h9) (by decide)⟩, fun b _ _ => rfl⟩
    | succ j9 =>
      exact absurd hj (by simp)
  obtain ⟨ho0, rfl, hH1, hfr⟩ := hp
  have ho9 : zc L9 f9 o (.inl (g.2 1, 1, .inr (.inl F))) := ⟨zHC_in hH1 hPo, (hfr o hPo).trans ho.2⟩
  refine W.eq (g2 := F0 m 10 ls [.int (o_rowPut σ p0 p1 p2).2.1, .int 0, .ref o]) rfl ?_
  refine lv_i2l (v := ((o_rowPut σ p0 p1 p2).2.1).toInt64) hx hb dL_rowPut_10 rfl ?_
  refine zr_last hx hb hw ho9 (vp_in_iff.mpr (by decide)) dL_rowPut_11 (fun H locs hw => ?_)
  refine lv_goto (tgt := 19) hx hb dL_rowPut_12 (by decide) ?_
  refine lv_iconst (v := 0) hx hb dL_rowPut_19 (by decide) ?_
  exact z_iret hx hb hr hlocks hw (Nat.le_of_ble_eq_true rfl) (Nat.le_of_ble_eq_true rfl) dL_rowPut_20 ⟨by rw [ho0], zHC_fr hH1 (fun b hb => va_up_ne _ _ (show b ≠ o from fun e9 => hb (e9 ▸ hPo))), ⟨_, va_up_self _ _ _, fun _ => (if_pos rfl)⟩, fun b hb hne => (va_up_ne _ _ hne).trans (hfr b hb)⟩

set_option maxRecDepth 100000 in
set_option maxHeartbeats 4000000 in
theorem c_L_allocate (l : Launch) (hl0 : l.stackTraces = false) (g : zG) (L : List Nat) (f : Nat → va_E) (h : Nat) (P : Nat → Prop) (σ : ZS) (p0 : Int32) (p1 : Int32) (p2 : Int32) (o : Nat) (F : Nat → Int64) (hH : zHC g h P σ L f) (ho : zc L f o (.inl (g.2 1, 1, .inr (.inl F)))) (hPo : P o) : zC l yL_allocate wsL_allocate { frames := 9, cells := 4, slots := 82, locals := 149 } 4 82 g [.ref h, .int p0, .int p1, .int p2, .ref o] L f (fun r L1 f1 => some (.int (o_allocate σ p0 p1 p2).1) = r ∧ zHC g h P (o_allocate σ p0 p1 p2).2.2 L1 f1 ∧ (∃ F1 : Nat → Int64, f1 o = .inl (g.2 1, 1, .inr (.inl F1)) ∧ ((o_allocate σ p0 p1 p2).1 = 0 → F1 0 = (if (o_allocate σ p0 p1 p2).2.1 = 0 then 0 else 1))) ∧ ∀ b, P b → b ≠ o → f1 b = f b) zNo := by
  refine z_ofWH (cc := cL_allocate) (maxL := 6) (ret := (some .int)) (hh := [(0, 19, 22, 13), (0, 19, 26, 15)]) (by decide) rfl (Nat.le_of_ble_eq_true rfl) ?_
  intro p e s m args below meth c ls A hx hb hr hts hown hlocks hml htab hw hX hl
  have hl : lv_has ls 6 [(0, .ref h), (1, .int p0), (2, .int p1), (3, .int p2), (4, .ref o)] := hl
  have hown : s.vm.findClass RL = some m.cls := hown
  obtain ⟨fs9, hcb⟩ := zHC_obj hH
  refine lv_aload hx hb dL_allocate_0 (lv_at hl 4 rfl) ?_
  refine lv_iconst (v := 0) hx hb dL_allocate_2 (by decide) ?_
  refine lv_aload_n hx hb dL_allocate_3 rfl (lv_at hl 0 rfl) ?_
  refine lv_iload_n hx hb dL_allocate_4 rfl (lv_at hl 1 rfl) ?_
  refine lv_iload_n hx hb dL_allocate_5 rfl (lv_at hl 2 rfl) ?_
  refine lv_iload_n hx hb dL_allocate_6 rfl (lv_at hl 3 rfl) ?_
  refine z_callV (As := [.int p0, .int p1, .int p2]) (rest := [.int 0, .ref o]) ⟨hx, hb, hml, hown, hts⟩ hw hX hcb rfl (c_X1_allocate l hl0 g L f h P σ p0 p1 p2 hH) (cwV 3 hts gL_allocate_X1_allocate rfl rfl rfl (by decide +kernel) ⟨(Nat.le_of_ble_eq_true rfl), (Nat.le_of_ble_eq_true rfl)⟩) rfl hl.1 rfl (Nat.le_of_ble_eq_true rfl) dL_allocate_7 ⟨(Nat.le_of_ble_eq_true rfl), (Nat.le_of_ble_eq_true rfl)⟩ (fun E ce q9 L9 f9 H locs hp hw hce hcv hcl => ?_) (fun r9 L9 f9 H locs hp hw => ?_)
  · obtain ⟨⟨j9, hj, hk⟩, rfl, rfl, hs9⟩ := hp
    cases j9 with
    | zero =>
      obtain rfl : "java/lang/IndexOutOfBoundsException" = E := Option.some.inj hj
      refine vx_catch (E := "java/lang/IndexOutOfBoundsException") hown (tableOf []) ⟨0, 19, 22, 13⟩ (tableOf [(0, 19, 26, 15)]) htab (fun z hz => (nomatch hz)) rfl (by decide) (hts (.classLink RL 13 "java/lang/IndexOutOfBoundsException") (by decide +kernel)) (va_tabs rfl rfl (hX.2.2.1 "java/lang/IndexOutOfBoundsException" (by decide))) hce hcv hcl ?_
      refine W.eq (g2 := F0 m 22 ls [.ref q9]) rfl ?_
      refine lv_astore (lv' := [(5, .ref q9), (0, .ref h), (1, .int p0), (2, .int p1), (3, .int p2), (4, .ref o)]) hx hb dL_allocate_22 hl (by decide) rfl (fun ls hl => ?_)
      refine lv_iconst (v := 1) hx hb dL_allocate_24 (by decide) ?_
      exact z_iret hx hb hr hlocks hw (Nat.le_of_ble_eq_true rfl) (Nat.le_of_ble_eq_true rfl) dL_allocate_25 ⟨by rw [hk]; rfl, by rw [hs9]; exact hH, ⟨F, ho.2, fun h9 => absurd (hk.symm.trans h9) (by decide)⟩, fun b _ _ => rfl⟩
    | succ j9 =>
      cases j9 with
      | zero =>
        obtain rfl : "java/lang/IllegalArgumentException" = E := Option.some.inj hj
        refine vx_catch (E := "java/lang/IllegalArgumentException") hown (tableOf [(0, 19, 22, 13)]) ⟨0, 19, 26, 15⟩ (tableOf []) htab (fun z hz => ((List.mem_cons.mp hz).elim (fun e9 => by subst e9; exact Or.inr ⟨by decide, "java/lang/IndexOutOfBoundsException", hts (.classLink RL 13 "java/lang/IndexOutOfBoundsException") (by decide +kernel), hX.2.2.2.2.2.2.2.2 ("java/lang/IllegalArgumentException", "java/lang/IndexOutOfBoundsException") (by decide)⟩) (fun hz => (nomatch hz)))) rfl (by decide) (hts (.classLink RL 15 "java/lang/IllegalArgumentException") (by decide +kernel)) (va_tabs rfl rfl (hX.2.2.1 "java/lang/IllegalArgumentException" (by decide))) hce hcv hcl ?_
        refine W.eq (g2 := F0 m 26 ls [.ref q9]) rfl ?_
        refine lv_astore (lv' := [(5, .ref q9), (0, .ref h), (1, .int p0), (2, .int p1), (3, .int p2), (4, .ref o)]) hx hb dL_allocate_26 hl (by decide) rfl (fun ls hl => ?_)
        refine lv_iconst (v := 2) hx hb dL_allocate_28 (by decide) ?_
        exact z_iret hx hb hr hlocks hw (Nat.le_of_ble_eq_true rfl) (Nat.le_of_ble_eq_true rfl) dL_allocate_29 ⟨by rw [hk]; rfl, by rw [hs9]; exact hH, ⟨F, ho.2, fun h9 => absurd (hk.symm.trans h9) (by decide)⟩, fun b _ _ => rfl⟩
      | succ j9 =>
        exact absurd hj (by simp)
  obtain ⟨ho0, rfl, hH1, hfr⟩ := hp
  have ho9 : zc L9 f9 o (.inl (g.2 1, 1, .inr (.inl F))) := ⟨zHC_in hH1 hPo, (hfr o hPo).trans ho.2⟩
  refine W.eq (g2 := F0 m 10 ls [.int (o_allocate σ p0 p1 p2).2.1, .int 0, .ref o]) rfl ?_
  refine lv_if_eq (tgt := 17) hx hb dL_allocate_10 (by decide) (fun c_1 => ?_) (fun c_1 => ?_)
  · refine lv_lconst (v := 0) hx hb dL_allocate_17 (by decide) ?_
    refine zr_last hx hb hw ho9 (vp_in_iff.mpr (by decide)) dL_allocate_18 (fun H locs hw => ?_)
    refine lv_goto (tgt := 30) hx hb dL_allocate_19 (by decide) ?_
    refine lv_iconst (v := 0) hx hb dL_allocate_30 (by decide) ?_
    exact z_iret hx hb hr hlocks hw (Nat.le_of_ble_eq_true rfl) (Nat.le_of_ble_eq_true rfl) dL_allocate_31 ⟨by rw [ho0], zHC_fr hH1 (fun b hb => va_up_ne _ _ (show b ≠ o from fun e9 => hb (e9 ▸ hPo))), ⟨_, va_up_self _ _ _, fun _ => (if_pos rfl : _ = (0 : Int64)).trans (if_pos c_1).symm⟩, fun b hb hne => (va_up_ne _ _ hne).trans (hfr b hb)⟩
  · refine lv_lconst (v := 1) hx hb dL_allocate_13 (by decide) ?_
    refine lv_goto (tgt := 18) hx hb dL_allocate_14 (by decide) ?_
    refine zr_last hx hb hw ho9 (vp_in_iff.mpr (by decide)) dL_allocate_18 (fun H locs hw => ?_)
    refine lv_goto (tgt := 30) hx hb dL_allocate_19 (by decide) ?_
    refine lv_iconst (v := 0) hx hb dL_allocate_30 (by decide) ?_
    exact z_iret hx hb hr hlocks hw (Nat.le_of_ble_eq_true rfl) (Nat.le_of_ble_eq_true rfl) dL_allocate_31 ⟨by rw [ho0], zHC_fr hH1 (fun b hb => va_up_ne _ _ (show b ≠ o from fun e9 => hb (e9 ▸ hPo))), ⟨_, va_up_self _ _ _, fun _ => (if_pos rfl : _ = (1 : Int64)).trans (if_neg c_1).symm⟩, fun b hb hne => (va_up_ne _ _ hne).trans (hfr b hb)⟩

set_option maxRecDepth 100000 in
set_option maxHeartbeats 4000000 in
theorem c_L_wrap (l : Launch) (hl0 : l.stackTraces = false) (g : zG) (L : List Nat) (f : Nat → va_E) (h : Nat) (P : Nat → Prop) (σ : ZS) (p0 : Int32) (p1 : Int32) (o : Nat) (F : Nat → Int64) (hH : zHC g h P σ L f) (ho : zc L f o (.inl (g.2 1, 1, .inr (.inl F)))) (hPo : P o) : zC l yL_wrap wsL_wrap { frames := 9, cells := 2, slots := 12, locals := 148 } 2 12 g [.ref h, .int p0, .int p1, .ref o] L f (fun r L1 f1 => some (.int (o_wrap σ p0 p1).1) = r ∧ zHC g h P (o_wrap σ p0 p1).2.2 L1 f1 ∧ (∃ F1 : Nat → Int64, f1 o = .inl (g.2 1, 1, .inr (.inl F1)) ∧ ((o_wrap σ p0 p1).1 = 0 → F1 0 = (o_wrap σ p0 p1).2.1.toInt64)) ∧ ∀ b, P b → b ≠ o → f1 b = f b) zNo := by
  refine z_ofWH (cc := cL_wrap) (maxL := 5) (ret := (some .int)) (hh := [(0, 10, 13, 13)]) (by decide) rfl (Nat.le_of_ble_eq_true rfl) ?_
  intro p e s m args below meth c ls A hx hb hr hts hown hlocks hml htab hw hX hl
  have hl : lv_has ls 5 [(0, .ref h), (1, .int p0), (2, .int p1), (3, .ref o)] := hl
  have hown : s.vm.findClass RL = some m.cls := hown
  obtain ⟨fs9, hcb⟩ := zHC_obj hH
  refine lv_aload_n hx hb dL_wrap_0 rfl (lv_at hl 3 rfl) ?_
  refine lv_iconst (v := 0) hx hb dL_wrap_1 (by decide) ?_
  refine lv_aload_n hx hb dL_wrap_2 rfl (lv_at hl 0 rfl) ?_
  refine lv_iload_n hx hb dL_wrap_3 rfl (lv_at hl 1 rfl) ?_
  refine lv_iload_n hx hb dL_wrap_4 rfl (lv_at hl 2 rfl) ?_
  refine z_callV (As := [.int p0, .int p1]) (rest := [.int 0, .ref o]) ⟨hx, hb, hml, hown, hts⟩ hw hX hcb rfl (c_X1_wrap l hl0 g L f h P σ p0 p1 hH) (cwV 2 hts gL_wrap_X1_wrap rfl rfl rfl (by decide +kernel) ⟨(Nat.le_of_ble_eq_true rfl), (Nat.le_of_ble_eq_true rfl)⟩) rfl hl.1 rfl (Nat.le_of_ble_eq_true rfl) dL_wrap_5 ⟨(Nat.le_of_ble_eq_true rfl), (Nat.le_of_ble_eq_true rfl)⟩ (fun E ce q9 L9 f9 H locs hp hw hce hcv hcl => ?_) (fun r9 L9 f9 H locs hp hw => ?_)
  · obtain ⟨⟨j9, hj, hk⟩, rfl, rfl, hs9⟩ := hp
    cases j9 with
    | zero =>
      obtain rfl : "java/lang/IndexOutOfBoundsException" = E := Option.some.inj hj
      refine vx_catch (E := "java/lang/IndexOutOfBoundsException") hown (tableOf []) ⟨0, 10, 13, 13⟩ (tableOf []) htab (fun z hz => (nomatch hz)) rfl (by decide) (hts (.classLink RL 13 "java/lang/IndexOutOfBoundsException") (by decide +kernel)) (va_tabs rfl rfl (hX.2.2.1 "java/lang/IndexOutOfBoundsException" (by decide))) hce hcv hcl ?_
      refine W.eq (g2 := F0 m 13 ls [.ref q9]) rfl ?_
      refine lv_astore (lv' := [(4, .ref q9), (0, .ref h), (1, .int p0), (2, .int p1), (3, .ref o)]) hx hb dL_wrap_13 hl (by decide) rfl (fun ls hl => ?_)
      refine lv_iconst (v := 1) hx hb dL_wrap_15 (by decide) ?_
      exact z_iret hx hb hr hlocks hw (Nat.le_of_ble_eq_true rfl) (Nat.le_of_ble_eq_true rfl) dL_wrap_16 ⟨by rw [hk]; rfl, by rw [hs9]; exact hH, ⟨F, ho.2, fun h9 => absurd (hk.symm.trans h9) (by decide)⟩, fun b _ _ => rfl⟩
    | succ j9 =>
      exact absurd hj (by simp)
  obtain ⟨ho0, rfl, hH1, hfr⟩ := hp
  have ho9 : zc L9 f9 o (.inl (g.2 1, 1, .inr (.inl F))) := ⟨zHC_in hH1 hPo, (hfr o hPo).trans ho.2⟩
  refine W.eq (g2 := F0 m 8 ls [.int (o_wrap σ p0 p1).2.1, .int 0, .ref o]) rfl ?_
  refine lv_i2l (v := ((o_wrap σ p0 p1).2.1).toInt64) hx hb dL_wrap_8 rfl ?_
  refine zr_last hx hb hw ho9 (vp_in_iff.mpr (by decide)) dL_wrap_9 (fun H locs hw => ?_)
  refine lv_goto (tgt := 17) hx hb dL_wrap_10 (by decide) ?_
  refine lv_iconst (v := 0) hx hb dL_wrap_17 (by decide) ?_
  exact z_iret hx hb hr hlocks hw (Nat.le_of_ble_eq_true rfl) (Nat.le_of_ble_eq_true rfl) dL_wrap_18 ⟨by rw [ho0], zHC_fr hH1 (fun b hb => va_up_ne _ _ (show b ≠ o from fun e9 => hb (e9 ▸ hPo))), ⟨_, va_up_self _ _ _, fun _ => (if_pos rfl)⟩, fun b hb hne => (va_up_ne _ _ hne).trans (hfr b hb)⟩

set_option maxRecDepth 100000 in
set_option maxHeartbeats 4000000 in
theorem c_L_kind (l : Launch) (hl0 : l.stackTraces = false) (g : zG) (L : List Nat) (f : Nat → va_E) (h : Nat) (P : Nat → Prop) (σ : ZS) (p0 : Int32) (o : Nat) (F : Nat → Int64) (hH : zHC g h P σ L f) (ho : zc L f o (.inl (g.2 1, 1, .inr (.inl F)))) (hPo : P o) : zC l yL_kind wsL_kind { frames := 9, cells := 1, slots := 6, locals := 145 } 1 6 g [.ref h, .int p0, .ref o] L f (fun r L1 f1 => some (.int (o_kind σ p0).1) = r ∧ zHC g h P (o_kind σ p0).2.2 L1 f1 ∧ (∃ F1 : Nat → Int64, f1 o = .inl (g.2 1, 1, .inr (.inl F1)) ∧ ((o_kind σ p0).1 = 0 → F1 0 = (o_kind σ p0).2.1.toInt64)) ∧ ∀ b, P b → b ≠ o → f1 b = f b) zNo := by
  refine z_ofWH (cc := cL_kind) (maxL := 4) (ret := (some .int)) (hh := [(0, 9, 12, 13)]) (by decide) rfl (Nat.le_of_ble_eq_true rfl) ?_
  intro p e s m args below meth c ls A hx hb hr hts hown hlocks hml htab hw hX hl
  have hl : lv_has ls 4 [(0, .ref h), (1, .int p0), (2, .ref o)] := hl
  have hown : s.vm.findClass RL = some m.cls := hown
  obtain ⟨fs9, hcb⟩ := zHC_obj hH
  refine lv_aload_n hx hb dL_kind_0 rfl (lv_at hl 2 rfl) ?_
  refine lv_iconst (v := 0) hx hb dL_kind_1 (by decide) ?_
  refine lv_aload_n hx hb dL_kind_2 rfl (lv_at hl 0 rfl) ?_
  refine lv_iload_n hx hb dL_kind_3 rfl (lv_at hl 1 rfl) ?_
  refine z_callV (As := [.int p0]) (rest := [.int 0, .ref o]) ⟨hx, hb, hml, hown, hts⟩ hw hX hcb rfl (c_X1_kind l hl0 g L f h P σ p0 hH) (cwV 1 hts gL_kind_X1_kind rfl rfl rfl (by decide +kernel) ⟨(Nat.le_of_ble_eq_true rfl), (Nat.le_of_ble_eq_true rfl)⟩) rfl hl.1 rfl (Nat.le_of_ble_eq_true rfl) dL_kind_4 ⟨(Nat.le_of_ble_eq_true rfl), (Nat.le_of_ble_eq_true rfl)⟩ (fun E ce q9 L9 f9 H locs hp hw hce hcv hcl => ?_) (fun r9 L9 f9 H locs hp hw => ?_)
  · obtain ⟨⟨j9, hj, hk⟩, rfl, rfl, hs9⟩ := hp
    cases j9 with
    | zero =>
      obtain rfl : "java/lang/IndexOutOfBoundsException" = E := Option.some.inj hj
      refine vx_catch (E := "java/lang/IndexOutOfBoundsException") hown (tableOf []) ⟨0, 9, 12, 13⟩ (tableOf []) htab (fun z hz => (nomatch hz)) rfl (by decide) (hts (.classLink RL 13 "java/lang/IndexOutOfBoundsException") (by decide +kernel)) (va_tabs rfl rfl (hX.2.2.1 "java/lang/IndexOutOfBoundsException" (by decide))) hce hcv hcl ?_
      refine W.eq (g2 := F0 m 12 ls [.ref q9]) rfl ?_
      refine lv_astore_n (lv' := [(3, .ref q9), (0, .ref h), (1, .int p0), (2, .ref o)]) hx hb dL_kind_12 rfl hl (by decide) rfl (fun ls hl => ?_)
      refine lv_iconst (v := 1) hx hb dL_kind_13 (by decide) ?_
      exact z_iret hx hb hr hlocks hw (Nat.le_of_ble_eq_true rfl) (Nat.le_of_ble_eq_true rfl) dL_kind_14 ⟨by rw [hk]; rfl, by rw [hs9]; exact hH, ⟨F, ho.2, fun h9 => absurd (hk.symm.trans h9) (by decide)⟩, fun b _ _ => rfl⟩
    | succ j9 =>
      exact absurd hj (by simp)
  obtain ⟨ho0, rfl, hH1, hfr⟩ := hp
  have ho9 : zc L9 f9 o (.inl (g.2 1, 1, .inr (.inl F))) := ⟨zHC_in hH1 hPo, (hfr o hPo).trans ho.2⟩
  refine W.eq (g2 := F0 m 7 ls [.int (o_kind σ p0).2.1, .int 0, .ref o]) rfl ?_
  refine lv_i2l (v := ((o_kind σ p0).2.1).toInt64) hx hb dL_kind_7 rfl ?_
  refine zr_last hx hb hw ho9 (vp_in_iff.mpr (by decide)) dL_kind_8 (fun H locs hw => ?_)
  refine lv_goto (tgt := 15) hx hb dL_kind_9 (by decide) ?_
  refine lv_iconst (v := 0) hx hb dL_kind_15 (by decide) ?_
  exact z_iret hx hb hr hlocks hw (Nat.le_of_ble_eq_true rfl) (Nat.le_of_ble_eq_true rfl) dL_kind_16 ⟨by rw [ho0], zHC_fr hH1 (fun b hb => va_up_ne _ _ (show b ≠ o from fun e9 => hb (e9 ▸ hPo))), ⟨_, va_up_self _ _ _, fun _ => (if_pos rfl)⟩, fun b hb hne => (va_up_ne _ _ hne).trans (hfr b hb)⟩

set_option maxRecDepth 100000 in
set_option maxHeartbeats 4000000 in
theorem c_L_capacity (l : Launch) (hl0 : l.stackTraces = false) (g : zG) (L : List Nat) (f : Nat → va_E) (h : Nat) (P : Nat → Prop) (σ : ZS) (p0 : Int32) (o : Nat) (F : Nat → Int64) (hH : zHC g h P σ L f) (ho : zc L f o (.inl (g.2 1, 1, .inr (.inl F)))) (hPo : P o) : zC l yL_capacity wsL_capacity { frames := 10, cells := 2, slots := 12, locals := 167 } 2 12 g [.ref h, .int p0, .ref o] L f (fun r L1 f1 => some (.int (o_capacity σ p0).1) = r ∧ zHC g h P (o_capacity σ p0).2.2 L1 f1 ∧ (∃ F1 : Nat → Int64, f1 o = .inl (g.2 1, 1, .inr (.inl F1)) ∧ ((o_capacity σ p0).1 = 0 → F1 0 = (o_capacity σ p0).2.1.toInt64)) ∧ ∀ b, P b → b ≠ o → f1 b = f b) zNo := by
  refine z_ofWH (cc := cL_capacity) (maxL := 4) (ret := (some .int)) (hh := [(0, 9, 12, 13)]) (by decide) rfl (Nat.le_of_ble_eq_true rfl) ?_
  intro p e s m args below meth c ls A hx hb hr hts hown hlocks hml htab hw hX hl
  have hl : lv_has ls 4 [(0, .ref h), (1, .int p0), (2, .ref o)] := hl
  have hown : s.vm.findClass RL = some m.cls := hown
  obtain ⟨fs9, hcb⟩ := zHC_obj hH
  refine lv_aload_n hx hb dL_capacity_0 rfl (lv_at hl 2 rfl) ?_
  refine lv_iconst (v := 0) hx hb dL_capacity_1 (by decide) ?_
  refine lv_aload_n hx hb dL_capacity_2 rfl (lv_at hl 0 rfl) ?_
  refine lv_iload_n hx hb dL_capacity_3 rfl (lv_at hl 1 rfl) ?_
  refine z_callV (As := [.int p0]) (rest := [.int 0, .ref o]) ⟨hx, hb, hml, hown, hts⟩ hw hX hcb rfl (c_X1_capacity l hl0 g L f h P σ p0 hH) (cwV 1 hts gL_capacity_X1_capacity rfl rfl rfl (by decide +kernel) ⟨(Nat.le_of_ble_eq_true rfl), (Nat.le_of_ble_eq_true rfl)⟩) rfl hl.1 rfl (Nat.le_of_ble_eq_true rfl) dL_capacity_4 ⟨(Nat.le_of_ble_eq_true rfl), (Nat.le_of_ble_eq_true rfl)⟩ (fun E ce q9 L9 f9 H locs hp hw hce hcv hcl => ?_) (fun r9 L9 f9 H locs hp hw => ?_)
  · obtain ⟨⟨j9, hj, hk⟩, rfl, rfl, hs9⟩ := hp
    cases j9 with
    | zero =>
      obtain rfl : "java/lang/IndexOutOfBoundsException" = E := Option.some.inj hj
      refine vx_catch (E := "java/lang/IndexOutOfBoundsException") hown (tableOf []) ⟨0, 9, 12, 13⟩ (tableOf []) htab (fun z hz => (nomatch hz)) rfl (by decide) (hts (.classLink RL 13 "java/lang/IndexOutOfBoundsException") (by decide +kernel)) (va_tabs rfl rfl (hX.2.2.1 "java/lang/IndexOutOfBoundsException" (by decide))) hce hcv hcl ?_
      refine W.eq (g2 := F0 m 12 ls [.ref q9]) rfl ?_
      refine lv_astore_n (lv' := [(3, .ref q9), (0, .ref h), (1, .int p0), (2, .ref o)]) hx hb dL_capacity_12 rfl hl (by decide) rfl (fun ls hl => ?_)
      refine lv_iconst (v := 1) hx hb dL_capacity_13 (by decide) ?_
      exact z_iret hx hb hr hlocks hw (Nat.le_of_ble_eq_true rfl) (Nat.le_of_ble_eq_true rfl) dL_capacity_14 ⟨by rw [hk]; rfl, by rw [hs9]; exact hH, ⟨F, ho.2, fun h9 => absurd (hk.symm.trans h9) (by decide)⟩, fun b _ _ => rfl⟩
    | succ j9 =>
      exact absurd hj (by simp)
  obtain ⟨ho0, rfl, hH1, hfr⟩ := hp
  have ho9 : zc L9 f9 o (.inl (g.2 1, 1, .inr (.inl F))) := ⟨zHC_in hH1 hPo, (hfr o hPo).trans ho.2⟩
  refine W.eq (g2 := F0 m 7 ls [.int (o_capacity σ p0).2.1, .int 0, .ref o]) rfl ?_
  refine lv_i2l (v := ((o_capacity σ p0).2.1).toInt64) hx hb dL_capacity_7 rfl ?_
  refine zr_last hx hb hw ho9 (vp_in_iff.mpr (by decide)) dL_capacity_8 (fun H locs hw => ?_)
  refine lv_goto (tgt := 15) hx hb dL_capacity_9 (by decide) ?_
  refine lv_iconst (v := 0) hx hb dL_capacity_15 (by decide) ?_
  exact z_iret hx hb hr hlocks hw (Nat.le_of_ble_eq_true rfl) (Nat.le_of_ble_eq_true rfl) dL_capacity_16 ⟨by rw [ho0], zHC_fr hH1 (fun b hb => va_up_ne _ _ (show b ≠ o from fun e9 => hb (e9 ▸ hPo))), ⟨_, va_up_self _ _ _, fun _ => (if_pos rfl)⟩, fun b hb hne => (va_up_ne _ _ hne).trans (hfr b hb)⟩

set_option maxRecDepth 100000 in
set_option maxHeartbeats 4000000 in
theorem c_L_place (l : Launch) (hl0 : l.stackTraces = false) (g : zG) (L : List Nat) (f : Nat → va_E) (h : Nat) (P : Nat → Prop) (σ : ZS) (p0 : Int32) (o : Nat) (F : Nat → Int64) (hH : zHC g h P σ L f) (ho : zc L f o (.inl (g.2 1, 1, .inr (.inl F)))) (hPo : P o) : zC l yL_place wsL_place { frames := 10, cells := 2, slots := 12, locals := 167 } 2 12 g [.ref h, .int p0, .ref o] L f (fun r L1 f1 => some (.int (o_place σ p0).1) = r ∧ zHC g h P (o_place σ p0).2.2 L1 f1 ∧ (∃ F1 : Nat → Int64, f1 o = .inl (g.2 1, 1, .inr (.inl F1)) ∧ ((o_place σ p0).1 = 0 → F1 0 = (o_place σ p0).2.1.toInt64)) ∧ ∀ b, P b → b ≠ o → f1 b = f b) zNo := by
  refine z_ofWH (cc := cL_place) (maxL := 4) (ret := (some .int)) (hh := [(0, 9, 12, 13)]) (by decide) rfl (Nat.le_of_ble_eq_true rfl) ?_
  intro p e s m args below meth c ls A hx hb hr hts hown hlocks hml htab hw hX hl
  have hl : lv_has ls 4 [(0, .ref h), (1, .int p0), (2, .ref o)] := hl
  have hown : s.vm.findClass RL = some m.cls := hown
  obtain ⟨fs9, hcb⟩ := zHC_obj hH
  refine lv_aload_n hx hb dL_place_0 rfl (lv_at hl 2 rfl) ?_
  refine lv_iconst (v := 0) hx hb dL_place_1 (by decide) ?_
  refine lv_aload_n hx hb dL_place_2 rfl (lv_at hl 0 rfl) ?_
  refine lv_iload_n hx hb dL_place_3 rfl (lv_at hl 1 rfl) ?_
  refine z_callV (As := [.int p0]) (rest := [.int 0, .ref o]) ⟨hx, hb, hml, hown, hts⟩ hw hX hcb rfl (c_X1_place l hl0 g L f h P σ p0 hH) (cwV 1 hts gL_place_X1_place rfl rfl rfl (by decide +kernel) ⟨(Nat.le_of_ble_eq_true rfl), (Nat.le_of_ble_eq_true rfl)⟩) rfl hl.1 rfl (Nat.le_of_ble_eq_true rfl) dL_place_4 ⟨(Nat.le_of_ble_eq_true rfl), (Nat.le_of_ble_eq_true rfl)⟩ (fun E ce q9 L9 f9 H locs hp hw hce hcv hcl => ?_) (fun r9 L9 f9 H locs hp hw => ?_)
  · obtain ⟨⟨j9, hj, hk⟩, rfl, rfl, hs9⟩ := hp
    cases j9 with
    | zero =>
      obtain rfl : "java/lang/IndexOutOfBoundsException" = E := Option.some.inj hj
      refine vx_catch (E := "java/lang/IndexOutOfBoundsException") hown (tableOf []) ⟨0, 9, 12, 13⟩ (tableOf []) htab (fun z hz => (nomatch hz)) rfl (by decide) (hts (.classLink RL 13 "java/lang/IndexOutOfBoundsException") (by decide +kernel)) (va_tabs rfl rfl (hX.2.2.1 "java/lang/IndexOutOfBoundsException" (by decide))) hce hcv hcl ?_
      refine W.eq (g2 := F0 m 12 ls [.ref q9]) rfl ?_
      refine lv_astore_n (lv' := [(3, .ref q9), (0, .ref h), (1, .int p0), (2, .ref o)]) hx hb dL_place_12 rfl hl (by decide) rfl (fun ls hl => ?_)
      refine lv_iconst (v := 1) hx hb dL_place_13 (by decide) ?_
      exact z_iret hx hb hr hlocks hw (Nat.le_of_ble_eq_true rfl) (Nat.le_of_ble_eq_true rfl) dL_place_14 ⟨by rw [hk]; rfl, by rw [hs9]; exact hH, ⟨F, ho.2, fun h9 => absurd (hk.symm.trans h9) (by decide)⟩, fun b _ _ => rfl⟩
    | succ j9 =>
      exact absurd hj (by simp)
  obtain ⟨ho0, rfl, hH1, hfr⟩ := hp
  have ho9 : zc L9 f9 o (.inl (g.2 1, 1, .inr (.inl F))) := ⟨zHC_in hH1 hPo, (hfr o hPo).trans ho.2⟩
  refine W.eq (g2 := F0 m 7 ls [.int (o_place σ p0).2.1, .int 0, .ref o]) rfl ?_
  refine lv_i2l (v := ((o_place σ p0).2.1).toInt64) hx hb dL_place_7 rfl ?_
  refine zr_last hx hb hw ho9 (vp_in_iff.mpr (by decide)) dL_place_8 (fun H locs hw => ?_)
  refine lv_goto (tgt := 15) hx hb dL_place_9 (by decide) ?_
  refine lv_iconst (v := 0) hx hb dL_place_15 (by decide) ?_
  exact z_iret hx hb hr hlocks hw (Nat.le_of_ble_eq_true rfl) (Nat.le_of_ble_eq_true rfl) dL_place_16 ⟨by rw [ho0], zHC_fr hH1 (fun b hb => va_up_ne _ _ (show b ≠ o from fun e9 => hb (e9 ▸ hPo))), ⟨_, va_up_self _ _ _, fun _ => (if_pos rfl)⟩, fun b hb hne => (va_up_ne _ _ hne).trans (hfr b hb)⟩

set_option maxRecDepth 100000 in
set_option maxHeartbeats 4000000 in
theorem c_L_end (l : Launch) (hl0 : l.stackTraces = false) (g : zG) (L : List Nat) (f : Nat → va_E) (h : Nat) (P : Nat → Prop) (σ : ZS) (p0 : Int32) (o : Nat) (F : Nat → Int64) (hH : zHC g h P σ L f) (ho : zc L f o (.inl (g.2 1, 1, .inr (.inl F)))) (hPo : P o) : zC l yL_end wsL_end { frames := 10, cells := 2, slots := 12, locals := 167 } 2 12 g [.ref h, .int p0, .ref o] L f (fun r L1 f1 => some (.int (o_end σ p0).1) = r ∧ zHC g h P (o_end σ p0).2.2 L1 f1 ∧ (∃ F1 : Nat → Int64, f1 o = .inl (g.2 1, 1, .inr (.inl F1)) ∧ ((o_end σ p0).1 = 0 → F1 0 = (o_end σ p0).2.1.toInt64)) ∧ ∀ b, P b → b ≠ o → f1 b = f b) zNo := by
  refine z_ofWH (cc := cL_end) (maxL := 4) (ret := (some .int)) (hh := [(0, 9, 12, 13)]) (by decide) rfl (Nat.le_of_ble_eq_true rfl) ?_
  intro p e s m args below meth c ls A hx hb hr hts hown hlocks hml htab hw hX hl
  have hl : lv_has ls 4 [(0, .ref h), (1, .int p0), (2, .ref o)] := hl
  have hown : s.vm.findClass RL = some m.cls := hown
  obtain ⟨fs9, hcb⟩ := zHC_obj hH
  refine lv_aload_n hx hb dL_end_0 rfl (lv_at hl 2 rfl) ?_
  refine lv_iconst (v := 0) hx hb dL_end_1 (by decide) ?_
  refine lv_aload_n hx hb dL_end_2 rfl (lv_at hl 0 rfl) ?_
  refine lv_iload_n hx hb dL_end_3 rfl (lv_at hl 1 rfl) ?_
  refine z_callV (As := [.int p0]) (rest := [.int 0, .ref o]) ⟨hx, hb, hml, hown, hts⟩ hw hX hcb rfl (c_X1_end l hl0 g L f h P σ p0 hH) (cwV 1 hts gL_end_X1_end rfl rfl rfl (by decide +kernel) ⟨(Nat.le_of_ble_eq_true rfl), (Nat.le_of_ble_eq_true rfl)⟩) rfl hl.1 rfl (Nat.le_of_ble_eq_true rfl) dL_end_4 ⟨(Nat.le_of_ble_eq_true rfl), (Nat.le_of_ble_eq_true rfl)⟩ (fun E ce q9 L9 f9 H locs hp hw hce hcv hcl => ?_) (fun r9 L9 f9 H locs hp hw => ?_)
  · obtain ⟨⟨j9, hj, hk⟩, rfl, rfl, hs9⟩ := hp
    cases j9 with
    | zero =>
      obtain rfl : "java/lang/IndexOutOfBoundsException" = E := Option.some.inj hj
      refine vx_catch (E := "java/lang/IndexOutOfBoundsException") hown (tableOf []) ⟨0, 9, 12, 13⟩ (tableOf []) htab (fun z hz => (nomatch hz)) rfl (by decide) (hts (.classLink RL 13 "java/lang/IndexOutOfBoundsException") (by decide +kernel)) (va_tabs rfl rfl (hX.2.2.1 "java/lang/IndexOutOfBoundsException" (by decide))) hce hcv hcl ?_
      refine W.eq (g2 := F0 m 12 ls [.ref q9]) rfl ?_
      refine lv_astore_n (lv' := [(3, .ref q9), (0, .ref h), (1, .int p0), (2, .ref o)]) hx hb dL_end_12 rfl hl (by decide) rfl (fun ls hl => ?_)
      refine lv_iconst (v := 1) hx hb dL_end_13 (by decide) ?_
      exact z_iret hx hb hr hlocks hw (Nat.le_of_ble_eq_true rfl) (Nat.le_of_ble_eq_true rfl) dL_end_14 ⟨by rw [hk]; rfl, by rw [hs9]; exact hH, ⟨F, ho.2, fun h9 => absurd (hk.symm.trans h9) (by decide)⟩, fun b _ _ => rfl⟩
    | succ j9 =>
      exact absurd hj (by simp)
  obtain ⟨ho0, rfl, hH1, hfr⟩ := hp
  have ho9 : zc L9 f9 o (.inl (g.2 1, 1, .inr (.inl F))) := ⟨zHC_in hH1 hPo, (hfr o hPo).trans ho.2⟩
  refine W.eq (g2 := F0 m 7 ls [.int (o_end σ p0).2.1, .int 0, .ref o]) rfl ?_
  refine lv_i2l (v := ((o_end σ p0).2.1).toInt64) hx hb dL_end_7 rfl ?_
  refine zr_last hx hb hw ho9 (vp_in_iff.mpr (by decide)) dL_end_8 (fun H locs hw => ?_)
  refine lv_goto (tgt := 15) hx hb dL_end_9 (by decide) ?_
  refine lv_iconst (v := 0) hx hb dL_end_15 (by decide) ?_
  exact z_iret hx hb hr hlocks hw (Nat.le_of_ble_eq_true rfl) (Nat.le_of_ble_eq_true rfl) dL_end_16 ⟨by rw [ho0], zHC_fr hH1 (fun b hb => va_up_ne _ _ (show b ≠ o from fun e9 => hb (e9 ▸ hPo))), ⟨_, va_up_self _ _ _, fun _ => (if_pos rfl)⟩, fun b hb hne => (va_up_ne _ _ hne).trans (hfr b hb)⟩

set_option maxRecDepth 100000 in
set_option maxHeartbeats 4000000 in
theorem c_L_left (l : Launch) (hl0 : l.stackTraces = false) (g : zG) (L : List Nat) (f : Nat → va_E) (h : Nat) (P : Nat → Prop) (σ : ZS) (p0 : Int32) (o : Nat) (F : Nat → Int64) (hH : zHC g h P σ L f) (ho : zc L f o (.inl (g.2 1, 1, .inr (.inl F)))) (hPo : P o) : zC l yL_left wsL_left { frames := 10, cells := 2, slots := 12, locals := 167 } 2 12 g [.ref h, .int p0, .ref o] L f (fun r L1 f1 => some (.int (o_left σ p0).1) = r ∧ zHC g h P (o_left σ p0).2.2 L1 f1 ∧ (∃ F1 : Nat → Int64, f1 o = .inl (g.2 1, 1, .inr (.inl F1)) ∧ ((o_left σ p0).1 = 0 → F1 0 = (o_left σ p0).2.1.toInt64)) ∧ ∀ b, P b → b ≠ o → f1 b = f b) zNo := by
  refine z_ofWH (cc := cL_left) (maxL := 4) (ret := (some .int)) (hh := [(0, 9, 12, 13)]) (by decide) rfl (Nat.le_of_ble_eq_true rfl) ?_
  intro p e s m args below meth c ls A hx hb hr hts hown hlocks hml htab hw hX hl
  have hl : lv_has ls 4 [(0, .ref h), (1, .int p0), (2, .ref o)] := hl
  have hown : s.vm.findClass RL = some m.cls := hown
  obtain ⟨fs9, hcb⟩ := zHC_obj hH
  refine lv_aload_n hx hb dL_left_0 rfl (lv_at hl 2 rfl) ?_
  refine lv_iconst (v := 0) hx hb dL_left_1 (by decide) ?_
  refine lv_aload_n hx hb dL_left_2 rfl (lv_at hl 0 rfl) ?_
  refine lv_iload_n hx hb dL_left_3 rfl (lv_at hl 1 rfl) ?_
  refine z_callV (As := [.int p0]) (rest := [.int 0, .ref o]) ⟨hx, hb, hml, hown, hts⟩ hw hX hcb rfl (c_X1_left l hl0 g L f h P σ p0 hH) (cwV 1 hts gL_left_X1_left rfl rfl rfl (by decide +kernel) ⟨(Nat.le_of_ble_eq_true rfl), (Nat.le_of_ble_eq_true rfl)⟩) rfl hl.1 rfl (Nat.le_of_ble_eq_true rfl) dL_left_4 ⟨(Nat.le_of_ble_eq_true rfl), (Nat.le_of_ble_eq_true rfl)⟩ (fun E ce q9 L9 f9 H locs hp hw hce hcv hcl => ?_) (fun r9 L9 f9 H locs hp hw => ?_)
  · obtain ⟨⟨j9, hj, hk⟩, rfl, rfl, hs9⟩ := hp
    cases j9 with
    | zero =>
      obtain rfl : "java/lang/IndexOutOfBoundsException" = E := Option.some.inj hj
      refine vx_catch (E := "java/lang/IndexOutOfBoundsException") hown (tableOf []) ⟨0, 9, 12, 13⟩ (tableOf []) htab (fun z hz => (nomatch hz)) rfl (by decide) (hts (.classLink RL 13 "java/lang/IndexOutOfBoundsException") (by decide +kernel)) (va_tabs rfl rfl (hX.2.2.1 "java/lang/IndexOutOfBoundsException" (by decide))) hce hcv hcl ?_
      refine W.eq (g2 := F0 m 12 ls [.ref q9]) rfl ?_
      refine lv_astore_n (lv' := [(3, .ref q9), (0, .ref h), (1, .int p0), (2, .ref o)]) hx hb dL_left_12 rfl hl (by decide) rfl (fun ls hl => ?_)
      refine lv_iconst (v := 1) hx hb dL_left_13 (by decide) ?_
      exact z_iret hx hb hr hlocks hw (Nat.le_of_ble_eq_true rfl) (Nat.le_of_ble_eq_true rfl) dL_left_14 ⟨by rw [hk]; rfl, by rw [hs9]; exact hH, ⟨F, ho.2, fun h9 => absurd (hk.symm.trans h9) (by decide)⟩, fun b _ _ => rfl⟩
    | succ j9 =>
      exact absurd hj (by simp)
  obtain ⟨ho0, rfl, hH1, hfr⟩ := hp
  have ho9 : zc L9 f9 o (.inl (g.2 1, 1, .inr (.inl F))) := ⟨zHC_in hH1 hPo, (hfr o hPo).trans ho.2⟩
  refine W.eq (g2 := F0 m 7 ls [.int (o_left σ p0).2.1, .int 0, .ref o]) rfl ?_
  refine lv_i2l (v := ((o_left σ p0).2.1).toInt64) hx hb dL_left_7 rfl ?_
  refine zr_last hx hb hw ho9 (vp_in_iff.mpr (by decide)) dL_left_8 (fun H locs hw => ?_)
  refine lv_goto (tgt := 15) hx hb dL_left_9 (by decide) ?_
  refine lv_iconst (v := 0) hx hb dL_left_15 (by decide) ?_
  exact z_iret hx hb hr hlocks hw (Nat.le_of_ble_eq_true rfl) (Nat.le_of_ble_eq_true rfl) dL_left_16 ⟨by rw [ho0], zHC_fr hH1 (fun b hb => va_up_ne _ _ (show b ≠ o from fun e9 => hb (e9 ▸ hPo))), ⟨_, va_up_self _ _ _, fun _ => (if_pos rfl)⟩, fun b hb hne => (va_up_ne _ _ hne).trans (hfr b hb)⟩

set_option maxRecDepth 100000 in
set_option maxHeartbeats 4000000 in
theorem c_L_hasLeft (l : Launch) (hl0 : l.stackTraces = false) (g : zG) (L : List Nat) (f : Nat → va_E) (h : Nat) (P : Nat → Prop) (σ : ZS) (p0 : Int32) (o : Nat) (F : Nat → Int64) (hH : zHC g h P σ L f) (ho : zc L f o (.inl (g.2 1, 1, .inr (.inl F)))) (hPo : P o) : zC l yL_hasLeft wsL_hasLeft { frames := 10, cells := 2, slots := 12, locals := 167 } 2 12 g [.ref h, .int p0, .ref o] L f (fun r L1 f1 => some (.int (o_hasLeft σ p0).1) = r ∧ zHC g h P (o_hasLeft σ p0).2.2 L1 f1 ∧ (∃ F1 : Nat → Int64, f1 o = .inl (g.2 1, 1, .inr (.inl F1)) ∧ ((o_hasLeft σ p0).1 = 0 → F1 0 = (if (o_hasLeft σ p0).2.1 = 0 then 0 else 1))) ∧ ∀ b, P b → b ≠ o → f1 b = f b) zNo := by
  refine z_ofWH (cc := cL_hasLeft) (maxL := 4) (ret := (some .int)) (hh := [(0, 16, 19, 13)]) (by decide) rfl (Nat.le_of_ble_eq_true rfl) ?_
  intro p e s m args below meth c ls A hx hb hr hts hown hlocks hml htab hw hX hl
  have hl : lv_has ls 4 [(0, .ref h), (1, .int p0), (2, .ref o)] := hl
  have hown : s.vm.findClass RL = some m.cls := hown
  obtain ⟨fs9, hcb⟩ := zHC_obj hH
  refine lv_aload_n hx hb dL_hasLeft_0 rfl (lv_at hl 2 rfl) ?_
  refine lv_iconst (v := 0) hx hb dL_hasLeft_1 (by decide) ?_
  refine lv_aload_n hx hb dL_hasLeft_2 rfl (lv_at hl 0 rfl) ?_
  refine lv_iload_n hx hb dL_hasLeft_3 rfl (lv_at hl 1 rfl) ?_
  refine z_callV (As := [.int p0]) (rest := [.int 0, .ref o]) ⟨hx, hb, hml, hown, hts⟩ hw hX hcb rfl (c_X1_hasLeft l hl0 g L f h P σ p0 hH) (cwV 1 hts gL_hasLeft_X1_hasLeft rfl rfl rfl (by decide +kernel) ⟨(Nat.le_of_ble_eq_true rfl), (Nat.le_of_ble_eq_true rfl)⟩) rfl hl.1 rfl (Nat.le_of_ble_eq_true rfl) dL_hasLeft_4 ⟨(Nat.le_of_ble_eq_true rfl), (Nat.le_of_ble_eq_true rfl)⟩ (fun E ce q9 L9 f9 H locs hp hw hce hcv hcl => ?_) (fun r9 L9 f9 H locs hp hw => ?_)
  · obtain ⟨⟨j9, hj, hk⟩, rfl, rfl, hs9⟩ := hp
    cases j9 with
    | zero =>
      obtain rfl : "java/lang/IndexOutOfBoundsException" = E := Option.some.inj hj
      refine vx_catch (E := "java/lang/IndexOutOfBoundsException") hown (tableOf []) ⟨0, 16, 19, 13⟩ (tableOf []) htab (fun z hz => (nomatch hz)) rfl (by decide) (hts (.classLink RL 13 "java/lang/IndexOutOfBoundsException") (by decide +kernel)) (va_tabs rfl rfl (hX.2.2.1 "java/lang/IndexOutOfBoundsException" (by decide))) hce hcv hcl ?_
      refine W.eq (g2 := F0 m 19 ls [.ref q9]) rfl ?_
      refine lv_astore_n (lv' := [(3, .ref q9), (0, .ref h), (1, .int p0), (2, .ref o)]) hx hb dL_hasLeft_19 rfl hl (by decide) rfl (fun ls hl => ?_)
      refine lv_iconst (v := 1) hx hb dL_hasLeft_20 (by decide) ?_
      exact z_iret hx hb hr hlocks hw (Nat.le_of_ble_eq_true rfl) (Nat.le_of_ble_eq_true rfl) dL_hasLeft_21 ⟨by rw [hk]; rfl, by rw [hs9]; exact hH, ⟨F, ho.2, fun h9 => absurd (hk.symm.trans h9) (by decide)⟩, fun b _ _ => rfl⟩
    | succ j9 =>
      exact absurd hj (by simp)
  obtain ⟨ho0, rfl, hH1, hfr⟩ := hp
  have ho9 : zc L9 f9 o (.inl (g.2 1, 1, .inr (.inl F))) := ⟨zHC_in hH1 hPo, (hfr o hPo).trans ho.2⟩
  refine W.eq (g2 := F0 m 7 ls [.int (o_hasLeft σ p0).2.1, .int 0, .ref o]) rfl ?_
  refine lv_if_eq (tgt := 14) hx hb dL_hasLeft_7 (by decide) (fun c_1 => ?_) (fun c_1 => ?_)
  · refine lv_lconst (v := 0) hx hb dL_hasLeft_14 (by decide) ?_
    refine zr_last hx hb hw ho9 (vp_in_iff.mpr (by decide)) dL_hasLeft_15 (fun H locs hw => ?_)
    refine lv_goto (tgt := 22) hx hb dL_hasLeft_16 (by decide) ?_
    refine lv_iconst (v := 0) hx hb dL_hasLeft_22 (by decide) ?_
    exact z_iret hx hb hr hlocks hw (Nat.le_of_ble_eq_true rfl) (Nat.le_of_ble_eq_true rfl) dL_hasLeft_23 ⟨by rw [ho0], zHC_fr hH1 (fun b hb => va_up_ne _ _ (show b ≠ o from fun e9 => hb (e9 ▸ hPo))), ⟨_, va_up_self _ _ _, fun _ => (if_pos rfl : _ = (0 : Int64)).trans (if_pos c_1).symm⟩, fun b hb hne => (va_up_ne _ _ hne).trans (hfr b hb)⟩
  · refine lv_lconst (v := 1) hx hb dL_hasLeft_10 (by decide) ?_
    refine lv_goto (tgt := 15) hx hb dL_hasLeft_11 (by decide) ?_
    refine zr_last hx hb hw ho9 (vp_in_iff.mpr (by decide)) dL_hasLeft_15 (fun H locs hw => ?_)
    refine lv_goto (tgt := 22) hx hb dL_hasLeft_16 (by decide) ?_
    refine lv_iconst (v := 0) hx hb dL_hasLeft_22 (by decide) ?_
    exact z_iret hx hb hr hlocks hw (Nat.le_of_ble_eq_true rfl) (Nat.le_of_ble_eq_true rfl) dL_hasLeft_23 ⟨by rw [ho0], zHC_fr hH1 (fun b hb => va_up_ne _ _ (show b ≠ o from fun e9 => hb (e9 ▸ hPo))), ⟨_, va_up_self _ _ _, fun _ => (if_pos rfl : _ = (1 : Int64)).trans (if_neg c_1).symm⟩, fun b hb hne => (va_up_ne _ _ hne).trans (hfr b hb)⟩

set_option maxRecDepth 100000 in
set_option maxHeartbeats 4000000 in
theorem c_L_isReadOnly (l : Launch) (hl0 : l.stackTraces = false) (g : zG) (L : List Nat) (f : Nat → va_E) (h : Nat) (P : Nat → Prop) (σ : ZS) (p0 : Int32) (o : Nat) (F : Nat → Int64) (hH : zHC g h P σ L f) (ho : zc L f o (.inl (g.2 1, 1, .inr (.inl F)))) (hPo : P o) : zC l yL_isReadOnly wsL_isReadOnly { frames := 10, cells := 2, slots := 12, locals := 167 } 2 12 g [.ref h, .int p0, .ref o] L f (fun r L1 f1 => some (.int (o_isReadOnly σ p0).1) = r ∧ zHC g h P (o_isReadOnly σ p0).2.2 L1 f1 ∧ (∃ F1 : Nat → Int64, f1 o = .inl (g.2 1, 1, .inr (.inl F1)) ∧ ((o_isReadOnly σ p0).1 = 0 → F1 0 = (if (o_isReadOnly σ p0).2.1 = 0 then 0 else 1))) ∧ ∀ b, P b → b ≠ o → f1 b = f b) zNo := by
  refine z_ofWH (cc := cL_isReadOnly) (maxL := 4) (ret := (some .int)) (hh := [(0, 16, 19, 13)]) (by decide) rfl (Nat.le_of_ble_eq_true rfl) ?_
  intro p e s m args below meth c ls A hx hb hr hts hown hlocks hml htab hw hX hl
  have hl : lv_has ls 4 [(0, .ref h), (1, .int p0), (2, .ref o)] := hl
  have hown : s.vm.findClass RL = some m.cls := hown
  obtain ⟨fs9, hcb⟩ := zHC_obj hH
  refine lv_aload_n hx hb dL_isReadOnly_0 rfl (lv_at hl 2 rfl) ?_
  refine lv_iconst (v := 0) hx hb dL_isReadOnly_1 (by decide) ?_
  refine lv_aload_n hx hb dL_isReadOnly_2 rfl (lv_at hl 0 rfl) ?_
  refine lv_iload_n hx hb dL_isReadOnly_3 rfl (lv_at hl 1 rfl) ?_
  refine z_callV (As := [.int p0]) (rest := [.int 0, .ref o]) ⟨hx, hb, hml, hown, hts⟩ hw hX hcb rfl (c_X1_isReadOnly l hl0 g L f h P σ p0 hH) (cwV 1 hts gL_isReadOnly_X1_isReadOnly rfl rfl rfl (by decide +kernel) ⟨(Nat.le_of_ble_eq_true rfl), (Nat.le_of_ble_eq_true rfl)⟩) rfl hl.1 rfl (Nat.le_of_ble_eq_true rfl) dL_isReadOnly_4 ⟨(Nat.le_of_ble_eq_true rfl), (Nat.le_of_ble_eq_true rfl)⟩ (fun E ce q9 L9 f9 H locs hp hw hce hcv hcl => ?_) (fun r9 L9 f9 H locs hp hw => ?_)
  · obtain ⟨⟨j9, hj, hk⟩, rfl, rfl, hs9⟩ := hp
    cases j9 with
    | zero =>
      obtain rfl : "java/lang/IndexOutOfBoundsException" = E := Option.some.inj hj
      refine vx_catch (E := "java/lang/IndexOutOfBoundsException") hown (tableOf []) ⟨0, 16, 19, 13⟩ (tableOf []) htab (fun z hz => (nomatch hz)) rfl (by decide) (hts (.classLink RL 13 "java/lang/IndexOutOfBoundsException") (by decide +kernel)) (va_tabs rfl rfl (hX.2.2.1 "java/lang/IndexOutOfBoundsException" (by decide))) hce hcv hcl ?_
      refine W.eq (g2 := F0 m 19 ls [.ref q9]) rfl ?_
      refine lv_astore_n (lv' := [(3, .ref q9), (0, .ref h), (1, .int p0), (2, .ref o)]) hx hb dL_isReadOnly_19 rfl hl (by decide) rfl (fun ls hl => ?_)
      refine lv_iconst (v := 1) hx hb dL_isReadOnly_20 (by decide) ?_
      exact z_iret hx hb hr hlocks hw (Nat.le_of_ble_eq_true rfl) (Nat.le_of_ble_eq_true rfl) dL_isReadOnly_21 ⟨by rw [hk]; rfl, by rw [hs9]; exact hH, ⟨F, ho.2, fun h9 => absurd (hk.symm.trans h9) (by decide)⟩, fun b _ _ => rfl⟩
    | succ j9 =>
      exact absurd hj (by simp)
  obtain ⟨ho0, rfl, hH1, hfr⟩ := hp
  have ho9 : zc L9 f9 o (.inl (g.2 1, 1, .inr (.inl F))) := ⟨zHC_in hH1 hPo, (hfr o hPo).trans ho.2⟩
  refine W.eq (g2 := F0 m 7 ls [.int (o_isReadOnly σ p0).2.1, .int 0, .ref o]) rfl ?_
  refine lv_if_eq (tgt := 14) hx hb dL_isReadOnly_7 (by decide) (fun c_1 => ?_) (fun c_1 => ?_)
  · refine lv_lconst (v := 0) hx hb dL_isReadOnly_14 (by decide) ?_
    refine zr_last hx hb hw ho9 (vp_in_iff.mpr (by decide)) dL_isReadOnly_15 (fun H locs hw => ?_)
    refine lv_goto (tgt := 22) hx hb dL_isReadOnly_16 (by decide) ?_
    refine lv_iconst (v := 0) hx hb dL_isReadOnly_22 (by decide) ?_
    exact z_iret hx hb hr hlocks hw (Nat.le_of_ble_eq_true rfl) (Nat.le_of_ble_eq_true rfl) dL_isReadOnly_23 ⟨by rw [ho0], zHC_fr hH1 (fun b hb => va_up_ne _ _ (show b ≠ o from fun e9 => hb (e9 ▸ hPo))), ⟨_, va_up_self _ _ _, fun _ => (if_pos rfl : _ = (0 : Int64)).trans (if_pos c_1).symm⟩, fun b hb hne => (va_up_ne _ _ hne).trans (hfr b hb)⟩
  · refine lv_lconst (v := 1) hx hb dL_isReadOnly_10 (by decide) ?_
    refine lv_goto (tgt := 15) hx hb dL_isReadOnly_11 (by decide) ?_
    refine zr_last hx hb hw ho9 (vp_in_iff.mpr (by decide)) dL_isReadOnly_15 (fun H locs hw => ?_)
    refine lv_goto (tgt := 22) hx hb dL_isReadOnly_16 (by decide) ?_
    refine lv_iconst (v := 0) hx hb dL_isReadOnly_22 (by decide) ?_
    exact z_iret hx hb hr hlocks hw (Nat.le_of_ble_eq_true rfl) (Nat.le_of_ble_eq_true rfl) dL_isReadOnly_23 ⟨by rw [ho0], zHC_fr hH1 (fun b hb => va_up_ne _ _ (show b ≠ o from fun e9 => hb (e9 ▸ hPo))), ⟨_, va_up_self _ _ _, fun _ => (if_pos rfl : _ = (1 : Int64)).trans (if_neg c_1).symm⟩, fun b hb hne => (va_up_ne _ _ hne).trans (hfr b hb)⟩

set_option maxRecDepth 100000 in
set_option maxHeartbeats 4000000 in
theorem c_L_placeAt (l : Launch) (hl0 : l.stackTraces = false) (g : zG) (L : List Nat) (f : Nat → va_E) (h : Nat) (P : Nat → Prop) (σ : ZS) (p0 : Int32) (p1 : Int32) (o : Nat) (F : Nat → Int64) (hH : zHC g h P σ L f) (ho : zc L f o (.inl (g.2 1, 1, .inr (.inl F)))) (hPo : P o) : zC l yL_placeAt wsL_placeAt { frames := 10, cells := 3, slots := 18, locals := 170 } 3 18 g [.ref h, .int p0, .int p1, .ref o] L f (fun r L1 f1 => some (.int (o_placeAt σ p0 p1).1) = r ∧ zHC g h P (o_placeAt σ p0 p1).2.2 L1 f1 ∧ (∃ F1 : Nat → Int64, f1 o = .inl (g.2 1, 1, .inr (.inl F1)) ∧ ((o_placeAt σ p0 p1).1 = 0 → F1 0 = (o_placeAt σ p0 p1).2.1.toInt64)) ∧ ∀ b, P b → b ≠ o → f1 b = f b) zNo := by
  refine z_ofWH (cc := cL_placeAt) (maxL := 5) (ret := (some .int)) (hh := [(0, 10, 13, 13), (0, 10, 17, 15)]) (by decide) rfl (Nat.le_of_ble_eq_true rfl) ?_
  intro p e s m args below meth c ls A hx hb hr hts hown hlocks hml htab hw hX hl
  have hl : lv_has ls 5 [(0, .ref h), (1, .int p0), (2, .int p1), (3, .ref o)] := hl
  have hown : s.vm.findClass RL = some m.cls := hown
  obtain ⟨fs9, hcb⟩ := zHC_obj hH
  refine lv_aload_n hx hb dL_placeAt_0 rfl (lv_at hl 3 rfl) ?_
  refine lv_iconst (v := 0) hx hb dL_placeAt_1 (by decide) ?_
  refine lv_aload_n hx hb dL_placeAt_2 rfl (lv_at hl 0 rfl) ?_
  refine lv_iload_n hx hb dL_placeAt_3 rfl (lv_at hl 1 rfl) ?_
  refine lv_iload_n hx hb dL_placeAt_4 rfl (lv_at hl 2 rfl) ?_
  refine z_callV (As := [.int p0, .int p1]) (rest := [.int 0, .ref o]) ⟨hx, hb, hml, hown, hts⟩ hw hX hcb rfl (c_X1_placeAt l hl0 g L f h P σ p0 p1 hH) (cwV 2 hts gL_placeAt_X1_placeAt rfl rfl rfl (by decide +kernel) ⟨(Nat.le_of_ble_eq_true rfl), (Nat.le_of_ble_eq_true rfl)⟩) rfl hl.1 rfl (Nat.le_of_ble_eq_true rfl) dL_placeAt_5 ⟨(Nat.le_of_ble_eq_true rfl), (Nat.le_of_ble_eq_true rfl)⟩ (fun E ce q9 L9 f9 H locs hp hw hce hcv hcl => ?_) (fun r9 L9 f9 H locs hp hw => ?_)
  · obtain ⟨⟨j9, hj, hk⟩, rfl, rfl, hs9⟩ := hp
    cases j9 with
    | zero =>
      obtain rfl : "java/lang/IndexOutOfBoundsException" = E := Option.some.inj hj
      refine vx_catch (E := "java/lang/IndexOutOfBoundsException") hown (tableOf []) ⟨0, 10, 13, 13⟩ (tableOf [(0, 10, 17, 15)]) htab (fun z hz => (nomatch hz)) rfl (by decide) (hts (.classLink RL 13 "java/lang/IndexOutOfBoundsException") (by decide +kernel)) (va_tabs rfl rfl (hX.2.2.1 "java/lang/IndexOutOfBoundsException" (by decide))) hce hcv hcl ?_
      refine W.eq (g2 := F0 m 13 ls [.ref q9]) rfl ?_
      refine lv_astore (lv' := [(4, .ref q9), (0, .ref h), (1, .int p0), (2, .int p1), (3, .ref o)]) hx hb dL_placeAt_13 hl (by decide) rfl (fun ls hl => ?_)
      refine lv_iconst (v := 1) hx hb dL_placeAt_15 (by decide) ?_
      exact z_iret hx hb hr hlocks hw (Nat.le_of_ble_eq_true rfl) (Nat.le_of_ble_eq_true rfl) dL_placeAt_16 ⟨by rw [hk]; rfl, by rw [hs9]; exact hH, ⟨F, ho.2, fun h9 => absurd (hk.symm.trans h9) (by decide)⟩, fun b _ _ => rfl⟩
    | succ j9 =>
      cases j9 with
      | zero =>
        obtain rfl : "java/lang/IllegalArgumentException" = E := Option.some.inj hj
        refine vx_catch (E := "java/lang/IllegalArgumentException") hown (tableOf [(0, 10, 13, 13)]) ⟨0, 10, 17, 15⟩ (tableOf []) htab (fun z hz => ((List.mem_cons.mp hz).elim (fun e9 => by subst e9; exact Or.inr ⟨by decide, "java/lang/IndexOutOfBoundsException", hts (.classLink RL 13 "java/lang/IndexOutOfBoundsException") (by decide +kernel), hX.2.2.2.2.2.2.2.2 ("java/lang/IllegalArgumentException", "java/lang/IndexOutOfBoundsException") (by decide)⟩) (fun hz => (nomatch hz)))) rfl (by decide) (hts (.classLink RL 15 "java/lang/IllegalArgumentException") (by decide +kernel)) (va_tabs rfl rfl (hX.2.2.1 "java/lang/IllegalArgumentException" (by decide))) hce hcv hcl ?_
        refine W.eq (g2 := F0 m 17 ls [.ref q9]) rfl ?_
        refine lv_astore (lv' := [(4, .ref q9), (0, .ref h), (1, .int p0), (2, .int p1), (3, .ref o)]) hx hb dL_placeAt_17 hl (by decide) rfl (fun ls hl => ?_)
        refine lv_iconst (v := 2) hx hb dL_placeAt_19 (by decide) ?_
        exact z_iret hx hb hr hlocks hw (Nat.le_of_ble_eq_true rfl) (Nat.le_of_ble_eq_true rfl) dL_placeAt_20 ⟨by rw [hk]; rfl, by rw [hs9]; exact hH, ⟨F, ho.2, fun h9 => absurd (hk.symm.trans h9) (by decide)⟩, fun b _ _ => rfl⟩
      | succ j9 =>
        exact absurd hj (by simp)
  obtain ⟨ho0, rfl, hH1, hfr⟩ := hp
  have ho9 : zc L9 f9 o (.inl (g.2 1, 1, .inr (.inl F))) := ⟨zHC_in hH1 hPo, (hfr o hPo).trans ho.2⟩
  refine W.eq (g2 := F0 m 8 ls [.int (o_placeAt σ p0 p1).2.1, .int 0, .ref o]) rfl ?_
  refine lv_i2l (v := ((o_placeAt σ p0 p1).2.1).toInt64) hx hb dL_placeAt_8 rfl ?_
  refine zr_last hx hb hw ho9 (vp_in_iff.mpr (by decide)) dL_placeAt_9 (fun H locs hw => ?_)
  refine lv_goto (tgt := 21) hx hb dL_placeAt_10 (by decide) ?_
  refine lv_iconst (v := 0) hx hb dL_placeAt_21 (by decide) ?_
  exact z_iret hx hb hr hlocks hw (Nat.le_of_ble_eq_true rfl) (Nat.le_of_ble_eq_true rfl) dL_placeAt_22 ⟨by rw [ho0], zHC_fr hH1 (fun b hb => va_up_ne _ _ (show b ≠ o from fun e9 => hb (e9 ▸ hPo))), ⟨_, va_up_self _ _ _, fun _ => (if_pos rfl)⟩, fun b hb hne => (va_up_ne _ _ hne).trans (hfr b hb)⟩

set_option maxRecDepth 100000 in
set_option maxHeartbeats 4000000 in
theorem c_L_endAt (l : Launch) (hl0 : l.stackTraces = false) (g : zG) (L : List Nat) (f : Nat → va_E) (h : Nat) (P : Nat → Prop) (σ : ZS) (p0 : Int32) (p1 : Int32) (o : Nat) (F : Nat → Int64) (hH : zHC g h P σ L f) (ho : zc L f o (.inl (g.2 1, 1, .inr (.inl F)))) (hPo : P o) : zC l yL_endAt wsL_endAt { frames := 10, cells := 3, slots := 18, locals := 170 } 3 18 g [.ref h, .int p0, .int p1, .ref o] L f (fun r L1 f1 => some (.int (o_endAt σ p0 p1).1) = r ∧ zHC g h P (o_endAt σ p0 p1).2.2 L1 f1 ∧ (∃ F1 : Nat → Int64, f1 o = .inl (g.2 1, 1, .inr (.inl F1)) ∧ ((o_endAt σ p0 p1).1 = 0 → F1 0 = (o_endAt σ p0 p1).2.1.toInt64)) ∧ ∀ b, P b → b ≠ o → f1 b = f b) zNo := by
  refine z_ofWH (cc := cL_endAt) (maxL := 5) (ret := (some .int)) (hh := [(0, 10, 13, 13), (0, 10, 17, 15)]) (by decide) rfl (Nat.le_of_ble_eq_true rfl) ?_
  intro p e s m args below meth c ls A hx hb hr hts hown hlocks hml htab hw hX hl
  have hl : lv_has ls 5 [(0, .ref h), (1, .int p0), (2, .int p1), (3, .ref o)] := hl
  have hown : s.vm.findClass RL = some m.cls := hown
  obtain ⟨fs9, hcb⟩ := zHC_obj hH
  refine lv_aload_n hx hb dL_endAt_0 rfl (lv_at hl 3 rfl) ?_
  refine lv_iconst (v := 0) hx hb dL_endAt_1 (by decide) ?_
  refine lv_aload_n hx hb dL_endAt_2 rfl (lv_at hl 0 rfl) ?_
  refine lv_iload_n hx hb dL_endAt_3 rfl (lv_at hl 1 rfl) ?_
  refine lv_iload_n hx hb dL_endAt_4 rfl (lv_at hl 2 rfl) ?_
  refine z_callV (As := [.int p0, .int p1]) (rest := [.int 0, .ref o]) ⟨hx, hb, hml, hown, hts⟩ hw hX hcb rfl (c_X1_endAt l hl0 g L f h P σ p0 p1 hH) (cwV 2 hts gL_endAt_X1_endAt rfl rfl rfl (by decide +kernel) ⟨(Nat.le_of_ble_eq_true rfl), (Nat.le_of_ble_eq_true rfl)⟩) rfl hl.1 rfl (Nat.le_of_ble_eq_true rfl) dL_endAt_5 ⟨(Nat.le_of_ble_eq_true rfl), (Nat.le_of_ble_eq_true rfl)⟩ (fun E ce q9 L9 f9 H locs hp hw hce hcv hcl => ?_) (fun r9 L9 f9 H locs hp hw => ?_)
  · obtain ⟨⟨j9, hj, hk⟩, rfl, rfl, hs9⟩ := hp
    cases j9 with
    | zero =>
      obtain rfl : "java/lang/IndexOutOfBoundsException" = E := Option.some.inj hj
      refine vx_catch (E := "java/lang/IndexOutOfBoundsException") hown (tableOf []) ⟨0, 10, 13, 13⟩ (tableOf [(0, 10, 17, 15)]) htab (fun z hz => (nomatch hz)) rfl (by decide) (hts (.classLink RL 13 "java/lang/IndexOutOfBoundsException") (by decide +kernel)) (va_tabs rfl rfl (hX.2.2.1 "java/lang/IndexOutOfBoundsException" (by decide))) hce hcv hcl ?_
      refine W.eq (g2 := F0 m 13 ls [.ref q9]) rfl ?_
      refine lv_astore (lv' := [(4, .ref q9), (0, .ref h), (1, .int p0), (2, .int p1), (3, .ref o)]) hx hb dL_endAt_13 hl (by decide) rfl (fun ls hl => ?_)
      refine lv_iconst (v := 1) hx hb dL_endAt_15 (by decide) ?_
      exact z_iret hx hb hr hlocks hw (Nat.le_of_ble_eq_true rfl) (Nat.le_of_ble_eq_true rfl) dL_endAt_16 ⟨by rw [hk]; rfl, by rw [hs9]; exact hH, ⟨F, ho.2, fun h9 => absurd (hk.symm.trans h9) (by decide)⟩, fun b _ _ => rfl⟩
    | succ j9 =>
      cases j9 with
      | zero =>
        obtain rfl : "java/lang/IllegalArgumentException" = E := Option.some.inj hj
        refine vx_catch (E := "java/lang/IllegalArgumentException") hown (tableOf [(0, 10, 13, 13)]) ⟨0, 10, 17, 15⟩ (tableOf []) htab (fun z hz => ((List.mem_cons.mp hz).elim (fun e9 => by subst e9; exact Or.inr ⟨by decide, "java/lang/IndexOutOfBoundsException", hts (.classLink RL 13 "java/lang/IndexOutOfBoundsException") (by decide +kernel), hX.2.2.2.2.2.2.2.2 ("java/lang/IllegalArgumentException", "java/lang/IndexOutOfBoundsException") (by decide)⟩) (fun hz => (nomatch hz)))) rfl (by decide) (hts (.classLink RL 15 "java/lang/IllegalArgumentException") (by decide +kernel)) (va_tabs rfl rfl (hX.2.2.1 "java/lang/IllegalArgumentException" (by decide))) hce hcv hcl ?_
        refine W.eq (g2 := F0 m 17 ls [.ref q9]) rfl ?_
        refine lv_astore (lv' := [(4, .ref q9), (0, .ref h), (1, .int p0), (2, .int p1), (3, .ref o)]) hx hb dL_endAt_17 hl (by decide) rfl (fun ls hl => ?_)
        refine lv_iconst (v := 2) hx hb dL_endAt_19 (by decide) ?_
        exact z_iret hx hb hr hlocks hw (Nat.le_of_ble_eq_true rfl) (Nat.le_of_ble_eq_true rfl) dL_endAt_20 ⟨by rw [hk]; rfl, by rw [hs9]; exact hH, ⟨F, ho.2, fun h9 => absurd (hk.symm.trans h9) (by decide)⟩, fun b _ _ => rfl⟩
      | succ j9 =>
        exact absurd hj (by simp)
  obtain ⟨ho0, rfl, hH1, hfr⟩ := hp
  have ho9 : zc L9 f9 o (.inl (g.2 1, 1, .inr (.inl F))) := ⟨zHC_in hH1 hPo, (hfr o hPo).trans ho.2⟩
  refine W.eq (g2 := F0 m 8 ls [.int (o_endAt σ p0 p1).2.1, .int 0, .ref o]) rfl ?_
  refine lv_i2l (v := ((o_endAt σ p0 p1).2.1).toInt64) hx hb dL_endAt_8 rfl ?_
  refine zr_last hx hb hw ho9 (vp_in_iff.mpr (by decide)) dL_endAt_9 (fun H locs hw => ?_)
  refine lv_goto (tgt := 21) hx hb dL_endAt_10 (by decide) ?_
  refine lv_iconst (v := 0) hx hb dL_endAt_21 (by decide) ?_
  exact z_iret hx hb hr hlocks hw (Nat.le_of_ble_eq_true rfl) (Nat.le_of_ble_eq_true rfl) dL_endAt_22 ⟨by rw [ho0], zHC_fr hH1 (fun b hb => va_up_ne _ _ (show b ≠ o from fun e9 => hb (e9 ▸ hPo))), ⟨_, va_up_self _ _ _, fun _ => (if_pos rfl)⟩, fun b hb hne => (va_up_ne _ _ hne).trans (hfr b hb)⟩

set_option maxRecDepth 100000 in
set_option maxHeartbeats 4000000 in
theorem c_L_mark (l : Launch) (hl0 : l.stackTraces = false) (g : zG) (L : List Nat) (f : Nat → va_E) (h : Nat) (P : Nat → Prop) (σ : ZS) (p0 : Int32) (o : Nat) (F : Nat → Int64) (hH : zHC g h P σ L f) (ho : zc L f o (.inl (g.2 1, 1, .inr (.inl F)))) (hPo : P o) : zC l yL_mark wsL_mark { frames := 10, cells := 2, slots := 12, locals := 168 } 2 12 g [.ref h, .int p0, .ref o] L f (fun r L1 f1 => some (.int (o_mark σ p0).1) = r ∧ zHC g h P (o_mark σ p0).2.2 L1 f1 ∧ (∃ F1 : Nat → Int64, f1 o = .inl (g.2 1, 1, .inr (.inl F1)) ∧ ((o_mark σ p0).1 = 0 → F1 0 = (o_mark σ p0).2.1.toInt64)) ∧ ∀ b, P b → b ≠ o → f1 b = f b) zNo := by
  refine z_ofWH (cc := cL_mark) (maxL := 4) (ret := (some .int)) (hh := [(0, 9, 12, 13)]) (by decide) rfl (Nat.le_of_ble_eq_true rfl) ?_
  intro p e s m args below meth c ls A hx hb hr hts hown hlocks hml htab hw hX hl
  have hl : lv_has ls 4 [(0, .ref h), (1, .int p0), (2, .ref o)] := hl
  have hown : s.vm.findClass RL = some m.cls := hown
  obtain ⟨fs9, hcb⟩ := zHC_obj hH
  refine lv_aload_n hx hb dL_mark_0 rfl (lv_at hl 2 rfl) ?_
  refine lv_iconst (v := 0) hx hb dL_mark_1 (by decide) ?_
  refine lv_aload_n hx hb dL_mark_2 rfl (lv_at hl 0 rfl) ?_
  refine lv_iload_n hx hb dL_mark_3 rfl (lv_at hl 1 rfl) ?_
  refine z_callV (As := [.int p0]) (rest := [.int 0, .ref o]) ⟨hx, hb, hml, hown, hts⟩ hw hX hcb rfl (c_X1_mark l hl0 g L f h P σ p0 hH) (cwV 1 hts gL_mark_X1_mark rfl rfl rfl (by decide +kernel) ⟨(Nat.le_of_ble_eq_true rfl), (Nat.le_of_ble_eq_true rfl)⟩) rfl hl.1 rfl (Nat.le_of_ble_eq_true rfl) dL_mark_4 ⟨(Nat.le_of_ble_eq_true rfl), (Nat.le_of_ble_eq_true rfl)⟩ (fun E ce q9 L9 f9 H locs hp hw hce hcv hcl => ?_) (fun r9 L9 f9 H locs hp hw => ?_)
  · obtain ⟨⟨j9, hj, hk⟩, rfl, rfl, hs9⟩ := hp
    cases j9 with
    | zero =>
      obtain rfl : "java/lang/IndexOutOfBoundsException" = E := Option.some.inj hj
      refine vx_catch (E := "java/lang/IndexOutOfBoundsException") hown (tableOf []) ⟨0, 9, 12, 13⟩ (tableOf []) htab (fun z hz => (nomatch hz)) rfl (by decide) (hts (.classLink RL 13 "java/lang/IndexOutOfBoundsException") (by decide +kernel)) (va_tabs rfl rfl (hX.2.2.1 "java/lang/IndexOutOfBoundsException" (by decide))) hce hcv hcl ?_
      refine W.eq (g2 := F0 m 12 ls [.ref q9]) rfl ?_
      refine lv_astore_n (lv' := [(3, .ref q9), (0, .ref h), (1, .int p0), (2, .ref o)]) hx hb dL_mark_12 rfl hl (by decide) rfl (fun ls hl => ?_)
      refine lv_iconst (v := 1) hx hb dL_mark_13 (by decide) ?_
      exact z_iret hx hb hr hlocks hw (Nat.le_of_ble_eq_true rfl) (Nat.le_of_ble_eq_true rfl) dL_mark_14 ⟨by rw [hk]; rfl, by rw [hs9]; exact hH, ⟨F, ho.2, fun h9 => absurd (hk.symm.trans h9) (by decide)⟩, fun b _ _ => rfl⟩
    | succ j9 =>
      exact absurd hj (by simp)
  obtain ⟨ho0, rfl, hH1, hfr⟩ := hp
  have ho9 : zc L9 f9 o (.inl (g.2 1, 1, .inr (.inl F))) := ⟨zHC_in hH1 hPo, (hfr o hPo).trans ho.2⟩
  refine W.eq (g2 := F0 m 7 ls [.int (o_mark σ p0).2.1, .int 0, .ref o]) rfl ?_
  refine lv_i2l (v := ((o_mark σ p0).2.1).toInt64) hx hb dL_mark_7 rfl ?_
  refine zr_last hx hb hw ho9 (vp_in_iff.mpr (by decide)) dL_mark_8 (fun H locs hw => ?_)
  refine lv_goto (tgt := 15) hx hb dL_mark_9 (by decide) ?_
  refine lv_iconst (v := 0) hx hb dL_mark_15 (by decide) ?_
  exact z_iret hx hb hr hlocks hw (Nat.le_of_ble_eq_true rfl) (Nat.le_of_ble_eq_true rfl) dL_mark_16 ⟨by rw [ho0], zHC_fr hH1 (fun b hb => va_up_ne _ _ (show b ≠ o from fun e9 => hb (e9 ▸ hPo))), ⟨_, va_up_self _ _ _, fun _ => (if_pos rfl)⟩, fun b hb hne => (va_up_ne _ _ hne).trans (hfr b hb)⟩

set_option maxRecDepth 100000 in
set_option maxHeartbeats 4000000 in
theorem c_L_back (l : Launch) (hl0 : l.stackTraces = false) (g : zG) (L : List Nat) (f : Nat → va_E) (h : Nat) (P : Nat → Prop) (σ : ZS) (p0 : Int32) (o : Nat) (F : Nat → Int64) (hH : zHC g h P σ L f) (ho : zc L f o (.inl (g.2 1, 1, .inr (.inl F)))) (hPo : P o) : zC l yL_back wsL_back { frames := 10, cells := 3, slots := 18, locals := 169 } 3 18 g [.ref h, .int p0, .ref o] L f (fun r L1 f1 => some (.int (o_back σ p0).1) = r ∧ zHC g h P (o_back σ p0).2.2 L1 f1 ∧ (∃ F1 : Nat → Int64, f1 o = .inl (g.2 1, 1, .inr (.inl F1)) ∧ ((o_back σ p0).1 = 0 → F1 0 = (o_back σ p0).2.1.toInt64)) ∧ ∀ b, P b → b ≠ o → f1 b = f b) zNo := by
  refine z_ofWH (cc := cL_back) (maxL := 4) (ret := (some .int)) (hh := [(0, 9, 12, 13), (0, 9, 15, 67)]) (by decide) rfl (Nat.le_of_ble_eq_true rfl) ?_
  intro p e s m args below meth c ls A hx hb hr hts hown hlocks hml htab hw hX hl
  have hl : lv_has ls 4 [(0, .ref h), (1, .int p0), (2, .ref o)] := hl
  have hown : s.vm.findClass RL = some m.cls := hown
  obtain ⟨fs9, hcb⟩ := zHC_obj hH
  refine lv_aload_n hx hb dL_back_0 rfl (lv_at hl 2 rfl) ?_
  refine lv_iconst (v := 0) hx hb dL_back_1 (by decide) ?_
  refine lv_aload_n hx hb dL_back_2 rfl (lv_at hl 0 rfl) ?_
  refine lv_iload_n hx hb dL_back_3 rfl (lv_at hl 1 rfl) ?_
  refine z_callV (As := [.int p0]) (rest := [.int 0, .ref o]) ⟨hx, hb, hml, hown, hts⟩ hw hX hcb rfl (c_X1_back l hl0 g L f h P σ p0 hH) (cwV 1 hts gL_back_X1_back rfl rfl rfl (by decide +kernel) ⟨(Nat.le_of_ble_eq_true rfl), (Nat.le_of_ble_eq_true rfl)⟩) rfl hl.1 rfl (Nat.le_of_ble_eq_true rfl) dL_back_4 ⟨(Nat.le_of_ble_eq_true rfl), (Nat.le_of_ble_eq_true rfl)⟩ (fun E ce q9 L9 f9 H locs hp hw hce hcv hcl => ?_) (fun r9 L9 f9 H locs hp hw => ?_)
  · obtain ⟨⟨j9, hj, hk⟩, rfl, rfl, hs9⟩ := hp
    cases j9 with
    | zero =>
      obtain rfl : "java/lang/IndexOutOfBoundsException" = E := Option.some.inj hj
      refine vx_catch (E := "java/lang/IndexOutOfBoundsException") hown (tableOf []) ⟨0, 9, 12, 13⟩ (tableOf [(0, 9, 15, 67)]) htab (fun z hz => (nomatch hz)) rfl (by decide) (hts (.classLink RL 13 "java/lang/IndexOutOfBoundsException") (by decide +kernel)) (va_tabs rfl rfl (hX.2.2.1 "java/lang/IndexOutOfBoundsException" (by decide))) hce hcv hcl ?_
      refine W.eq (g2 := F0 m 12 ls [.ref q9]) rfl ?_
      refine lv_astore_n (lv' := [(3, .ref q9), (0, .ref h), (1, .int p0), (2, .ref o)]) hx hb dL_back_12 rfl hl (by decide) rfl (fun ls hl => ?_)
      refine lv_iconst (v := 1) hx hb dL_back_13 (by decide) ?_
      exact z_iret hx hb hr hlocks hw (Nat.le_of_ble_eq_true rfl) (Nat.le_of_ble_eq_true rfl) dL_back_14 ⟨by rw [hk]; rfl, by rw [hs9]; exact hH, ⟨F, ho.2, fun h9 => absurd (hk.symm.trans h9) (by decide)⟩, fun b _ _ => rfl⟩
    | succ j9 =>
      cases j9 with
      | zero =>
        obtain rfl : "java/lang/IllegalStateException" = E := Option.some.inj hj
        refine vx_catch (E := "java/lang/IllegalStateException") hown (tableOf [(0, 9, 12, 13)]) ⟨0, 9, 15, 67⟩ (tableOf []) htab (fun z hz => ((List.mem_cons.mp hz).elim (fun e9 => by subst e9; exact Or.inr ⟨by decide, "java/lang/IndexOutOfBoundsException", hts (.classLink RL 13 "java/lang/IndexOutOfBoundsException") (by decide +kernel), hX.2.2.2.2.2.2.2.2 ("java/lang/IllegalStateException", "java/lang/IndexOutOfBoundsException") (by decide)⟩) (fun hz => (nomatch hz)))) rfl (by decide) (hts (.classLink RL 67 "java/lang/IllegalStateException") (by decide +kernel)) (va_tabs rfl rfl (hX.2.2.1 "java/lang/IllegalStateException" (by decide))) hce hcv hcl ?_
        refine W.eq (g2 := F0 m 15 ls [.ref q9]) rfl ?_
        refine lv_astore_n (lv' := [(3, .ref q9), (0, .ref h), (1, .int p0), (2, .ref o)]) hx hb dL_back_15 rfl hl (by decide) rfl (fun ls hl => ?_)
        refine lv_iconst (v := 2) hx hb dL_back_16 (by decide) ?_
        exact z_iret hx hb hr hlocks hw (Nat.le_of_ble_eq_true rfl) (Nat.le_of_ble_eq_true rfl) dL_back_17 ⟨by rw [hk]; rfl, by rw [hs9]; exact hH, ⟨F, ho.2, fun h9 => absurd (hk.symm.trans h9) (by decide)⟩, fun b _ _ => rfl⟩
      | succ j9 =>
        exact absurd hj (by simp)
  obtain ⟨ho0, rfl, hH1, hfr⟩ := hp
  have ho9 : zc L9 f9 o (.inl (g.2 1, 1, .inr (.inl F))) := ⟨zHC_in hH1 hPo, (hfr o hPo).trans ho.2⟩
  refine W.eq (g2 := F0 m 7 ls [.int (o_back σ p0).2.1, .int 0, .ref o]) rfl ?_
  refine lv_i2l (v := ((o_back σ p0).2.1).toInt64) hx hb dL_back_7 rfl ?_
  refine zr_last hx hb hw ho9 (vp_in_iff.mpr (by decide)) dL_back_8 (fun H locs hw => ?_)
  refine lv_goto (tgt := 18) hx hb dL_back_9 (by decide) ?_
  refine lv_iconst (v := 0) hx hb dL_back_18 (by decide) ?_
  exact z_iret hx hb hr hlocks hw (Nat.le_of_ble_eq_true rfl) (Nat.le_of_ble_eq_true rfl) dL_back_19 ⟨by rw [ho0], zHC_fr hH1 (fun b hb => va_up_ne _ _ (show b ≠ o from fun e9 => hb (e9 ▸ hPo))), ⟨_, va_up_self _ _ _, fun _ => (if_pos rfl)⟩, fun b hb hne => (va_up_ne _ _ hne).trans (hfr b hb)⟩

set_option maxRecDepth 100000 in
set_option maxHeartbeats 4000000 in
theorem c_L_clear (l : Launch) (hl0 : l.stackTraces = false) (g : zG) (L : List Nat) (f : Nat → va_E) (h : Nat) (P : Nat → Prop) (σ : ZS) (p0 : Int32) (o : Nat) (F : Nat → Int64) (hH : zHC g h P σ L f) (ho : zc L f o (.inl (g.2 1, 1, .inr (.inl F)))) (hPo : P o) : zC l yL_clear wsL_clear { frames := 10, cells := 2, slots := 12, locals := 168 } 2 12 g [.ref h, .int p0, .ref o] L f (fun r L1 f1 => some (.int (o_clear σ p0).1) = r ∧ zHC g h P (o_clear σ p0).2.2 L1 f1 ∧ (∃ F1 : Nat → Int64, f1 o = .inl (g.2 1, 1, .inr (.inl F1)) ∧ ((o_clear σ p0).1 = 0 → F1 0 = (o_clear σ p0).2.1.toInt64)) ∧ ∀ b, P b → b ≠ o → f1 b = f b) zNo := by
  refine z_ofWH (cc := cL_clear) (maxL := 4) (ret := (some .int)) (hh := [(0, 9, 12, 13)]) (by decide) rfl (Nat.le_of_ble_eq_true rfl) ?_
  intro p e s m args below meth c ls A hx hb hr hts hown hlocks hml htab hw hX hl
  have hl : lv_has ls 4 [(0, .ref h), (1, .int p0), (2, .ref o)] := hl
  have hown : s.vm.findClass RL = some m.cls := hown
  obtain ⟨fs9, hcb⟩ := zHC_obj hH
  refine lv_aload_n hx hb dL_clear_0 rfl (lv_at hl 2 rfl) ?_
  refine lv_iconst (v := 0) hx hb dL_clear_1 (by decide) ?_
  refine lv_aload_n hx hb dL_clear_2 rfl (lv_at hl 0 rfl) ?_
  refine lv_iload_n hx hb dL_clear_3 rfl (lv_at hl 1 rfl) ?_
  refine z_callV (As := [.int p0]) (rest := [.int 0, .ref o]) ⟨hx, hb, hml, hown, hts⟩ hw hX hcb rfl (c_X1_clear l hl0 g L f h P σ p0 hH) (cwV 1 hts gL_clear_X1_clear rfl rfl rfl (by decide +kernel) ⟨(Nat.le_of_ble_eq_true rfl), (Nat.le_of_ble_eq_true rfl)⟩) rfl hl.1 rfl (Nat.le_of_ble_eq_true rfl) dL_clear_4 ⟨(Nat.le_of_ble_eq_true rfl), (Nat.le_of_ble_eq_true rfl)⟩ (fun E ce q9 L9 f9 H locs hp hw hce hcv hcl => ?_) (fun r9 L9 f9 H locs hp hw => ?_)
  · obtain ⟨⟨j9, hj, hk⟩, rfl, rfl, hs9⟩ := hp
    cases j9 with
    | zero =>
      obtain rfl : "java/lang/IndexOutOfBoundsException" = E := Option.some.inj hj
      refine vx_catch (E := "java/lang/IndexOutOfBoundsException") hown (tableOf []) ⟨0, 9, 12, 13⟩ (tableOf []) htab (fun z hz => (nomatch hz)) rfl (by decide) (hts (.classLink RL 13 "java/lang/IndexOutOfBoundsException") (by decide +kernel)) (va_tabs rfl rfl (hX.2.2.1 "java/lang/IndexOutOfBoundsException" (by decide))) hce hcv hcl ?_
      refine W.eq (g2 := F0 m 12 ls [.ref q9]) rfl ?_
      refine lv_astore_n (lv' := [(3, .ref q9), (0, .ref h), (1, .int p0), (2, .ref o)]) hx hb dL_clear_12 rfl hl (by decide) rfl (fun ls hl => ?_)
      refine lv_iconst (v := 1) hx hb dL_clear_13 (by decide) ?_
      exact z_iret hx hb hr hlocks hw (Nat.le_of_ble_eq_true rfl) (Nat.le_of_ble_eq_true rfl) dL_clear_14 ⟨by rw [hk]; rfl, by rw [hs9]; exact hH, ⟨F, ho.2, fun h9 => absurd (hk.symm.trans h9) (by decide)⟩, fun b _ _ => rfl⟩
    | succ j9 =>
      exact absurd hj (by simp)
  obtain ⟨ho0, rfl, hH1, hfr⟩ := hp
  have ho9 : zc L9 f9 o (.inl (g.2 1, 1, .inr (.inl F))) := ⟨zHC_in hH1 hPo, (hfr o hPo).trans ho.2⟩
  refine W.eq (g2 := F0 m 7 ls [.int (o_clear σ p0).2.1, .int 0, .ref o]) rfl ?_
  refine lv_i2l (v := ((o_clear σ p0).2.1).toInt64) hx hb dL_clear_7 rfl ?_
  refine zr_last hx hb hw ho9 (vp_in_iff.mpr (by decide)) dL_clear_8 (fun H locs hw => ?_)
  refine lv_goto (tgt := 15) hx hb dL_clear_9 (by decide) ?_
  refine lv_iconst (v := 0) hx hb dL_clear_15 (by decide) ?_
  exact z_iret hx hb hr hlocks hw (Nat.le_of_ble_eq_true rfl) (Nat.le_of_ble_eq_true rfl) dL_clear_16 ⟨by rw [ho0], zHC_fr hH1 (fun b hb => va_up_ne _ _ (show b ≠ o from fun e9 => hb (e9 ▸ hPo))), ⟨_, va_up_self _ _ _, fun _ => (if_pos rfl)⟩, fun b hb hne => (va_up_ne _ _ hne).trans (hfr b hb)⟩

set_option maxRecDepth 100000 in
set_option maxHeartbeats 4000000 in
theorem c_L_flip (l : Launch) (hl0 : l.stackTraces = false) (g : zG) (L : List Nat) (f : Nat → va_E) (h : Nat) (P : Nat → Prop) (σ : ZS) (p0 : Int32) (o : Nat) (F : Nat → Int64) (hH : zHC g h P σ L f) (ho : zc L f o (.inl (g.2 1, 1, .inr (.inl F)))) (hPo : P o) : zC l yL_flip wsL_flip { frames := 10, cells := 2, slots := 12, locals := 168 } 2 12 g [.ref h, .int p0, .ref o] L f (fun r L1 f1 => some (.int (o_flip σ p0).1) = r ∧ zHC g h P (o_flip σ p0).2.2 L1 f1 ∧ (∃ F1 : Nat → Int64, f1 o = .inl (g.2 1, 1, .inr (.inl F1)) ∧ ((o_flip σ p0).1 = 0 → F1 0 = (o_flip σ p0).2.1.toInt64)) ∧ ∀ b, P b → b ≠ o → f1 b = f b) zNo := by
  refine z_ofWH (cc := cL_flip) (maxL := 4) (ret := (some .int)) (hh := [(0, 9, 12, 13)]) (by decide) rfl (Nat.le_of_ble_eq_true rfl) ?_
  intro p e s m args below meth c ls A hx hb hr hts hown hlocks hml htab hw hX hl
  have hl : lv_has ls 4 [(0, .ref h), (1, .int p0), (2, .ref o)] := hl
  have hown : s.vm.findClass RL = some m.cls := hown
  obtain ⟨fs9, hcb⟩ := zHC_obj hH
  refine lv_aload_n hx hb dL_flip_0 rfl (lv_at hl 2 rfl) ?_
  refine lv_iconst (v := 0) hx hb dL_flip_1 (by decide) ?_
  refine lv_aload_n hx hb dL_flip_2 rfl (lv_at hl 0 rfl) ?_
  refine lv_iload_n hx hb dL_flip_3 rfl (lv_at hl 1 rfl) ?_
  refine z_callV (As := [.int p0]) (rest := [.int 0, .ref o]) ⟨hx, hb, hml, hown, hts⟩ hw hX hcb rfl (c_X1_flip l hl0 g L f h P σ p0 hH) (cwV 1 hts gL_flip_X1_flip rfl rfl rfl (by decide +kernel) ⟨(Nat.le_of_ble_eq_true rfl), (Nat.le_of_ble_eq_true rfl)⟩) rfl hl.1 rfl (Nat.le_of_ble_eq_true rfl) dL_flip_4 ⟨(Nat.le_of_ble_eq_true rfl), (Nat.le_of_ble_eq_true rfl)⟩ (fun E ce q9 L9 f9 H locs hp hw hce hcv hcl => ?_) (fun r9 L9 f9 H locs hp hw => ?_)
  · obtain ⟨⟨j9, hj, hk⟩, rfl, rfl, hs9⟩ := hp
    cases j9 with
    | zero =>
      obtain rfl : "java/lang/IndexOutOfBoundsException" = E := Option.some.inj hj
      refine vx_catch (E := "java/lang/IndexOutOfBoundsException") hown (tableOf []) ⟨0, 9, 12, 13⟩ (tableOf []) htab (fun z hz => (nomatch hz)) rfl (by decide) (hts (.classLink RL 13 "java/lang/IndexOutOfBoundsException") (by decide +kernel)) (va_tabs rfl rfl (hX.2.2.1 "java/lang/IndexOutOfBoundsException" (by decide))) hce hcv hcl ?_
      refine W.eq (g2 := F0 m 12 ls [.ref q9]) rfl ?_
      refine lv_astore_n (lv' := [(3, .ref q9), (0, .ref h), (1, .int p0), (2, .ref o)]) hx hb dL_flip_12 rfl hl (by decide) rfl (fun ls hl => ?_)
      refine lv_iconst (v := 1) hx hb dL_flip_13 (by decide) ?_
      exact z_iret hx hb hr hlocks hw (Nat.le_of_ble_eq_true rfl) (Nat.le_of_ble_eq_true rfl) dL_flip_14 ⟨by rw [hk]; rfl, by rw [hs9]; exact hH, ⟨F, ho.2, fun h9 => absurd (hk.symm.trans h9) (by decide)⟩, fun b _ _ => rfl⟩
    | succ j9 =>
      exact absurd hj (by simp)
  obtain ⟨ho0, rfl, hH1, hfr⟩ := hp
  have ho9 : zc L9 f9 o (.inl (g.2 1, 1, .inr (.inl F))) := ⟨zHC_in hH1 hPo, (hfr o hPo).trans ho.2⟩
  refine W.eq (g2 := F0 m 7 ls [.int (o_flip σ p0).2.1, .int 0, .ref o]) rfl ?_
  refine lv_i2l (v := ((o_flip σ p0).2.1).toInt64) hx hb dL_flip_7 rfl ?_
  refine zr_last hx hb hw ho9 (vp_in_iff.mpr (by decide)) dL_flip_8 (fun H locs hw => ?_)
  refine lv_goto (tgt := 15) hx hb dL_flip_9 (by decide) ?_
  refine lv_iconst (v := 0) hx hb dL_flip_15 (by decide) ?_
  exact z_iret hx hb hr hlocks hw (Nat.le_of_ble_eq_true rfl) (Nat.le_of_ble_eq_true rfl) dL_flip_16 ⟨by rw [ho0], zHC_fr hH1 (fun b hb => va_up_ne _ _ (show b ≠ o from fun e9 => hb (e9 ▸ hPo))), ⟨_, va_up_self _ _ _, fun _ => (if_pos rfl)⟩, fun b hb hne => (va_up_ne _ _ hne).trans (hfr b hb)⟩

set_option maxRecDepth 100000 in
set_option maxHeartbeats 4000000 in
theorem c_L_rewind (l : Launch) (hl0 : l.stackTraces = false) (g : zG) (L : List Nat) (f : Nat → va_E) (h : Nat) (P : Nat → Prop) (σ : ZS) (p0 : Int32) (o : Nat) (F : Nat → Int64) (hH : zHC g h P σ L f) (ho : zc L f o (.inl (g.2 1, 1, .inr (.inl F)))) (hPo : P o) : zC l yL_rewind wsL_rewind { frames := 10, cells := 2, slots := 12, locals := 168 } 2 12 g [.ref h, .int p0, .ref o] L f (fun r L1 f1 => some (.int (o_rewind σ p0).1) = r ∧ zHC g h P (o_rewind σ p0).2.2 L1 f1 ∧ (∃ F1 : Nat → Int64, f1 o = .inl (g.2 1, 1, .inr (.inl F1)) ∧ ((o_rewind σ p0).1 = 0 → F1 0 = (o_rewind σ p0).2.1.toInt64)) ∧ ∀ b, P b → b ≠ o → f1 b = f b) zNo := by
  refine z_ofWH (cc := cL_rewind) (maxL := 4) (ret := (some .int)) (hh := [(0, 9, 12, 13)]) (by decide) rfl (Nat.le_of_ble_eq_true rfl) ?_
  intro p e s m args below meth c ls A hx hb hr hts hown hlocks hml htab hw hX hl
  have hl : lv_has ls 4 [(0, .ref h), (1, .int p0), (2, .ref o)] := hl
  have hown : s.vm.findClass RL = some m.cls := hown
  obtain ⟨fs9, hcb⟩ := zHC_obj hH
  refine lv_aload_n hx hb dL_rewind_0 rfl (lv_at hl 2 rfl) ?_
  refine lv_iconst (v := 0) hx hb dL_rewind_1 (by decide) ?_
  refine lv_aload_n hx hb dL_rewind_2 rfl (lv_at hl 0 rfl) ?_
  refine lv_iload_n hx hb dL_rewind_3 rfl (lv_at hl 1 rfl) ?_
  refine z_callV (As := [.int p0]) (rest := [.int 0, .ref o]) ⟨hx, hb, hml, hown, hts⟩ hw hX hcb rfl (c_X1_rewind l hl0 g L f h P σ p0 hH) (cwV 1 hts gL_rewind_X1_rewind rfl rfl rfl (by decide +kernel) ⟨(Nat.le_of_ble_eq_true rfl), (Nat.le_of_ble_eq_true rfl)⟩) rfl hl.1 rfl (Nat.le_of_ble_eq_true rfl) dL_rewind_4 ⟨(Nat.le_of_ble_eq_true rfl), (Nat.le_of_ble_eq_true rfl)⟩ (fun E ce q9 L9 f9 H locs hp hw hce hcv hcl => ?_) (fun r9 L9 f9 H locs hp hw => ?_)
  · obtain ⟨⟨j9, hj, hk⟩, rfl, rfl, hs9⟩ := hp
    cases j9 with
    | zero =>
      obtain rfl : "java/lang/IndexOutOfBoundsException" = E := Option.some.inj hj
      refine vx_catch (E := "java/lang/IndexOutOfBoundsException") hown (tableOf []) ⟨0, 9, 12, 13⟩ (tableOf []) htab (fun z hz => (nomatch hz)) rfl (by decide) (hts (.classLink RL 13 "java/lang/IndexOutOfBoundsException") (by decide +kernel)) (va_tabs rfl rfl (hX.2.2.1 "java/lang/IndexOutOfBoundsException" (by decide))) hce hcv hcl ?_
      refine W.eq (g2 := F0 m 12 ls [.ref q9]) rfl ?_
      refine lv_astore_n (lv' := [(3, .ref q9), (0, .ref h), (1, .int p0), (2, .ref o)]) hx hb dL_rewind_12 rfl hl (by decide) rfl (fun ls hl => ?_)
      refine lv_iconst (v := 1) hx hb dL_rewind_13 (by decide) ?_
      exact z_iret hx hb hr hlocks hw (Nat.le_of_ble_eq_true rfl) (Nat.le_of_ble_eq_true rfl) dL_rewind_14 ⟨by rw [hk]; rfl, by rw [hs9]; exact hH, ⟨F, ho.2, fun h9 => absurd (hk.symm.trans h9) (by decide)⟩, fun b _ _ => rfl⟩
    | succ j9 =>
      exact absurd hj (by simp)
  obtain ⟨ho0, rfl, hH1, hfr⟩ := hp
  have ho9 : zc L9 f9 o (.inl (g.2 1, 1, .inr (.inl F))) := ⟨zHC_in hH1 hPo, (hfr o hPo).trans ho.2⟩
  refine W.eq (g2 := F0 m 7 ls [.int (o_rewind σ p0).2.1, .int 0, .ref o]) rfl ?_
  refine lv_i2l (v := ((o_rewind σ p0).2.1).toInt64) hx hb dL_rewind_7 rfl ?_
  refine zr_last hx hb hw ho9 (vp_in_iff.mpr (by decide)) dL_rewind_8 (fun H locs hw => ?_)
  refine lv_goto (tgt := 15) hx hb dL_rewind_9 (by decide) ?_
  refine lv_iconst (v := 0) hx hb dL_rewind_15 (by decide) ?_
  exact z_iret hx hb hr hlocks hw (Nat.le_of_ble_eq_true rfl) (Nat.le_of_ble_eq_true rfl) dL_rewind_16 ⟨by rw [ho0], zHC_fr hH1 (fun b hb => va_up_ne _ _ (show b ≠ o from fun e9 => hb (e9 ▸ hPo))), ⟨_, va_up_self _ _ _, fun _ => (if_pos rfl)⟩, fun b hb hne => (va_up_ne _ _ hne).trans (hfr b hb)⟩

set_option maxRecDepth 100000 in
set_option maxHeartbeats 4000000 in
theorem c_L_compact (l : Launch) (hl0 : l.stackTraces = false) (g : zG) (L : List Nat) (f : Nat → va_E) (h : Nat) (P : Nat → Prop) (σ : ZS) (p0 : Int32) (o : Nat) (F : Nat → Int64) (hH : zHC g h P σ L f) (ho : zc L f o (.inl (g.2 1, 1, .inr (.inl F)))) (hPo : P o) : zC l yL_compact wsL_compact { frames := 10, cells := 3, slots := 18, locals := 169 } 3 18 g [.ref h, .int p0, .ref o] L f (fun r L1 f1 => some (.int (o_compact σ p0).1) = r ∧ zHC g h P (o_compact σ p0).2.2 L1 f1 ∧ (∃ F1 : Nat → Int64, f1 o = .inl (g.2 1, 1, .inr (.inl F1)) ∧ ((o_compact σ p0).1 = 0 → F1 0 = (o_compact σ p0).2.1.toInt64)) ∧ ∀ b, P b → b ≠ o → f1 b = f b) zNo := by
  refine z_ofWH (cc := cL_compact) (maxL := 4) (ret := (some .int)) (hh := [(0, 9, 12, 13), (0, 9, 15, 81)]) (by decide) rfl (Nat.le_of_ble_eq_true rfl) ?_
  intro p e s m args below meth c ls A hx hb hr hts hown hlocks hml htab hw hX hl
  have hl : lv_has ls 4 [(0, .ref h), (1, .int p0), (2, .ref o)] := hl
  have hown : s.vm.findClass RL = some m.cls := hown
  obtain ⟨fs9, hcb⟩ := zHC_obj hH
  refine lv_aload_n hx hb dL_compact_0 rfl (lv_at hl 2 rfl) ?_
  refine lv_iconst (v := 0) hx hb dL_compact_1 (by decide) ?_
  refine lv_aload_n hx hb dL_compact_2 rfl (lv_at hl 0 rfl) ?_
  refine lv_iload_n hx hb dL_compact_3 rfl (lv_at hl 1 rfl) ?_
  refine z_callV (As := [.int p0]) (rest := [.int 0, .ref o]) ⟨hx, hb, hml, hown, hts⟩ hw hX hcb rfl (c_X1_compact l hl0 g L f h P σ p0 hH) (cwV 1 hts gL_compact_X1_compact rfl rfl rfl (by decide +kernel) ⟨(Nat.le_of_ble_eq_true rfl), (Nat.le_of_ble_eq_true rfl)⟩) rfl hl.1 rfl (Nat.le_of_ble_eq_true rfl) dL_compact_4 ⟨(Nat.le_of_ble_eq_true rfl), (Nat.le_of_ble_eq_true rfl)⟩ (fun E ce q9 L9 f9 H locs hp hw hce hcv hcl => ?_) (fun r9 L9 f9 H locs hp hw => ?_)
  · obtain ⟨⟨j9, hj, hk⟩, rfl, rfl, hs9⟩ := hp
    cases j9 with
    | zero =>
      obtain rfl : "java/lang/IndexOutOfBoundsException" = E := Option.some.inj hj
      refine vx_catch (E := "java/lang/IndexOutOfBoundsException") hown (tableOf []) ⟨0, 9, 12, 13⟩ (tableOf [(0, 9, 15, 81)]) htab (fun z hz => (nomatch hz)) rfl (by decide) (hts (.classLink RL 13 "java/lang/IndexOutOfBoundsException") (by decide +kernel)) (va_tabs rfl rfl (hX.2.2.1 "java/lang/IndexOutOfBoundsException" (by decide))) hce hcv hcl ?_
      refine W.eq (g2 := F0 m 12 ls [.ref q9]) rfl ?_
      refine lv_astore_n (lv' := [(3, .ref q9), (0, .ref h), (1, .int p0), (2, .ref o)]) hx hb dL_compact_12 rfl hl (by decide) rfl (fun ls hl => ?_)
      refine lv_iconst (v := 1) hx hb dL_compact_13 (by decide) ?_
      exact z_iret hx hb hr hlocks hw (Nat.le_of_ble_eq_true rfl) (Nat.le_of_ble_eq_true rfl) dL_compact_14 ⟨by rw [hk]; rfl, by rw [hs9]; exact hH, ⟨F, ho.2, fun h9 => absurd (hk.symm.trans h9) (by decide)⟩, fun b _ _ => rfl⟩
    | succ j9 =>
      cases j9 with
      | zero =>
        obtain rfl : "java/lang/UnsupportedOperationException" = E := Option.some.inj hj
        refine vx_catch (E := "java/lang/UnsupportedOperationException") hown (tableOf [(0, 9, 12, 13)]) ⟨0, 9, 15, 81⟩ (tableOf []) htab (fun z hz => ((List.mem_cons.mp hz).elim (fun e9 => by subst e9; exact Or.inr ⟨by decide, "java/lang/IndexOutOfBoundsException", hts (.classLink RL 13 "java/lang/IndexOutOfBoundsException") (by decide +kernel), hX.2.2.2.2.2.2.2.2 ("java/lang/UnsupportedOperationException", "java/lang/IndexOutOfBoundsException") (by decide)⟩) (fun hz => (nomatch hz)))) rfl (by decide) (hts (.classLink RL 81 "java/lang/UnsupportedOperationException") (by decide +kernel)) (va_tabs rfl rfl (hX.2.2.1 "java/lang/UnsupportedOperationException" (by decide))) hce hcv hcl ?_
        refine W.eq (g2 := F0 m 15 ls [.ref q9]) rfl ?_
        refine lv_astore_n (lv' := [(3, .ref q9), (0, .ref h), (1, .int p0), (2, .ref o)]) hx hb dL_compact_15 rfl hl (by decide) rfl (fun ls hl => ?_)
        refine lv_iconst (v := 2) hx hb dL_compact_16 (by decide) ?_
        exact z_iret hx hb hr hlocks hw (Nat.le_of_ble_eq_true rfl) (Nat.le_of_ble_eq_true rfl) dL_compact_17 ⟨by rw [hk]; rfl, by rw [hs9]; exact hH, ⟨F, ho.2, fun h9 => absurd (hk.symm.trans h9) (by decide)⟩, fun b _ _ => rfl⟩
      | succ j9 =>
        exact absurd hj (by simp)
  obtain ⟨ho0, rfl, hH1, hfr⟩ := hp
  have ho9 : zc L9 f9 o (.inl (g.2 1, 1, .inr (.inl F))) := ⟨zHC_in hH1 hPo, (hfr o hPo).trans ho.2⟩
  refine W.eq (g2 := F0 m 7 ls [.int (o_compact σ p0).2.1, .int 0, .ref o]) rfl ?_
  refine lv_i2l (v := ((o_compact σ p0).2.1).toInt64) hx hb dL_compact_7 rfl ?_
  refine zr_last hx hb hw ho9 (vp_in_iff.mpr (by decide)) dL_compact_8 (fun H locs hw => ?_)
  refine lv_goto (tgt := 18) hx hb dL_compact_9 (by decide) ?_
  refine lv_iconst (v := 0) hx hb dL_compact_18 (by decide) ?_
  exact z_iret hx hb hr hlocks hw (Nat.le_of_ble_eq_true rfl) (Nat.le_of_ble_eq_true rfl) dL_compact_19 ⟨by rw [ho0], zHC_fr hH1 (fun b hb => va_up_ne _ _ (show b ≠ o from fun e9 => hb (e9 ▸ hPo))), ⟨_, va_up_self _ _ _, fun _ => (if_pos rfl)⟩, fun b hb hne => (va_up_ne _ _ hne).trans (hfr b hb)⟩

set_option maxRecDepth 100000 in
set_option maxHeartbeats 4000000 in
theorem c_L_get (l : Launch) (hl0 : l.stackTraces = false) (g : zG) (L : List Nat) (f : Nat → va_E) (h : Nat) (P : Nat → Prop) (σ : ZS) (p0 : Int32) (o : Nat) (F : Nat → Int64) (hH : zHC g h P σ L f) (ho : zc L f o (.inl (g.2 1, 1, .inr (.inl F)))) (hPo : P o) : zC l yL_get wsL_get { frames := 10, cells := 3, slots := 18, locals := 168 } 3 18 g [.ref h, .int p0, .ref o] L f (fun r L1 f1 => some (.int (o_get σ p0).1) = r ∧ zHC g h P (o_get σ p0).2.2 L1 f1 ∧ (∃ F1 : Nat → Int64, f1 o = .inl (g.2 1, 1, .inr (.inl F1)) ∧ ((o_get σ p0).1 = 0 → F1 0 = (o_get σ p0).2.1)) ∧ ∀ b, P b → b ≠ o → f1 b = f b) zNo := by
  refine z_ofWH (cc := cL_get) (maxL := 4) (ret := (some .int)) (hh := [(0, 8, 11, 13), (0, 8, 14, 87)]) (by decide) rfl (Nat.le_of_ble_eq_true rfl) ?_
  intro p e s m args below meth c ls A hx hb hr hts hown hlocks hml htab hw hX hl
  have hl : lv_has ls 4 [(0, .ref h), (1, .int p0), (2, .ref o)] := hl
  have hown : s.vm.findClass RL = some m.cls := hown
  obtain ⟨fs9, hcb⟩ := zHC_obj hH
  refine lv_aload_n hx hb dL_get_0 rfl (lv_at hl 2 rfl) ?_
  refine lv_iconst (v := 0) hx hb dL_get_1 (by decide) ?_
  refine lv_aload_n hx hb dL_get_2 rfl (lv_at hl 0 rfl) ?_
  refine lv_iload_n hx hb dL_get_3 rfl (lv_at hl 1 rfl) ?_
  refine z_callV (As := [.int p0]) (rest := [.int 0, .ref o]) ⟨hx, hb, hml, hown, hts⟩ hw hX hcb rfl (c_X1_get l hl0 g L f h P σ p0 hH) (cwV 1 hts gL_get_X1_get rfl rfl rfl (by decide +kernel) ⟨(Nat.le_of_ble_eq_true rfl), (Nat.le_of_ble_eq_true rfl)⟩) rfl hl.1 rfl (Nat.le_of_ble_eq_true rfl) dL_get_4 ⟨(Nat.le_of_ble_eq_true rfl), (Nat.le_of_ble_eq_true rfl)⟩ (fun E ce q9 L9 f9 H locs hp hw hce hcv hcl => ?_) (fun r9 L9 f9 H locs hp hw => ?_)
  · obtain ⟨⟨j9, hj, hk⟩, rfl, rfl, hs9⟩ := hp
    cases j9 with
    | zero =>
      obtain rfl : "java/lang/IndexOutOfBoundsException" = E := Option.some.inj hj
      refine vx_catch (E := "java/lang/IndexOutOfBoundsException") hown (tableOf []) ⟨0, 8, 11, 13⟩ (tableOf [(0, 8, 14, 87)]) htab (fun z hz => (nomatch hz)) rfl (by decide) (hts (.classLink RL 13 "java/lang/IndexOutOfBoundsException") (by decide +kernel)) (va_tabs rfl rfl (hX.2.2.1 "java/lang/IndexOutOfBoundsException" (by decide))) hce hcv hcl ?_
      refine W.eq (g2 := F0 m 11 ls [.ref q9]) rfl ?_
      refine lv_astore_n (lv' := [(3, .ref q9), (0, .ref h), (1, .int p0), (2, .ref o)]) hx hb dL_get_11 rfl hl (by decide) rfl (fun ls hl => ?_)
      refine lv_iconst (v := 1) hx hb dL_get_12 (by decide) ?_
      exact z_iret hx hb hr hlocks hw (Nat.le_of_ble_eq_true rfl) (Nat.le_of_ble_eq_true rfl) dL_get_13 ⟨by rw [hk]; rfl, by rw [hs9]; exact hH, ⟨F, ho.2, fun h9 => absurd (hk.symm.trans h9) (by decide)⟩, fun b _ _ => rfl⟩
    | succ j9 =>
      cases j9 with
      | zero =>
        obtain rfl : "java/util/NoSuchElementException" = E := Option.some.inj hj
        refine vx_catch (E := "java/util/NoSuchElementException") hown (tableOf [(0, 8, 11, 13)]) ⟨0, 8, 14, 87⟩ (tableOf []) htab (fun z hz => ((List.mem_cons.mp hz).elim (fun e9 => by subst e9; exact Or.inr ⟨by decide, "java/lang/IndexOutOfBoundsException", hts (.classLink RL 13 "java/lang/IndexOutOfBoundsException") (by decide +kernel), hX.2.2.2.2.2.2.2.2 ("java/util/NoSuchElementException", "java/lang/IndexOutOfBoundsException") (by decide)⟩) (fun hz => (nomatch hz)))) rfl (by decide) (hts (.classLink RL 87 "java/util/NoSuchElementException") (by decide +kernel)) (va_tabs rfl rfl (hX.2.2.1 "java/util/NoSuchElementException" (by decide))) hce hcv hcl ?_
        refine W.eq (g2 := F0 m 14 ls [.ref q9]) rfl ?_
        refine lv_astore_n (lv' := [(3, .ref q9), (0, .ref h), (1, .int p0), (2, .ref o)]) hx hb dL_get_14 rfl hl (by decide) rfl (fun ls hl => ?_)
        refine lv_iconst (v := 2) hx hb dL_get_15 (by decide) ?_
        exact z_iret hx hb hr hlocks hw (Nat.le_of_ble_eq_true rfl) (Nat.le_of_ble_eq_true rfl) dL_get_16 ⟨by rw [hk]; rfl, by rw [hs9]; exact hH, ⟨F, ho.2, fun h9 => absurd (hk.symm.trans h9) (by decide)⟩, fun b _ _ => rfl⟩
      | succ j9 =>
        exact absurd hj (by simp)
  obtain ⟨ho0, rfl, hH1, hfr⟩ := hp
  have ho9 : zc L9 f9 o (.inl (g.2 1, 1, .inr (.inl F))) := ⟨zHC_in hH1 hPo, (hfr o hPo).trans ho.2⟩
  refine W.eq (g2 := F0 m 7 ls [.long (o_get σ p0).2.1, .int 0, .ref o]) rfl ?_
  refine zr_last hx hb hw ho9 (vp_in_iff.mpr (by decide)) dL_get_7 (fun H locs hw => ?_)
  refine lv_goto (tgt := 17) hx hb dL_get_8 (by decide) ?_
  refine lv_iconst (v := 0) hx hb dL_get_17 (by decide) ?_
  exact z_iret hx hb hr hlocks hw (Nat.le_of_ble_eq_true rfl) (Nat.le_of_ble_eq_true rfl) dL_get_18 ⟨by rw [ho0], zHC_fr hH1 (fun b hb => va_up_ne _ _ (show b ≠ o from fun e9 => hb (e9 ▸ hPo))), ⟨_, va_up_self _ _ _, fun _ => (if_pos rfl)⟩, fun b hb hne => (va_up_ne _ _ hne).trans (hfr b hb)⟩

set_option maxRecDepth 100000 in
set_option maxHeartbeats 4000000 in
theorem c_L_put (l : Launch) (hl0 : l.stackTraces = false) (g : zG) (L : List Nat) (f : Nat → va_E) (h : Nat) (P : Nat → Prop) (σ : ZS) (p0 : Int32) (p1 : Int64) (o : Nat) (F : Nat → Int64) (hH : zHC g h P σ L f) (ho : zc L f o (.inl (g.2 1, 1, .inr (.inl F)))) (hPo : P o) : zC l yL_put wsL_put { frames := 10, cells := 4, slots := 24, locals := 170 } 4 24 g [.ref h, .int p0, .long p1, .ref o] L f (fun r L1 f1 => some (.int (o_put σ p0 p1).1) = r ∧ zHC g h P (o_put σ p0 p1).2.2 L1 f1 ∧ (∃ F1 : Nat → Int64, f1 o = .inl (g.2 1, 1, .inr (.inl F1)) ∧ ((o_put σ p0 p1).1 = 0 → F1 0 = (o_put σ p0 p1).2.1.toInt64)) ∧ ∀ b, P b → b ≠ o → f1 b = f b) zNo := by
  refine z_ofWH (cc := cL_put) (maxL := 6) (ret := (some .int)) (hh := [(0, 11, 14, 13), (0, 11, 18, 81), (0, 11, 22, 67)]) (by decide) rfl (Nat.le_of_ble_eq_true rfl) ?_
  intro p e s m args below meth c ls A hx hb hr hts hown hlocks hml htab hw hX hl
  have hl : lv_has ls 6 [(0, .ref h), (1, .int p0), (2, .long p1), (4, .ref o)] := hl
  have hown : s.vm.findClass RL = some m.cls := hown
  obtain ⟨fs9, hcb⟩ := zHC_obj hH
  refine lv_aload hx hb dL_put_0 (lv_at hl 3 rfl) ?_
  refine lv_iconst (v := 0) hx hb dL_put_2 (by decide) ?_
  refine lv_aload_n hx hb dL_put_3 rfl (lv_at hl 0 rfl) ?_
  refine lv_iload_n hx hb dL_put_4 rfl (lv_at hl 1 rfl) ?_
  refine lv_lload_n hx hb dL_put_5 rfl (lv_at hl 2 rfl) ?_
  refine z_callV (As := [.int p0, .long p1]) (rest := [.int 0, .ref o]) ⟨hx, hb, hml, hown, hts⟩ hw hX hcb rfl (c_X1_put l hl0 g L f h P σ p0 p1 hH) (cwV 2 hts gL_put_X1_put rfl rfl rfl (by decide +kernel) ⟨(Nat.le_of_ble_eq_true rfl), (Nat.le_of_ble_eq_true rfl)⟩) rfl hl.1 rfl (Nat.le_of_ble_eq_true rfl) dL_put_6 ⟨(Nat.le_of_ble_eq_true rfl), (Nat.le_of_ble_eq_true rfl)⟩ (fun E ce q9 L9 f9 H locs hp hw hce hcv hcl => ?_) (fun r9 L9 f9 H locs hp hw => ?_)
  · obtain ⟨⟨j9, hj, hk⟩, rfl, rfl, hs9⟩ := hp
    cases j9 with
    | zero =>
      obtain rfl : "java/lang/IndexOutOfBoundsException" = E := Option.some.inj hj
      refine vx_catch (E := "java/lang/IndexOutOfBoundsException") hown (tableOf []) ⟨0, 11, 14, 13⟩ (tableOf [(0, 11, 18, 81), (0, 11, 22, 67)]) htab (fun z hz => (nomatch hz)) rfl (by decide) (hts (.classLink RL 13 "java/lang/IndexOutOfBoundsException") (by decide +kernel)) (va_tabs rfl rfl (hX.2.2.1 "java/lang/IndexOutOfBoundsException" (by decide))) hce hcv hcl ?_
      refine W.eq (g2 := F0 m 14 ls [.ref q9]) rfl ?_
      refine lv_astore (lv' := [(5, .ref q9), (0, .ref h), (1, .int p0), (2, .long p1), (4, .ref o)]) hx hb dL_put_14 hl (by decide) rfl (fun ls hl => ?_)
      refine lv_iconst (v := 1) hx hb dL_put_16 (by decide) ?_
      exact z_iret hx hb hr hlocks hw (Nat.le_of_ble_eq_true rfl) (Nat.le_of_ble_eq_true rfl) dL_put_17 ⟨by rw [hk]; rfl, by rw [hs9]; exact hH, ⟨F, ho.2, fun h9 => absurd (hk.symm.trans h9) (by decide)⟩, fun b _ _ => rfl⟩
    | succ j9 =>
      cases j9 with
      | zero =>
        obtain rfl : "java/lang/UnsupportedOperationException" = E := Option.some.inj hj
        refine vx_catch (E := "java/lang/UnsupportedOperationException") hown (tableOf [(0, 11, 14, 13)]) ⟨0, 11, 18, 81⟩ (tableOf [(0, 11, 22, 67)]) htab (fun z hz => ((List.mem_cons.mp hz).elim (fun e9 => by subst e9; exact Or.inr ⟨by decide, "java/lang/IndexOutOfBoundsException", hts (.classLink RL 13 "java/lang/IndexOutOfBoundsException") (by decide +kernel), hX.2.2.2.2.2.2.2.2 ("java/lang/UnsupportedOperationException", "java/lang/IndexOutOfBoundsException") (by decide)⟩) (fun hz => (nomatch hz)))) rfl (by decide) (hts (.classLink RL 81 "java/lang/UnsupportedOperationException") (by decide +kernel)) (va_tabs rfl rfl (hX.2.2.1 "java/lang/UnsupportedOperationException" (by decide))) hce hcv hcl ?_
        refine W.eq (g2 := F0 m 18 ls [.ref q9]) rfl ?_
        refine lv_astore (lv' := [(5, .ref q9), (0, .ref h), (1, .int p0), (2, .long p1), (4, .ref o)]) hx hb dL_put_18 hl (by decide) rfl (fun ls hl => ?_)
        refine lv_iconst (v := 2) hx hb dL_put_20 (by decide) ?_
        exact z_iret hx hb hr hlocks hw (Nat.le_of_ble_eq_true rfl) (Nat.le_of_ble_eq_true rfl) dL_put_21 ⟨by rw [hk]; rfl, by rw [hs9]; exact hH, ⟨F, ho.2, fun h9 => absurd (hk.symm.trans h9) (by decide)⟩, fun b _ _ => rfl⟩
      | succ j9 =>
        cases j9 with
        | zero =>
          obtain rfl : "java/lang/IllegalStateException" = E := Option.some.inj hj
          refine vx_catch (E := "java/lang/IllegalStateException") hown (tableOf [(0, 11, 14, 13), (0, 11, 18, 81)]) ⟨0, 11, 22, 67⟩ (tableOf []) htab (fun z hz => ((List.mem_cons.mp hz).elim (fun e9 => by subst e9; exact Or.inr ⟨by decide, "java/lang/IndexOutOfBoundsException", hts (.classLink RL 13 "java/lang/IndexOutOfBoundsException") (by decide +kernel), hX.2.2.2.2.2.2.2.2 ("java/lang/IllegalStateException", "java/lang/IndexOutOfBoundsException") (by decide)⟩) (fun hz => ((List.mem_cons.mp hz).elim (fun e9 => by subst e9; exact Or.inr ⟨by decide, "java/lang/UnsupportedOperationException", hts (.classLink RL 81 "java/lang/UnsupportedOperationException") (by decide +kernel), hX.2.2.2.2.2.2.2.2 ("java/lang/IllegalStateException", "java/lang/UnsupportedOperationException") (by decide)⟩) (fun hz => (nomatch hz)))))) rfl (by decide) (hts (.classLink RL 67 "java/lang/IllegalStateException") (by decide +kernel)) (va_tabs rfl rfl (hX.2.2.1 "java/lang/IllegalStateException" (by decide))) hce hcv hcl ?_
          refine W.eq (g2 := F0 m 22 ls [.ref q9]) rfl ?_
          refine lv_astore (lv' := [(5, .ref q9), (0, .ref h), (1, .int p0), (2, .long p1), (4, .ref o)]) hx hb dL_put_22 hl (by decide) rfl (fun ls hl => ?_)
          refine lv_iconst (v := 3) hx hb dL_put_24 (by decide) ?_
          exact z_iret hx hb hr hlocks hw (Nat.le_of_ble_eq_true rfl) (Nat.le_of_ble_eq_true rfl) dL_put_25 ⟨by rw [hk]; rfl, by rw [hs9]; exact hH, ⟨F, ho.2, fun h9 => absurd (hk.symm.trans h9) (by decide)⟩, fun b _ _ => rfl⟩
        | succ j9 =>
          exact absurd hj (by simp)
  obtain ⟨ho0, rfl, hH1, hfr⟩ := hp
  have ho9 : zc L9 f9 o (.inl (g.2 1, 1, .inr (.inl F))) := ⟨zHC_in hH1 hPo, (hfr o hPo).trans ho.2⟩
  refine W.eq (g2 := F0 m 9 ls [.int (o_put σ p0 p1).2.1, .int 0, .ref o]) rfl ?_
  refine lv_i2l (v := ((o_put σ p0 p1).2.1).toInt64) hx hb dL_put_9 rfl ?_
  refine zr_last hx hb hw ho9 (vp_in_iff.mpr (by decide)) dL_put_10 (fun H locs hw => ?_)
  refine lv_goto (tgt := 26) hx hb dL_put_11 (by decide) ?_
  refine lv_iconst (v := 0) hx hb dL_put_26 (by decide) ?_
  exact z_iret hx hb hr hlocks hw (Nat.le_of_ble_eq_true rfl) (Nat.le_of_ble_eq_true rfl) dL_put_27 ⟨by rw [ho0], zHC_fr hH1 (fun b hb => va_up_ne _ _ (show b ≠ o from fun e9 => hb (e9 ▸ hPo))), ⟨_, va_up_self _ _ _, fun _ => (if_pos rfl)⟩, fun b hb hne => (va_up_ne _ _ hne).trans (hfr b hb)⟩

set_option maxRecDepth 100000 in
set_option maxHeartbeats 4000000 in
theorem c_L_getAt (l : Launch) (hl0 : l.stackTraces = false) (g : zG) (L : List Nat) (f : Nat → va_E) (h : Nat) (P : Nat → Prop) (σ : ZS) (p0 : Int32) (p1 : Int32) (o : Nat) (F : Nat → Int64) (hH : zHC g h P σ L f) (ho : zc L f o (.inl (g.2 1, 1, .inr (.inl F)))) (hPo : P o) : zC l yL_getAt wsL_getAt { frames := 10, cells := 3, slots := 18, locals := 169 } 3 18 g [.ref h, .int p0, .int p1, .ref o] L f (fun r L1 f1 => some (.int (o_getAt σ p0 p1).1) = r ∧ zHC g h P (o_getAt σ p0 p1).2.2 L1 f1 ∧ (∃ F1 : Nat → Int64, f1 o = .inl (g.2 1, 1, .inr (.inl F1)) ∧ ((o_getAt σ p0 p1).1 = 0 → F1 0 = (o_getAt σ p0 p1).2.1)) ∧ ∀ b, P b → b ≠ o → f1 b = f b) zNo := by
  refine z_ofWH (cc := cL_getAt) (maxL := 5) (ret := (some .int)) (hh := [(0, 9, 12, 13)]) (by decide) rfl (Nat.le_of_ble_eq_true rfl) ?_
  intro p e s m args below meth c ls A hx hb hr hts hown hlocks hml htab hw hX hl
  have hl : lv_has ls 5 [(0, .ref h), (1, .int p0), (2, .int p1), (3, .ref o)] := hl
  have hown : s.vm.findClass RL = some m.cls := hown
  obtain ⟨fs9, hcb⟩ := zHC_obj hH
  refine lv_aload_n hx hb dL_getAt_0 rfl (lv_at hl 3 rfl) ?_
  refine lv_iconst (v := 0) hx hb dL_getAt_1 (by decide) ?_
  refine lv_aload_n hx hb dL_getAt_2 rfl (lv_at hl 0 rfl) ?_
  refine lv_iload_n hx hb dL_getAt_3 rfl (lv_at hl 1 rfl) ?_
  refine lv_iload_n hx hb dL_getAt_4 rfl (lv_at hl 2 rfl) ?_
  refine z_callV (As := [.int p0, .int p1]) (rest := [.int 0, .ref o]) ⟨hx, hb, hml, hown, hts⟩ hw hX hcb rfl (c_X1_getAt l hl0 g L f h P σ p0 p1 hH) (cwV 2 hts gL_getAt_X1_getAt rfl rfl rfl (by decide +kernel) ⟨(Nat.le_of_ble_eq_true rfl), (Nat.le_of_ble_eq_true rfl)⟩) rfl hl.1 rfl (Nat.le_of_ble_eq_true rfl) dL_getAt_5 ⟨(Nat.le_of_ble_eq_true rfl), (Nat.le_of_ble_eq_true rfl)⟩ (fun E ce q9 L9 f9 H locs hp hw hce hcv hcl => ?_) (fun r9 L9 f9 H locs hp hw => ?_)
  · obtain ⟨⟨j9, hj, hk⟩, rfl, rfl, hs9⟩ := hp
    cases j9 with
    | zero =>
      obtain rfl : "java/lang/IndexOutOfBoundsException" = E := Option.some.inj hj
      refine vx_catch (E := "java/lang/IndexOutOfBoundsException") hown (tableOf []) ⟨0, 9, 12, 13⟩ (tableOf []) htab (fun z hz => (nomatch hz)) rfl (by decide) (hts (.classLink RL 13 "java/lang/IndexOutOfBoundsException") (by decide +kernel)) (va_tabs rfl rfl (hX.2.2.1 "java/lang/IndexOutOfBoundsException" (by decide))) hce hcv hcl ?_
      refine W.eq (g2 := F0 m 12 ls [.ref q9]) rfl ?_
      refine lv_astore (lv' := [(4, .ref q9), (0, .ref h), (1, .int p0), (2, .int p1), (3, .ref o)]) hx hb dL_getAt_12 hl (by decide) rfl (fun ls hl => ?_)
      refine lv_iconst (v := 1) hx hb dL_getAt_14 (by decide) ?_
      exact z_iret hx hb hr hlocks hw (Nat.le_of_ble_eq_true rfl) (Nat.le_of_ble_eq_true rfl) dL_getAt_15 ⟨by rw [hk]; rfl, by rw [hs9]; exact hH, ⟨F, ho.2, fun h9 => absurd (hk.symm.trans h9) (by decide)⟩, fun b _ _ => rfl⟩
    | succ j9 =>
      exact absurd hj (by simp)
  obtain ⟨ho0, rfl, hH1, hfr⟩ := hp
  have ho9 : zc L9 f9 o (.inl (g.2 1, 1, .inr (.inl F))) := ⟨zHC_in hH1 hPo, (hfr o hPo).trans ho.2⟩
  refine W.eq (g2 := F0 m 8 ls [.long (o_getAt σ p0 p1).2.1, .int 0, .ref o]) rfl ?_
  refine zr_last hx hb hw ho9 (vp_in_iff.mpr (by decide)) dL_getAt_8 (fun H locs hw => ?_)
  refine lv_goto (tgt := 16) hx hb dL_getAt_9 (by decide) ?_
  refine lv_iconst (v := 0) hx hb dL_getAt_16 (by decide) ?_
  exact z_iret hx hb hr hlocks hw (Nat.le_of_ble_eq_true rfl) (Nat.le_of_ble_eq_true rfl) dL_getAt_17 ⟨by rw [ho0], zHC_fr hH1 (fun b hb => va_up_ne _ _ (show b ≠ o from fun e9 => hb (e9 ▸ hPo))), ⟨_, va_up_self _ _ _, fun _ => (if_pos rfl)⟩, fun b hb hne => (va_up_ne _ _ hne).trans (hfr b hb)⟩

set_option maxRecDepth 100000 in
set_option maxHeartbeats 4000000 in
theorem c_L_putAt (l : Launch) (hl0 : l.stackTraces = false) (g : zG) (L : List Nat) (f : Nat → va_E) (h : Nat) (P : Nat → Prop) (σ : ZS) (p0 : Int32) (p1 : Int32) (p2 : Int64) (o : Nat) (F : Nat → Int64) (hH : zHC g h P σ L f) (ho : zc L f o (.inl (g.2 1, 1, .inr (.inl F)))) (hPo : P o) : zC l yL_putAt wsL_putAt { frames := 10, cells := 4, slots := 24, locals := 173 } 4 24 g [.ref h, .int p0, .int p1, .long p2, .ref o] L f (fun r L1 f1 => some (.int (o_putAt σ p0 p1 p2).1) = r ∧ zHC g h P (o_putAt σ p0 p1 p2).2.2 L1 f1 ∧ (∃ F1 : Nat → Int64, f1 o = .inl (g.2 1, 1, .inr (.inl F1)) ∧ ((o_putAt σ p0 p1 p2).1 = 0 → F1 0 = (o_putAt σ p0 p1 p2).2.1)) ∧ ∀ b, P b → b ≠ o → f1 b = f b) zNo := by
  refine z_ofWH (cc := cL_putAt) (maxL := 7) (ret := (some .int)) (hh := [(0, 11, 14, 13), (0, 11, 18, 81)]) (by decide) rfl (Nat.le_of_ble_eq_true rfl) ?_
  intro p e s m args below meth c ls A hx hb hr hts hown hlocks hml htab hw hX hl
  have hl : lv_has ls 7 [(0, .ref h), (1, .int p0), (2, .int p1), (3, .long p2), (5, .ref o)] := hl
  have hown : s.vm.findClass RL = some m.cls := hown
  obtain ⟨fs9, hcb⟩ := zHC_obj hH
  refine lv_aload hx hb dL_putAt_0 (lv_at hl 4 rfl) ?_
  refine lv_iconst (v := 0) hx hb dL_putAt_2 (by decide) ?_
  refine lv_aload_n hx hb dL_putAt_3 rfl (lv_at hl 0 rfl) ?_
  refine lv_iload_n hx hb dL_putAt_4 rfl (lv_at hl 1 rfl) ?_
  refine lv_iload_n hx hb dL_putAt_5 rfl (lv_at hl 2 rfl) ?_
  refine lv_lload_n hx hb dL_putAt_6 rfl (lv_at hl 3 rfl) ?_
  refine z_callV (As := [.int p0, .int p1, .long p2]) (rest := [.int 0, .ref o]) ⟨hx, hb, hml, hown, hts⟩ hw hX hcb rfl (c_X1_putAt l hl0 g L f h P σ p0 p1 p2 hH) (cwV 3 hts gL_putAt_X1_putAt rfl rfl rfl (by decide +kernel) ⟨(Nat.le_of_ble_eq_true rfl), (Nat.le_of_ble_eq_true rfl)⟩) rfl hl.1 rfl (Nat.le_of_ble_eq_true rfl) dL_putAt_7 ⟨(Nat.le_of_ble_eq_true rfl), (Nat.le_of_ble_eq_true rfl)⟩ (fun E ce q9 L9 f9 H locs hp hw hce hcv hcl => ?_) (fun r9 L9 f9 H locs hp hw => ?_)
  · obtain ⟨⟨j9, hj, hk⟩, rfl, rfl, hs9⟩ := hp
    cases j9 with
    | zero =>
      obtain rfl : "java/lang/IndexOutOfBoundsException" = E := Option.some.inj hj
      refine vx_catch (E := "java/lang/IndexOutOfBoundsException") hown (tableOf []) ⟨0, 11, 14, 13⟩ (tableOf [(0, 11, 18, 81)]) htab (fun z hz => (nomatch hz)) rfl (by decide) (hts (.classLink RL 13 "java/lang/IndexOutOfBoundsException") (by decide +kernel)) (va_tabs rfl rfl (hX.2.2.1 "java/lang/IndexOutOfBoundsException" (by decide))) hce hcv hcl ?_
      refine W.eq (g2 := F0 m 14 ls [.ref q9]) rfl ?_
      refine lv_astore (lv' := [(6, .ref q9), (0, .ref h), (1, .int p0), (2, .int p1), (3, .long p2), (5, .ref o)]) hx hb dL_putAt_14 hl (by decide) rfl (fun ls hl => ?_)
      refine lv_iconst (v := 1) hx hb dL_putAt_16 (by decide) ?_
      exact z_iret hx hb hr hlocks hw (Nat.le_of_ble_eq_true rfl) (Nat.le_of_ble_eq_true rfl) dL_putAt_17 ⟨by rw [hk]; rfl, by rw [hs9]; exact hH, ⟨F, ho.2, fun h9 => absurd (hk.symm.trans h9) (by decide)⟩, fun b _ _ => rfl⟩
    | succ j9 =>
      cases j9 with
      | zero =>
        obtain rfl : "java/lang/UnsupportedOperationException" = E := Option.some.inj hj
        refine vx_catch (E := "java/lang/UnsupportedOperationException") hown (tableOf [(0, 11, 14, 13)]) ⟨0, 11, 18, 81⟩ (tableOf []) htab (fun z hz => ((List.mem_cons.mp hz).elim (fun e9 => by subst e9; exact Or.inr ⟨by decide, "java/lang/IndexOutOfBoundsException", hts (.classLink RL 13 "java/lang/IndexOutOfBoundsException") (by decide +kernel), hX.2.2.2.2.2.2.2.2 ("java/lang/UnsupportedOperationException", "java/lang/IndexOutOfBoundsException") (by decide)⟩) (fun hz => (nomatch hz)))) rfl (by decide) (hts (.classLink RL 81 "java/lang/UnsupportedOperationException") (by decide +kernel)) (va_tabs rfl rfl (hX.2.2.1 "java/lang/UnsupportedOperationException" (by decide))) hce hcv hcl ?_
        refine W.eq (g2 := F0 m 18 ls [.ref q9]) rfl ?_
        refine lv_astore (lv' := [(6, .ref q9), (0, .ref h), (1, .int p0), (2, .int p1), (3, .long p2), (5, .ref o)]) hx hb dL_putAt_18 hl (by decide) rfl (fun ls hl => ?_)
        refine lv_iconst (v := 2) hx hb dL_putAt_20 (by decide) ?_
        exact z_iret hx hb hr hlocks hw (Nat.le_of_ble_eq_true rfl) (Nat.le_of_ble_eq_true rfl) dL_putAt_21 ⟨by rw [hk]; rfl, by rw [hs9]; exact hH, ⟨F, ho.2, fun h9 => absurd (hk.symm.trans h9) (by decide)⟩, fun b _ _ => rfl⟩
      | succ j9 =>
        exact absurd hj (by simp)
  obtain ⟨ho0, rfl, hH1, hfr⟩ := hp
  have ho9 : zc L9 f9 o (.inl (g.2 1, 1, .inr (.inl F))) := ⟨zHC_in hH1 hPo, (hfr o hPo).trans ho.2⟩
  refine W.eq (g2 := F0 m 10 ls [.long (o_putAt σ p0 p1 p2).2.1, .int 0, .ref o]) rfl ?_
  refine zr_last hx hb hw ho9 (vp_in_iff.mpr (by decide)) dL_putAt_10 (fun H locs hw => ?_)
  refine lv_goto (tgt := 22) hx hb dL_putAt_11 (by decide) ?_
  refine lv_iconst (v := 0) hx hb dL_putAt_22 (by decide) ?_
  exact z_iret hx hb hr hlocks hw (Nat.le_of_ble_eq_true rfl) (Nat.le_of_ble_eq_true rfl) dL_putAt_23 ⟨by rw [ho0], zHC_fr hH1 (fun b hb => va_up_ne _ _ (show b ≠ o from fun e9 => hb (e9 ▸ hPo))), ⟨_, va_up_self _ _ _, fun _ => (if_pos rfl)⟩, fun b hb hne => (va_up_ne _ _ hne).trans (hfr b hb)⟩

set_option maxRecDepth 100000 in
set_option maxHeartbeats 4000000 in
theorem c_L_fill (l : Launch) (hl0 : l.stackTraces = false) (g : zG) (L : List Nat) (f : Nat → va_E) (h : Nat) (P : Nat → Prop) (σ : ZS) (p0 : Int32) (p1 : Int32) (p2 : Int64) (p3 : Int64) (o : Nat) (F : Nat → Int64) (hH : zHC g h P σ L f) (ho : zc L f o (.inl (g.2 1, 1, .inr (.inl F)))) (hPo : P o) : zC l yL_fill wsL_fill { frames := 10, cells := 5, slots := 30, locals := 176 } 5 30 g [.ref h, .int p0, .int p1, .long p2, .long p3, .ref o] L f (fun r L1 f1 => some (.int (o_fill σ p0 p1 p2 p3).1) = r ∧ zHC g h P (o_fill σ p0 p1 p2 p3).2.2 L1 f1 ∧ (∃ F1 : Nat → Int64, f1 o = .inl (g.2 1, 1, .inr (.inl F1)) ∧ ((o_fill σ p0 p1 p2 p3).1 = 0 → F1 0 = (o_fill σ p0 p1 p2 p3).2.1.toInt64)) ∧ ∀ b, P b → b ≠ o → f1 b = f b) zNo := by
  refine z_ofWH (cc := cL_fill) (maxL := 9) (ret := (some .int)) (hh := [(0, 14, 17, 13), (0, 14, 21, 15), (0, 14, 25, 81), (0, 14, 29, 67)]) (by decide) rfl (Nat.le_of_ble_eq_true rfl) ?_
  intro p e s m args below meth c ls A hx hb hr hts hown hlocks hml htab hw hX hl
  have hl : lv_has ls 9 [(0, .ref h), (1, .int p0), (2, .int p1), (3, .long p2), (5, .long p3), (7, .ref o)] := hl
  have hown : s.vm.findClass RL = some m.cls := hown
  obtain ⟨fs9, hcb⟩ := zHC_obj hH
  refine lv_aload hx hb dL_fill_0 (lv_at hl 5 rfl) ?_
  refine lv_iconst (v := 0) hx hb dL_fill_2 (by decide) ?_
  refine lv_aload_n hx hb dL_fill_3 rfl (lv_at hl 0 rfl) ?_
  refine lv_iload_n hx hb dL_fill_4 rfl (lv_at hl 1 rfl) ?_
  refine lv_iload_n hx hb dL_fill_5 rfl (lv_at hl 2 rfl) ?_
  refine lv_lload_n hx hb dL_fill_6 rfl (lv_at hl 3 rfl) ?_
  refine lv_lload hx hb dL_fill_7 (lv_at hl 4 rfl) ?_
  refine z_callV (As := [.int p0, .int p1, .long p2, .long p3]) (rest := [.int 0, .ref o]) ⟨hx, hb, hml, hown, hts⟩ hw hX hcb rfl (c_X1_fill l hl0 g L f h P σ p0 p1 p2 p3 hH) (cwV 4 hts gL_fill_X1_fill rfl rfl rfl (by decide +kernel) ⟨(Nat.le_of_ble_eq_true rfl), (Nat.le_of_ble_eq_true rfl)⟩) rfl hl.1 rfl (Nat.le_of_ble_eq_true rfl) dL_fill_9 ⟨(Nat.le_of_ble_eq_true rfl), (Nat.le_of_ble_eq_true rfl)⟩ (fun E ce q9 L9 f9 H locs hp hw hce hcv hcl => ?_) (fun r9 L9 f9 H locs hp hw => ?_)
  · obtain ⟨⟨j9, hj, hk⟩, rfl, rfl, hs9⟩ := hp
    cases j9 with
    | zero =>
      obtain rfl : "java/lang/IndexOutOfBoundsException" = E := Option.some.inj hj
      refine vx_catch (E := "java/lang/IndexOutOfBoundsException") hown (tableOf []) ⟨0, 14, 17, 13⟩ (tableOf [(0, 14, 21, 15), (0, 14, 25, 81), (0, 14, 29, 67)]) htab (fun z hz => (nomatch hz)) rfl (by decide) (hts (.classLink RL 13 "java/lang/IndexOutOfBoundsException") (by decide +kernel)) (va_tabs rfl rfl (hX.2.2.1 "java/lang/IndexOutOfBoundsException" (by decide))) hce hcv hcl ?_
      refine W.eq (g2 := F0 m 17 ls [.ref q9]) rfl ?_
      refine lv_astore (lv' := [(8, .ref q9), (0, .ref h), (1, .int p0), (2, .int p1), (3, .long p2), (5, .long p3), (7, .ref o)]) hx hb dL_fill_17 hl (by decide) rfl (fun ls hl => ?_)
      refine lv_iconst (v := 1) hx hb dL_fill_19 (by decide) ?_
      exact z_iret hx hb hr hlocks hw (Nat.le_of_ble_eq_true rfl) (Nat.le_of_ble_eq_true rfl) dL_fill_20 ⟨by rw [hk]; rfl, by rw [hs9]; exact hH, ⟨F, ho.2, fun h9 => absurd (hk.symm.trans h9) (by decide)⟩, fun b _ _ => rfl⟩
    | succ j9 =>
      cases j9 with
      | zero =>
        obtain rfl : "java/lang/IllegalArgumentException" = E := Option.some.inj hj
        refine vx_catch (E := "java/lang/IllegalArgumentException") hown (tableOf [(0, 14, 17, 13)]) ⟨0, 14, 21, 15⟩ (tableOf [(0, 14, 25, 81), (0, 14, 29, 67)]) htab (fun z hz => ((List.mem_cons.mp hz).elim (fun e9 => by subst e9; exact Or.inr ⟨by decide, "java/lang/IndexOutOfBoundsException", hts (.classLink RL 13 "java/lang/IndexOutOfBoundsException") (by decide +kernel), hX.2.2.2.2.2.2.2.2 ("java/lang/IllegalArgumentException", "java/lang/IndexOutOfBoundsException") (by decide)⟩) (fun hz => (nomatch hz)))) rfl (by decide) (hts (.classLink RL 15 "java/lang/IllegalArgumentException") (by decide +kernel)) (va_tabs rfl rfl (hX.2.2.1 "java/lang/IllegalArgumentException" (by decide))) hce hcv hcl ?_
        refine W.eq (g2 := F0 m 21 ls [.ref q9]) rfl ?_
        refine lv_astore (lv' := [(8, .ref q9), (0, .ref h), (1, .int p0), (2, .int p1), (3, .long p2), (5, .long p3), (7, .ref o)]) hx hb dL_fill_21 hl (by decide) rfl (fun ls hl => ?_)
        refine lv_iconst (v := 2) hx hb dL_fill_23 (by decide) ?_
        exact z_iret hx hb hr hlocks hw (Nat.le_of_ble_eq_true rfl) (Nat.le_of_ble_eq_true rfl) dL_fill_24 ⟨by rw [hk]; rfl, by rw [hs9]; exact hH, ⟨F, ho.2, fun h9 => absurd (hk.symm.trans h9) (by decide)⟩, fun b _ _ => rfl⟩
      | succ j9 =>
        cases j9 with
        | zero =>
          obtain rfl : "java/lang/UnsupportedOperationException" = E := Option.some.inj hj
          refine vx_catch (E := "java/lang/UnsupportedOperationException") hown (tableOf [(0, 14, 17, 13), (0, 14, 21, 15)]) ⟨0, 14, 25, 81⟩ (tableOf [(0, 14, 29, 67)]) htab (fun z hz => ((List.mem_cons.mp hz).elim (fun e9 => by subst e9; exact Or.inr ⟨by decide, "java/lang/IndexOutOfBoundsException", hts (.classLink RL 13 "java/lang/IndexOutOfBoundsException") (by decide +kernel), hX.2.2.2.2.2.2.2.2 ("java/lang/UnsupportedOperationException", "java/lang/IndexOutOfBoundsException") (by decide)⟩) (fun hz => ((List.mem_cons.mp hz).elim (fun e9 => by subst e9; exact Or.inr ⟨by decide, "java/lang/IllegalArgumentException", hts (.classLink RL 15 "java/lang/IllegalArgumentException") (by decide +kernel), hX.2.2.2.2.2.2.2.2 ("java/lang/UnsupportedOperationException", "java/lang/IllegalArgumentException") (by decide)⟩) (fun hz => (nomatch hz)))))) rfl (by decide) (hts (.classLink RL 81 "java/lang/UnsupportedOperationException") (by decide +kernel)) (va_tabs rfl rfl (hX.2.2.1 "java/lang/UnsupportedOperationException" (by decide))) hce hcv hcl ?_
          refine W.eq (g2 := F0 m 25 ls [.ref q9]) rfl ?_
          refine lv_astore (lv' := [(8, .ref q9), (0, .ref h), (1, .int p0), (2, .int p1), (3, .long p2), (5, .long p3), (7, .ref o)]) hx hb dL_fill_25 hl (by decide) rfl (fun ls hl => ?_)
          refine lv_iconst (v := 3) hx hb dL_fill_27 (by decide) ?_
          exact z_iret hx hb hr hlocks hw (Nat.le_of_ble_eq_true rfl) (Nat.le_of_ble_eq_true rfl) dL_fill_28 ⟨by rw [hk]; rfl, by rw [hs9]; exact hH, ⟨F, ho.2, fun h9 => absurd (hk.symm.trans h9) (by decide)⟩, fun b _ _ => rfl⟩
        | succ j9 =>
          cases j9 with
          | zero =>
            obtain rfl : "java/lang/IllegalStateException" = E := Option.some.inj hj
            refine vx_catch (E := "java/lang/IllegalStateException") hown (tableOf [(0, 14, 17, 13), (0, 14, 21, 15), (0, 14, 25, 81)]) ⟨0, 14, 29, 67⟩ (tableOf []) htab (fun z hz => ((List.mem_cons.mp hz).elim (fun e9 => by subst e9; exact Or.inr ⟨by decide, "java/lang/IndexOutOfBoundsException", hts (.classLink RL 13 "java/lang/IndexOutOfBoundsException") (by decide +kernel), hX.2.2.2.2.2.2.2.2 ("java/lang/IllegalStateException", "java/lang/IndexOutOfBoundsException") (by decide)⟩) (fun hz => ((List.mem_cons.mp hz).elim (fun e9 => by subst e9; exact Or.inr ⟨by decide, "java/lang/IllegalArgumentException", hts (.classLink RL 15 "java/lang/IllegalArgumentException") (by decide +kernel), hX.2.2.2.2.2.2.2.2 ("java/lang/IllegalStateException", "java/lang/IllegalArgumentException") (by decide)⟩) (fun hz => ((List.mem_cons.mp hz).elim (fun e9 => by subst e9; exact Or.inr ⟨by decide, "java/lang/UnsupportedOperationException", hts (.classLink RL 81 "java/lang/UnsupportedOperationException") (by decide +kernel), hX.2.2.2.2.2.2.2.2 ("java/lang/IllegalStateException", "java/lang/UnsupportedOperationException") (by decide)⟩) (fun hz => (nomatch hz)))))))) rfl (by decide) (hts (.classLink RL 67 "java/lang/IllegalStateException") (by decide +kernel)) (va_tabs rfl rfl (hX.2.2.1 "java/lang/IllegalStateException" (by decide))) hce hcv hcl ?_
            refine W.eq (g2 := F0 m 29 ls [.ref q9]) rfl ?_
            refine lv_astore (lv' := [(8, .ref q9), (0, .ref h), (1, .int p0), (2, .int p1), (3, .long p2), (5, .long p3), (7, .ref o)]) hx hb dL_fill_29 hl (by decide) rfl (fun ls hl => ?_)
            refine lv_iconst (v := 4) hx hb dL_fill_31 (by decide) ?_
            exact z_iret hx hb hr hlocks hw (Nat.le_of_ble_eq_true rfl) (Nat.le_of_ble_eq_true rfl) dL_fill_32 ⟨by rw [hk]; rfl, by rw [hs9]; exact hH, ⟨F, ho.2, fun h9 => absurd (hk.symm.trans h9) (by decide)⟩, fun b _ _ => rfl⟩
          | succ j9 =>
            exact absurd hj (by simp)
  obtain ⟨ho0, rfl, hH1, hfr⟩ := hp
  have ho9 : zc L9 f9 o (.inl (g.2 1, 1, .inr (.inl F))) := ⟨zHC_in hH1 hPo, (hfr o hPo).trans ho.2⟩
  refine W.eq (g2 := F0 m 12 ls [.int (o_fill σ p0 p1 p2 p3).2.1, .int 0, .ref o]) rfl ?_
  refine lv_i2l (v := ((o_fill σ p0 p1 p2 p3).2.1).toInt64) hx hb dL_fill_12 rfl ?_
  refine zr_last hx hb hw ho9 (vp_in_iff.mpr (by decide)) dL_fill_13 (fun H locs hw => ?_)
  refine lv_goto (tgt := 33) hx hb dL_fill_14 (by decide) ?_
  refine lv_iconst (v := 0) hx hb dL_fill_33 (by decide) ?_
  exact z_iret hx hb hr hlocks hw (Nat.le_of_ble_eq_true rfl) (Nat.le_of_ble_eq_true rfl) dL_fill_34 ⟨by rw [ho0], zHC_fr hH1 (fun b hb => va_up_ne _ _ (show b ≠ o from fun e9 => hb (e9 ▸ hPo))), ⟨_, va_up_self _ _ _, fun _ => (if_pos rfl)⟩, fun b hb hne => (va_up_ne _ _ hne).trans (hfr b hb)⟩

set_option maxRecDepth 100000 in
set_option maxHeartbeats 4000000 in
theorem c_L_pour (l : Launch) (hl0 : l.stackTraces = false) (g : zG) (L : List Nat) (f : Nat → va_E) (h : Nat) (P : Nat → Prop) (σ : ZS) (p0 : Int32) (p1 : Int32) (p2 : Int32) (o : Nat) (F : Nat → Int64) (hH : zHC g h P σ L f) (ho : zc L f o (.inl (g.2 1, 1, .inr (.inl F)))) (hPo : P o) : zC l yL_pour wsL_pour { frames := 10, cells := 8, slots := 48, locals := 172 } 8 48 g [.ref h, .int p0, .int p1, .int p2, .ref o] L f (fun r L1 f1 => some (.int (o_pour σ p0 p1 p2).1) = r ∧ zHC g h P (o_pour σ p0 p1 p2).2.2 L1 f1 ∧ (∃ F1 : Nat → Int64, f1 o = .inl (g.2 1, 1, .inr (.inl F1)) ∧ ((o_pour σ p0 p1 p2).1 = 0 → F1 0 = (o_pour σ p0 p1 p2).2.1.toInt64)) ∧ ∀ b, P b → b ≠ o → f1 b = f b) zNo := by
  refine z_ofWH (cc := cL_pour) (maxL := 6) (ret := (some .int)) (hh := [(0, 12, 15, 13), (0, 12, 19, 15), (0, 12, 23, 81), (0, 12, 27, 87), (0, 12, 31, 67)]) (by decide) rfl (Nat.le_of_ble_eq_true rfl) ?_
  intro p e s m args below meth c ls A hx hb hr hts hown hlocks hml htab hw hX hl
  have hl : lv_has ls 6 [(0, .ref h), (1, .int p0), (2, .int p1), (3, .int p2), (4, .ref o)] := hl
  have hown : s.vm.findClass RL = some m.cls := hown
  obtain ⟨fs9, hcb⟩ := zHC_obj hH
  refine lv_aload hx hb dL_pour_0 (lv_at hl 4 rfl) ?_
  refine lv_iconst (v := 0) hx hb dL_pour_2 (by decide) ?_
  refine lv_aload_n hx hb dL_pour_3 rfl (lv_at hl 0 rfl) ?_
  refine lv_iload_n hx hb dL_pour_4 rfl (lv_at hl 1 rfl) ?_
  refine lv_iload_n hx hb dL_pour_5 rfl (lv_at hl 2 rfl) ?_
  refine lv_iload_n hx hb dL_pour_6 rfl (lv_at hl 3 rfl) ?_
  refine z_callV (As := [.int p0, .int p1, .int p2]) (rest := [.int 0, .ref o]) ⟨hx, hb, hml, hown, hts⟩ hw hX hcb rfl (c_X1_pour l hl0 g L f h P σ p0 p1 p2 hH) (cwV 3 hts gL_pour_X1_pour rfl rfl rfl (by decide +kernel) ⟨(Nat.le_of_ble_eq_true rfl), (Nat.le_of_ble_eq_true rfl)⟩) rfl hl.1 rfl (Nat.le_of_ble_eq_true rfl) dL_pour_7 ⟨(Nat.le_of_ble_eq_true rfl), (Nat.le_of_ble_eq_true rfl)⟩ (fun E ce q9 L9 f9 H locs hp hw hce hcv hcl => ?_) (fun r9 L9 f9 H locs hp hw => ?_)
  · obtain ⟨⟨j9, hj, hk⟩, rfl, rfl, hs9⟩ := hp
    cases j9 with
    | zero =>
      obtain rfl : "java/lang/IndexOutOfBoundsException" = E := Option.some.inj hj
      refine vx_catch (E := "java/lang/IndexOutOfBoundsException") hown (tableOf []) ⟨0, 12, 15, 13⟩ (tableOf [(0, 12, 19, 15), (0, 12, 23, 81), (0, 12, 27, 87), (0, 12, 31, 67)]) htab (fun z hz => (nomatch hz)) rfl (by decide) (hts (.classLink RL 13 "java/lang/IndexOutOfBoundsException") (by decide +kernel)) (va_tabs rfl rfl (hX.2.2.1 "java/lang/IndexOutOfBoundsException" (by decide))) hce hcv hcl ?_
      refine W.eq (g2 := F0 m 15 ls [.ref q9]) rfl ?_
      refine lv_astore (lv' := [(5, .ref q9), (0, .ref h), (1, .int p0), (2, .int p1), (3, .int p2), (4, .ref o)]) hx hb dL_pour_15 hl (by decide) rfl (fun ls hl => ?_)
      refine lv_iconst (v := 1) hx hb dL_pour_17 (by decide) ?_
      exact z_iret hx hb hr hlocks hw (Nat.le_of_ble_eq_true rfl) (Nat.le_of_ble_eq_true rfl) dL_pour_18 ⟨by rw [hk]; rfl, by rw [hs9]; exact hH, ⟨F, ho.2, fun h9 => absurd (hk.symm.trans h9) (by decide)⟩, fun b _ _ => rfl⟩
    | succ j9 =>
      cases j9 with
      | zero =>
        obtain rfl : "java/lang/IllegalArgumentException" = E := Option.some.inj hj
        refine vx_catch (E := "java/lang/IllegalArgumentException") hown (tableOf [(0, 12, 15, 13)]) ⟨0, 12, 19, 15⟩ (tableOf [(0, 12, 23, 81), (0, 12, 27, 87), (0, 12, 31, 67)]) htab (fun z hz => ((List.mem_cons.mp hz).elim (fun e9 => by subst e9; exact Or.inr ⟨by decide, "java/lang/IndexOutOfBoundsException", hts (.classLink RL 13 "java/lang/IndexOutOfBoundsException") (by decide +kernel), hX.2.2.2.2.2.2.2.2 ("java/lang/IllegalArgumentException", "java/lang/IndexOutOfBoundsException") (by decide)⟩) (fun hz => (nomatch hz)))) rfl (by decide) (hts (.classLink RL 15 "java/lang/IllegalArgumentException") (by decide +kernel)) (va_tabs rfl rfl (hX.2.2.1 "java/lang/IllegalArgumentException" (by decide))) hce hcv hcl ?_
        refine W.eq (g2 := F0 m 19 ls [.ref q9]) rfl ?_
        refine lv_astore (lv' := [(5, .ref q9), (0, .ref h), (1, .int p0), (2, .int p1), (3, .int p2), (4, .ref o)]) hx hb dL_pour_19 hl (by decide) rfl (fun ls hl => ?_)
        refine lv_iconst (v := 2) hx hb dL_pour_21 (by decide) ?_
        exact z_iret hx hb hr hlocks hw (Nat.le_of_ble_eq_true rfl) (Nat.le_of_ble_eq_true rfl) dL_pour_22 ⟨by rw [hk]; rfl, by rw [hs9]; exact hH, ⟨F, ho.2, fun h9 => absurd (hk.symm.trans h9) (by decide)⟩, fun b _ _ => rfl⟩
      | succ j9 =>
        cases j9 with
        | zero =>
          obtain rfl : "java/lang/UnsupportedOperationException" = E := Option.some.inj hj
          refine vx_catch (E := "java/lang/UnsupportedOperationException") hown (tableOf [(0, 12, 15, 13), (0, 12, 19, 15)]) ⟨0, 12, 23, 81⟩ (tableOf [(0, 12, 27, 87), (0, 12, 31, 67)]) htab (fun z hz => ((List.mem_cons.mp hz).elim (fun e9 => by subst e9; exact Or.inr ⟨by decide, "java/lang/IndexOutOfBoundsException", hts (.classLink RL 13 "java/lang/IndexOutOfBoundsException") (by decide +kernel), hX.2.2.2.2.2.2.2.2 ("java/lang/UnsupportedOperationException", "java/lang/IndexOutOfBoundsException") (by decide)⟩) (fun hz => ((List.mem_cons.mp hz).elim (fun e9 => by subst e9; exact Or.inr ⟨by decide, "java/lang/IllegalArgumentException", hts (.classLink RL 15 "java/lang/IllegalArgumentException") (by decide +kernel), hX.2.2.2.2.2.2.2.2 ("java/lang/UnsupportedOperationException", "java/lang/IllegalArgumentException") (by decide)⟩) (fun hz => (nomatch hz)))))) rfl (by decide) (hts (.classLink RL 81 "java/lang/UnsupportedOperationException") (by decide +kernel)) (va_tabs rfl rfl (hX.2.2.1 "java/lang/UnsupportedOperationException" (by decide))) hce hcv hcl ?_
          refine W.eq (g2 := F0 m 23 ls [.ref q9]) rfl ?_
          refine lv_astore (lv' := [(5, .ref q9), (0, .ref h), (1, .int p0), (2, .int p1), (3, .int p2), (4, .ref o)]) hx hb dL_pour_23 hl (by decide) rfl (fun ls hl => ?_)
          refine lv_iconst (v := 3) hx hb dL_pour_25 (by decide) ?_
          exact z_iret hx hb hr hlocks hw (Nat.le_of_ble_eq_true rfl) (Nat.le_of_ble_eq_true rfl) dL_pour_26 ⟨by rw [hk]; rfl, by rw [hs9]; exact hH, ⟨F, ho.2, fun h9 => absurd (hk.symm.trans h9) (by decide)⟩, fun b _ _ => rfl⟩
        | succ j9 =>
          cases j9 with
          | zero =>
            obtain rfl : "java/util/NoSuchElementException" = E := Option.some.inj hj
            refine vx_catch (E := "java/util/NoSuchElementException") hown (tableOf [(0, 12, 15, 13), (0, 12, 19, 15), (0, 12, 23, 81)]) ⟨0, 12, 27, 87⟩ (tableOf [(0, 12, 31, 67)]) htab (fun z hz => ((List.mem_cons.mp hz).elim (fun e9 => by subst e9; exact Or.inr ⟨by decide, "java/lang/IndexOutOfBoundsException", hts (.classLink RL 13 "java/lang/IndexOutOfBoundsException") (by decide +kernel), hX.2.2.2.2.2.2.2.2 ("java/util/NoSuchElementException", "java/lang/IndexOutOfBoundsException") (by decide)⟩) (fun hz => ((List.mem_cons.mp hz).elim (fun e9 => by subst e9; exact Or.inr ⟨by decide, "java/lang/IllegalArgumentException", hts (.classLink RL 15 "java/lang/IllegalArgumentException") (by decide +kernel), hX.2.2.2.2.2.2.2.2 ("java/util/NoSuchElementException", "java/lang/IllegalArgumentException") (by decide)⟩) (fun hz => ((List.mem_cons.mp hz).elim (fun e9 => by subst e9; exact Or.inr ⟨by decide, "java/lang/UnsupportedOperationException", hts (.classLink RL 81 "java/lang/UnsupportedOperationException") (by decide +kernel), hX.2.2.2.2.2.2.2.2 ("java/util/NoSuchElementException", "java/lang/UnsupportedOperationException") (by decide)⟩) (fun hz => (nomatch hz)))))))) rfl (by decide) (hts (.classLink RL 87 "java/util/NoSuchElementException") (by decide +kernel)) (va_tabs rfl rfl (hX.2.2.1 "java/util/NoSuchElementException" (by decide))) hce hcv hcl ?_
            refine W.eq (g2 := F0 m 27 ls [.ref q9]) rfl ?_
            refine lv_astore (lv' := [(5, .ref q9), (0, .ref h), (1, .int p0), (2, .int p1), (3, .int p2), (4, .ref o)]) hx hb dL_pour_27 hl (by decide) rfl (fun ls hl => ?_)
            refine lv_iconst (v := 4) hx hb dL_pour_29 (by decide) ?_
            exact z_iret hx hb hr hlocks hw (Nat.le_of_ble_eq_true rfl) (Nat.le_of_ble_eq_true rfl) dL_pour_30 ⟨by rw [hk]; rfl, by rw [hs9]; exact hH, ⟨F, ho.2, fun h9 => absurd (hk.symm.trans h9) (by decide)⟩, fun b _ _ => rfl⟩
          | succ j9 =>
            cases j9 with
            | zero =>
              obtain rfl : "java/lang/IllegalStateException" = E := Option.some.inj hj
              refine vx_catch (E := "java/lang/IllegalStateException") hown (tableOf [(0, 12, 15, 13), (0, 12, 19, 15), (0, 12, 23, 81), (0, 12, 27, 87)]) ⟨0, 12, 31, 67⟩ (tableOf []) htab (fun z hz => ((List.mem_cons.mp hz).elim (fun e9 => by subst e9; exact Or.inr ⟨by decide, "java/lang/IndexOutOfBoundsException", hts (.classLink RL 13 "java/lang/IndexOutOfBoundsException") (by decide +kernel), hX.2.2.2.2.2.2.2.2 ("java/lang/IllegalStateException", "java/lang/IndexOutOfBoundsException") (by decide)⟩) (fun hz => ((List.mem_cons.mp hz).elim (fun e9 => by subst e9; exact Or.inr ⟨by decide, "java/lang/IllegalArgumentException", hts (.classLink RL 15 "java/lang/IllegalArgumentException") (by decide +kernel), hX.2.2.2.2.2.2.2.2 ("java/lang/IllegalStateException", "java/lang/IllegalArgumentException") (by decide)⟩) (fun hz => ((List.mem_cons.mp hz).elim (fun e9 => by subst e9; exact Or.inr ⟨by decide, "java/lang/UnsupportedOperationException", hts (.classLink RL 81 "java/lang/UnsupportedOperationException") (by decide +kernel), hX.2.2.2.2.2.2.2.2 ("java/lang/IllegalStateException", "java/lang/UnsupportedOperationException") (by decide)⟩) (fun hz => ((List.mem_cons.mp hz).elim (fun e9 => by subst e9; exact Or.inr ⟨by decide, "java/util/NoSuchElementException", hts (.classLink RL 87 "java/util/NoSuchElementException") (by decide +kernel), hX.2.2.2.2.2.2.2.2 ("java/lang/IllegalStateException", "java/util/NoSuchElementException") (by decide)⟩) (fun hz => (nomatch hz)))))))))) rfl (by decide) (hts (.classLink RL 67 "java/lang/IllegalStateException") (by decide +kernel)) (va_tabs rfl rfl (hX.2.2.1 "java/lang/IllegalStateException" (by decide))) hce hcv hcl ?_
              refine W.eq (g2 := F0 m 31 ls [.ref q9]) rfl ?_
              refine lv_astore (lv' := [(5, .ref q9), (0, .ref h), (1, .int p0), (2, .int p1), (3, .int p2), (4, .ref o)]) hx hb dL_pour_31 hl (by decide) rfl (fun ls hl => ?_)
              refine lv_iconst (v := 5) hx hb dL_pour_33 (by decide) ?_
              exact z_iret hx hb hr hlocks hw (Nat.le_of_ble_eq_true rfl) (Nat.le_of_ble_eq_true rfl) dL_pour_34 ⟨by rw [hk]; rfl, by rw [hs9]; exact hH, ⟨F, ho.2, fun h9 => absurd (hk.symm.trans h9) (by decide)⟩, fun b _ _ => rfl⟩
            | succ j9 =>
              exact absurd hj (by simp)
  obtain ⟨ho0, rfl, hH1, hfr⟩ := hp
  have ho9 : zc L9 f9 o (.inl (g.2 1, 1, .inr (.inl F))) := ⟨zHC_in hH1 hPo, (hfr o hPo).trans ho.2⟩
  refine W.eq (g2 := F0 m 10 ls [.int (o_pour σ p0 p1 p2).2.1, .int 0, .ref o]) rfl ?_
  refine lv_i2l (v := ((o_pour σ p0 p1 p2).2.1).toInt64) hx hb dL_pour_10 rfl ?_
  refine zr_last hx hb hw ho9 (vp_in_iff.mpr (by decide)) dL_pour_11 (fun H locs hw => ?_)
  refine lv_goto (tgt := 35) hx hb dL_pour_12 (by decide) ?_
  refine lv_iconst (v := 0) hx hb dL_pour_35 (by decide) ?_
  exact z_iret hx hb hr hlocks hw (Nat.le_of_ble_eq_true rfl) (Nat.le_of_ble_eq_true rfl) dL_pour_36 ⟨by rw [ho0], zHC_fr hH1 (fun b hb => va_up_ne _ _ (show b ≠ o from fun e9 => hb (e9 ▸ hPo))), ⟨_, va_up_self _ _ _, fun _ => (if_pos rfl)⟩, fun b hb hne => (va_up_ne _ _ hne).trans (hfr b hb)⟩

set_option maxRecDepth 100000 in
set_option maxHeartbeats 4000000 in
theorem c_L_slice (l : Launch) (hl0 : l.stackTraces = false) (g : zG) (L : List Nat) (f : Nat → va_E) (h : Nat) (P : Nat → Prop) (σ : ZS) (p0 : Int32) (p1 : Int32) (o : Nat) (F : Nat → Int64) (hH : zHC g h P σ L f) (ho : zc L f o (.inl (g.2 1, 1, .inr (.inl F)))) (hPo : P o) : zC l yL_slice wsL_slice { frames := 10, cells := 3, slots := 18, locals := 170 } 3 18 g [.ref h, .int p0, .int p1, .ref o] L f (fun r L1 f1 => some (.int (o_slice σ p0 p1).1) = r ∧ zHC g h P (o_slice σ p0 p1).2.2 L1 f1 ∧ (∃ F1 : Nat → Int64, f1 o = .inl (g.2 1, 1, .inr (.inl F1)) ∧ ((o_slice σ p0 p1).1 = 0 → F1 0 = (o_slice σ p0 p1).2.1.toInt64)) ∧ ∀ b, P b → b ≠ o → f1 b = f b) zNo := by
  refine z_ofWH (cc := cL_slice) (maxL := 5) (ret := (some .int)) (hh := [(0, 10, 13, 13)]) (by decide) rfl (Nat.le_of_ble_eq_true rfl) ?_
  intro p e s m args below meth c ls A hx hb hr hts hown hlocks hml htab hw hX hl
  have hl : lv_has ls 5 [(0, .ref h), (1, .int p0), (2, .int p1), (3, .ref o)] := hl
  have hown : s.vm.findClass RL = some m.cls := hown
  obtain ⟨fs9, hcb⟩ := zHC_obj hH
  refine lv_aload_n hx hb dL_slice_0 rfl (lv_at hl 3 rfl) ?_
  refine lv_iconst (v := 0) hx hb dL_slice_1 (by decide) ?_
  refine lv_aload_n hx hb dL_slice_2 rfl (lv_at hl 0 rfl) ?_
  refine lv_iload_n hx hb dL_slice_3 rfl (lv_at hl 1 rfl) ?_
  refine lv_iload_n hx hb dL_slice_4 rfl (lv_at hl 2 rfl) ?_
  refine z_callV (As := [.int p0, .int p1]) (rest := [.int 0, .ref o]) ⟨hx, hb, hml, hown, hts⟩ hw hX hcb rfl (c_X1_slice l hl0 g L f h P σ p0 p1 hH) (cwV 2 hts gL_slice_X1_slice rfl rfl rfl (by decide +kernel) ⟨(Nat.le_of_ble_eq_true rfl), (Nat.le_of_ble_eq_true rfl)⟩) rfl hl.1 rfl (Nat.le_of_ble_eq_true rfl) dL_slice_5 ⟨(Nat.le_of_ble_eq_true rfl), (Nat.le_of_ble_eq_true rfl)⟩ (fun E ce q9 L9 f9 H locs hp hw hce hcv hcl => ?_) (fun r9 L9 f9 H locs hp hw => ?_)
  · obtain ⟨⟨j9, hj, hk⟩, rfl, rfl, hs9⟩ := hp
    cases j9 with
    | zero =>
      obtain rfl : "java/lang/IndexOutOfBoundsException" = E := Option.some.inj hj
      refine vx_catch (E := "java/lang/IndexOutOfBoundsException") hown (tableOf []) ⟨0, 10, 13, 13⟩ (tableOf []) htab (fun z hz => (nomatch hz)) rfl (by decide) (hts (.classLink RL 13 "java/lang/IndexOutOfBoundsException") (by decide +kernel)) (va_tabs rfl rfl (hX.2.2.1 "java/lang/IndexOutOfBoundsException" (by decide))) hce hcv hcl ?_
      refine W.eq (g2 := F0 m 13 ls [.ref q9]) rfl ?_
      refine lv_astore (lv' := [(4, .ref q9), (0, .ref h), (1, .int p0), (2, .int p1), (3, .ref o)]) hx hb dL_slice_13 hl (by decide) rfl (fun ls hl => ?_)
      refine lv_iconst (v := 1) hx hb dL_slice_15 (by decide) ?_
      exact z_iret hx hb hr hlocks hw (Nat.le_of_ble_eq_true rfl) (Nat.le_of_ble_eq_true rfl) dL_slice_16 ⟨by rw [hk]; rfl, by rw [hs9]; exact hH, ⟨F, ho.2, fun h9 => absurd (hk.symm.trans h9) (by decide)⟩, fun b _ _ => rfl⟩
    | succ j9 =>
      exact absurd hj (by simp)
  obtain ⟨ho0, rfl, hH1, hfr⟩ := hp
  have ho9 : zc L9 f9 o (.inl (g.2 1, 1, .inr (.inl F))) := ⟨zHC_in hH1 hPo, (hfr o hPo).trans ho.2⟩
  refine W.eq (g2 := F0 m 8 ls [.int (o_slice σ p0 p1).2.1, .int 0, .ref o]) rfl ?_
  refine lv_i2l (v := ((o_slice σ p0 p1).2.1).toInt64) hx hb dL_slice_8 rfl ?_
  refine zr_last hx hb hw ho9 (vp_in_iff.mpr (by decide)) dL_slice_9 (fun H locs hw => ?_)
  refine lv_goto (tgt := 17) hx hb dL_slice_10 (by decide) ?_
  refine lv_iconst (v := 0) hx hb dL_slice_17 (by decide) ?_
  exact z_iret hx hb hr hlocks hw (Nat.le_of_ble_eq_true rfl) (Nat.le_of_ble_eq_true rfl) dL_slice_18 ⟨by rw [ho0], zHC_fr hH1 (fun b hb => va_up_ne _ _ (show b ≠ o from fun e9 => hb (e9 ▸ hPo))), ⟨_, va_up_self _ _ _, fun _ => (if_pos rfl)⟩, fun b hb hne => (va_up_ne _ _ hne).trans (hfr b hb)⟩

set_option maxRecDepth 100000 in
set_option maxHeartbeats 4000000 in
theorem c_L_sliceAt (l : Launch) (hl0 : l.stackTraces = false) (g : zG) (L : List Nat) (f : Nat → va_E) (h : Nat) (P : Nat → Prop) (σ : ZS) (p0 : Int32) (p1 : Int32) (p2 : Int32) (p3 : Int32) (o : Nat) (F : Nat → Int64) (hH : zHC g h P σ L f) (ho : zc L f o (.inl (g.2 1, 1, .inr (.inl F)))) (hPo : P o) : zC l yL_sliceAt wsL_sliceAt { frames := 10, cells := 4, slots := 24, locals := 172 } 4 24 g [.ref h, .int p0, .int p1, .int p2, .int p3, .ref o] L f (fun r L1 f1 => some (.int (o_sliceAt σ p0 p1 p2 p3).1) = r ∧ zHC g h P (o_sliceAt σ p0 p1 p2 p3).2.2 L1 f1 ∧ (∃ F1 : Nat → Int64, f1 o = .inl (g.2 1, 1, .inr (.inl F1)) ∧ ((o_sliceAt σ p0 p1 p2 p3).1 = 0 → F1 0 = (o_sliceAt σ p0 p1 p2 p3).2.1.toInt64)) ∧ ∀ b, P b → b ≠ o → f1 b = f b) zNo := by
  refine z_ofWH (cc := cL_sliceAt) (maxL := 7) (ret := (some .int)) (hh := [(0, 14, 17, 13)]) (by decide) rfl (Nat.le_of_ble_eq_true rfl) ?_
  intro p e s m args below meth c ls A hx hb hr hts hown hlocks hml htab hw hX hl
  have hl : lv_has ls 7 [(0, .ref h), (1, .int p0), (2, .int p1), (3, .int p2), (4, .int p3), (5, .ref o)] := hl
  have hown : s.vm.findClass RL = some m.cls := hown
  obtain ⟨fs9, hcb⟩ := zHC_obj hH
  refine lv_aload hx hb dL_sliceAt_0 (lv_at hl 5 rfl) ?_
  refine lv_iconst (v := 0) hx hb dL_sliceAt_2 (by decide) ?_
  refine lv_aload_n hx hb dL_sliceAt_3 rfl (lv_at hl 0 rfl) ?_
  refine lv_iload_n hx hb dL_sliceAt_4 rfl (lv_at hl 1 rfl) ?_
  refine lv_iload_n hx hb dL_sliceAt_5 rfl (lv_at hl 2 rfl) ?_
  refine lv_iload_n hx hb dL_sliceAt_6 rfl (lv_at hl 3 rfl) ?_
  refine lv_iload hx hb dL_sliceAt_7 (lv_at hl 4 rfl) ?_
  refine z_callV (As := [.int p0, .int p1, .int p2, .int p3]) (rest := [.int 0, .ref o]) ⟨hx, hb, hml, hown, hts⟩ hw hX hcb rfl (c_X1_sliceAt l hl0 g L f h P σ p0 p1 p2 p3 hH) (cwV 4 hts gL_sliceAt_X1_sliceAt rfl rfl rfl (by decide +kernel) ⟨(Nat.le_of_ble_eq_true rfl), (Nat.le_of_ble_eq_true rfl)⟩) rfl hl.1 rfl (Nat.le_of_ble_eq_true rfl) dL_sliceAt_9 ⟨(Nat.le_of_ble_eq_true rfl), (Nat.le_of_ble_eq_true rfl)⟩ (fun E ce q9 L9 f9 H locs hp hw hce hcv hcl => ?_) (fun r9 L9 f9 H locs hp hw => ?_)
  · obtain ⟨⟨j9, hj, hk⟩, rfl, rfl, hs9⟩ := hp
    cases j9 with
    | zero =>
      obtain rfl : "java/lang/IndexOutOfBoundsException" = E := Option.some.inj hj
      refine vx_catch (E := "java/lang/IndexOutOfBoundsException") hown (tableOf []) ⟨0, 14, 17, 13⟩ (tableOf []) htab (fun z hz => (nomatch hz)) rfl (by decide) (hts (.classLink RL 13 "java/lang/IndexOutOfBoundsException") (by decide +kernel)) (va_tabs rfl rfl (hX.2.2.1 "java/lang/IndexOutOfBoundsException" (by decide))) hce hcv hcl ?_
      refine W.eq (g2 := F0 m 17 ls [.ref q9]) rfl ?_
      refine lv_astore (lv' := [(6, .ref q9), (0, .ref h), (1, .int p0), (2, .int p1), (3, .int p2), (4, .int p3), (5, .ref o)]) hx hb dL_sliceAt_17 hl (by decide) rfl (fun ls hl => ?_)
      refine lv_iconst (v := 1) hx hb dL_sliceAt_19 (by decide) ?_
      exact z_iret hx hb hr hlocks hw (Nat.le_of_ble_eq_true rfl) (Nat.le_of_ble_eq_true rfl) dL_sliceAt_20 ⟨by rw [hk]; rfl, by rw [hs9]; exact hH, ⟨F, ho.2, fun h9 => absurd (hk.symm.trans h9) (by decide)⟩, fun b _ _ => rfl⟩
    | succ j9 =>
      exact absurd hj (by simp)
  obtain ⟨ho0, rfl, hH1, hfr⟩ := hp
  have ho9 : zc L9 f9 o (.inl (g.2 1, 1, .inr (.inl F))) := ⟨zHC_in hH1 hPo, (hfr o hPo).trans ho.2⟩
  refine W.eq (g2 := F0 m 12 ls [.int (o_sliceAt σ p0 p1 p2 p3).2.1, .int 0, .ref o]) rfl ?_
  refine lv_i2l (v := ((o_sliceAt σ p0 p1 p2 p3).2.1).toInt64) hx hb dL_sliceAt_12 rfl ?_
  refine zr_last hx hb hw ho9 (vp_in_iff.mpr (by decide)) dL_sliceAt_13 (fun H locs hw => ?_)
  refine lv_goto (tgt := 21) hx hb dL_sliceAt_14 (by decide) ?_
  refine lv_iconst (v := 0) hx hb dL_sliceAt_21 (by decide) ?_
  exact z_iret hx hb hr hlocks hw (Nat.le_of_ble_eq_true rfl) (Nat.le_of_ble_eq_true rfl) dL_sliceAt_22 ⟨by rw [ho0], zHC_fr hH1 (fun b hb => va_up_ne _ _ (show b ≠ o from fun e9 => hb (e9 ▸ hPo))), ⟨_, va_up_self _ _ _, fun _ => (if_pos rfl)⟩, fun b hb hne => (va_up_ne _ _ hne).trans (hfr b hb)⟩

set_option maxRecDepth 100000 in
set_option maxHeartbeats 4000000 in
theorem c_L_duplicate (l : Launch) (hl0 : l.stackTraces = false) (g : zG) (L : List Nat) (f : Nat → va_E) (h : Nat) (P : Nat → Prop) (σ : ZS) (p0 : Int32) (p1 : Int32) (o : Nat) (F : Nat → Int64) (hH : zHC g h P σ L f) (ho : zc L f o (.inl (g.2 1, 1, .inr (.inl F)))) (hPo : P o) : zC l yL_duplicate wsL_duplicate { frames := 10, cells := 3, slots := 18, locals := 170 } 3 18 g [.ref h, .int p0, .int p1, .ref o] L f (fun r L1 f1 => some (.int (o_duplicate σ p0 p1).1) = r ∧ zHC g h P (o_duplicate σ p0 p1).2.2 L1 f1 ∧ (∃ F1 : Nat → Int64, f1 o = .inl (g.2 1, 1, .inr (.inl F1)) ∧ ((o_duplicate σ p0 p1).1 = 0 → F1 0 = (o_duplicate σ p0 p1).2.1.toInt64)) ∧ ∀ b, P b → b ≠ o → f1 b = f b) zNo := by
  refine z_ofWH (cc := cL_duplicate) (maxL := 5) (ret := (some .int)) (hh := [(0, 10, 13, 13)]) (by decide) rfl (Nat.le_of_ble_eq_true rfl) ?_
  intro p e s m args below meth c ls A hx hb hr hts hown hlocks hml htab hw hX hl
  have hl : lv_has ls 5 [(0, .ref h), (1, .int p0), (2, .int p1), (3, .ref o)] := hl
  have hown : s.vm.findClass RL = some m.cls := hown
  obtain ⟨fs9, hcb⟩ := zHC_obj hH
  refine lv_aload_n hx hb dL_duplicate_0 rfl (lv_at hl 3 rfl) ?_
  refine lv_iconst (v := 0) hx hb dL_duplicate_1 (by decide) ?_
  refine lv_aload_n hx hb dL_duplicate_2 rfl (lv_at hl 0 rfl) ?_
  refine lv_iload_n hx hb dL_duplicate_3 rfl (lv_at hl 1 rfl) ?_
  refine lv_iload_n hx hb dL_duplicate_4 rfl (lv_at hl 2 rfl) ?_
  refine z_callV (As := [.int p0, .int p1]) (rest := [.int 0, .ref o]) ⟨hx, hb, hml, hown, hts⟩ hw hX hcb rfl (c_X1_duplicate l hl0 g L f h P σ p0 p1 hH) (cwV 2 hts gL_duplicate_X1_duplicate rfl rfl rfl (by decide +kernel) ⟨(Nat.le_of_ble_eq_true rfl), (Nat.le_of_ble_eq_true rfl)⟩) rfl hl.1 rfl (Nat.le_of_ble_eq_true rfl) dL_duplicate_5 ⟨(Nat.le_of_ble_eq_true rfl), (Nat.le_of_ble_eq_true rfl)⟩ (fun E ce q9 L9 f9 H locs hp hw hce hcv hcl => ?_) (fun r9 L9 f9 H locs hp hw => ?_)
  · obtain ⟨⟨j9, hj, hk⟩, rfl, rfl, hs9⟩ := hp
    cases j9 with
    | zero =>
      obtain rfl : "java/lang/IndexOutOfBoundsException" = E := Option.some.inj hj
      refine vx_catch (E := "java/lang/IndexOutOfBoundsException") hown (tableOf []) ⟨0, 10, 13, 13⟩ (tableOf []) htab (fun z hz => (nomatch hz)) rfl (by decide) (hts (.classLink RL 13 "java/lang/IndexOutOfBoundsException") (by decide +kernel)) (va_tabs rfl rfl (hX.2.2.1 "java/lang/IndexOutOfBoundsException" (by decide))) hce hcv hcl ?_
      refine W.eq (g2 := F0 m 13 ls [.ref q9]) rfl ?_
      refine lv_astore (lv' := [(4, .ref q9), (0, .ref h), (1, .int p0), (2, .int p1), (3, .ref o)]) hx hb dL_duplicate_13 hl (by decide) rfl (fun ls hl => ?_)
      refine lv_iconst (v := 1) hx hb dL_duplicate_15 (by decide) ?_
      exact z_iret hx hb hr hlocks hw (Nat.le_of_ble_eq_true rfl) (Nat.le_of_ble_eq_true rfl) dL_duplicate_16 ⟨by rw [hk]; rfl, by rw [hs9]; exact hH, ⟨F, ho.2, fun h9 => absurd (hk.symm.trans h9) (by decide)⟩, fun b _ _ => rfl⟩
    | succ j9 =>
      exact absurd hj (by simp)
  obtain ⟨ho0, rfl, hH1, hfr⟩ := hp
  have ho9 : zc L9 f9 o (.inl (g.2 1, 1, .inr (.inl F))) := ⟨zHC_in hH1 hPo, (hfr o hPo).trans ho.2⟩
  refine W.eq (g2 := F0 m 8 ls [.int (o_duplicate σ p0 p1).2.1, .int 0, .ref o]) rfl ?_
  refine lv_i2l (v := ((o_duplicate σ p0 p1).2.1).toInt64) hx hb dL_duplicate_8 rfl ?_
  refine zr_last hx hb hw ho9 (vp_in_iff.mpr (by decide)) dL_duplicate_9 (fun H locs hw => ?_)
  refine lv_goto (tgt := 17) hx hb dL_duplicate_10 (by decide) ?_
  refine lv_iconst (v := 0) hx hb dL_duplicate_17 (by decide) ?_
  exact z_iret hx hb hr hlocks hw (Nat.le_of_ble_eq_true rfl) (Nat.le_of_ble_eq_true rfl) dL_duplicate_18 ⟨by rw [ho0], zHC_fr hH1 (fun b hb => va_up_ne _ _ (show b ≠ o from fun e9 => hb (e9 ▸ hPo))), ⟨_, va_up_self _ _ _, fun _ => (if_pos rfl)⟩, fun b hb hne => (va_up_ne _ _ hne).trans (hfr b hb)⟩

set_option maxRecDepth 100000 in
set_option maxHeartbeats 4000000 in
theorem c_L_readOnly (l : Launch) (hl0 : l.stackTraces = false) (g : zG) (L : List Nat) (f : Nat → va_E) (h : Nat) (P : Nat → Prop) (σ : ZS) (p0 : Int32) (p1 : Int32) (o : Nat) (F : Nat → Int64) (hH : zHC g h P σ L f) (ho : zc L f o (.inl (g.2 1, 1, .inr (.inl F)))) (hPo : P o) : zC l yL_readOnly wsL_readOnly { frames := 10, cells := 3, slots := 18, locals := 170 } 3 18 g [.ref h, .int p0, .int p1, .ref o] L f (fun r L1 f1 => some (.int (o_readOnly σ p0 p1).1) = r ∧ zHC g h P (o_readOnly σ p0 p1).2.2 L1 f1 ∧ (∃ F1 : Nat → Int64, f1 o = .inl (g.2 1, 1, .inr (.inl F1)) ∧ ((o_readOnly σ p0 p1).1 = 0 → F1 0 = (o_readOnly σ p0 p1).2.1.toInt64)) ∧ ∀ b, P b → b ≠ o → f1 b = f b) zNo := by
  refine z_ofWH (cc := cL_readOnly) (maxL := 5) (ret := (some .int)) (hh := [(0, 10, 13, 13)]) (by decide) rfl (Nat.le_of_ble_eq_true rfl) ?_
  intro p e s m args below meth c ls A hx hb hr hts hown hlocks hml htab hw hX hl
  have hl : lv_has ls 5 [(0, .ref h), (1, .int p0), (2, .int p1), (3, .ref o)] := hl
  have hown : s.vm.findClass RL = some m.cls := hown
  obtain ⟨fs9, hcb⟩ := zHC_obj hH
  refine lv_aload_n hx hb dL_readOnly_0 rfl (lv_at hl 3 rfl) ?_
  refine lv_iconst (v := 0) hx hb dL_readOnly_1 (by decide) ?_
  refine lv_aload_n hx hb dL_readOnly_2 rfl (lv_at hl 0 rfl) ?_
  refine lv_iload_n hx hb dL_readOnly_3 rfl (lv_at hl 1 rfl) ?_
  refine lv_iload_n hx hb dL_readOnly_4 rfl (lv_at hl 2 rfl) ?_
  refine z_callV (As := [.int p0, .int p1]) (rest := [.int 0, .ref o]) ⟨hx, hb, hml, hown, hts⟩ hw hX hcb rfl (c_X1_readOnly l hl0 g L f h P σ p0 p1 hH) (cwV 2 hts gL_readOnly_X1_readOnly rfl rfl rfl (by decide +kernel) ⟨(Nat.le_of_ble_eq_true rfl), (Nat.le_of_ble_eq_true rfl)⟩) rfl hl.1 rfl (Nat.le_of_ble_eq_true rfl) dL_readOnly_5 ⟨(Nat.le_of_ble_eq_true rfl), (Nat.le_of_ble_eq_true rfl)⟩ (fun E ce q9 L9 f9 H locs hp hw hce hcv hcl => ?_) (fun r9 L9 f9 H locs hp hw => ?_)
  · obtain ⟨⟨j9, hj, hk⟩, rfl, rfl, hs9⟩ := hp
    cases j9 with
    | zero =>
      obtain rfl : "java/lang/IndexOutOfBoundsException" = E := Option.some.inj hj
      refine vx_catch (E := "java/lang/IndexOutOfBoundsException") hown (tableOf []) ⟨0, 10, 13, 13⟩ (tableOf []) htab (fun z hz => (nomatch hz)) rfl (by decide) (hts (.classLink RL 13 "java/lang/IndexOutOfBoundsException") (by decide +kernel)) (va_tabs rfl rfl (hX.2.2.1 "java/lang/IndexOutOfBoundsException" (by decide))) hce hcv hcl ?_
      refine W.eq (g2 := F0 m 13 ls [.ref q9]) rfl ?_
      refine lv_astore (lv' := [(4, .ref q9), (0, .ref h), (1, .int p0), (2, .int p1), (3, .ref o)]) hx hb dL_readOnly_13 hl (by decide) rfl (fun ls hl => ?_)
      refine lv_iconst (v := 1) hx hb dL_readOnly_15 (by decide) ?_
      exact z_iret hx hb hr hlocks hw (Nat.le_of_ble_eq_true rfl) (Nat.le_of_ble_eq_true rfl) dL_readOnly_16 ⟨by rw [hk]; rfl, by rw [hs9]; exact hH, ⟨F, ho.2, fun h9 => absurd (hk.symm.trans h9) (by decide)⟩, fun b _ _ => rfl⟩
    | succ j9 =>
      exact absurd hj (by simp)
  obtain ⟨ho0, rfl, hH1, hfr⟩ := hp
  have ho9 : zc L9 f9 o (.inl (g.2 1, 1, .inr (.inl F))) := ⟨zHC_in hH1 hPo, (hfr o hPo).trans ho.2⟩
  refine W.eq (g2 := F0 m 8 ls [.int (o_readOnly σ p0 p1).2.1, .int 0, .ref o]) rfl ?_
  refine lv_i2l (v := ((o_readOnly σ p0 p1).2.1).toInt64) hx hb dL_readOnly_8 rfl ?_
  refine zr_last hx hb hw ho9 (vp_in_iff.mpr (by decide)) dL_readOnly_9 (fun H locs hw => ?_)
  refine lv_goto (tgt := 17) hx hb dL_readOnly_10 (by decide) ?_
  refine lv_iconst (v := 0) hx hb dL_readOnly_17 (by decide) ?_
  exact z_iret hx hb hr hlocks hw (Nat.le_of_ble_eq_true rfl) (Nat.le_of_ble_eq_true rfl) dL_readOnly_18 ⟨by rw [ho0], zHC_fr hH1 (fun b hb => va_up_ne _ _ (show b ≠ o from fun e9 => hb (e9 ▸ hPo))), ⟨_, va_up_self _ _ _, fun _ => (if_pos rfl)⟩, fun b hb hne => (va_up_ne _ _ hne).trans (hfr b hb)⟩

set_option maxRecDepth 100000 in
set_option maxHeartbeats 4000000 in
theorem c_L_signAt (l : Launch) (hl0 : l.stackTraces = false) (g : zG) (L : List Nat) (f : Nat → va_E) (h : Nat) (P : Nat → Prop) (σ : ZS) (p0 : Int32) (p1 : Int32) (o : Nat) (F : Nat → Int64) (hH : zHC g h P σ L f) (ho : zc L f o (.inl (g.2 1, 1, .inr (.inl F)))) (hPo : P o) : zC l yL_signAt wsL_signAt { frames := 10, cells := 4, slots := 24, locals := 169 } 4 24 g [.ref h, .int p0, .int p1, .ref o] L f (fun r L1 f1 => some (.int (o_signAt σ p0 p1).1) = r ∧ zHC g h P (o_signAt σ p0 p1).2.2 L1 f1 ∧ (∃ F1 : Nat → Int64, f1 o = .inl (g.2 1, 1, .inr (.inl F1)) ∧ ((o_signAt σ p0 p1).1 = 0 → F1 0 = (o_signAt σ p0 p1).2.1.toInt64)) ∧ ∀ b, P b → b ≠ o → f1 b = f b) zNo := by
  refine z_ofWH (cc := cL_signAt) (maxL := 5) (ret := (some .int)) (hh := [(0, 10, 13, 13), (0, 10, 17, 81), (0, 10, 21, 87)]) (by decide) rfl (Nat.le_of_ble_eq_true rfl) ?_
  intro p e s m args below meth c ls A hx hb hr hts hown hlocks hml htab hw hX hl
  have hl : lv_has ls 5 [(0, .ref h), (1, .int p0), (2, .int p1), (3, .ref o)] := hl
  have hown : s.vm.findClass RL = some m.cls := hown
  obtain ⟨fs9, hcb⟩ := zHC_obj hH
  refine lv_aload_n hx hb dL_signAt_0 rfl (lv_at hl 3 rfl) ?_
  refine lv_iconst (v := 0) hx hb dL_signAt_1 (by decide) ?_
  refine lv_aload_n hx hb dL_signAt_2 rfl (lv_at hl 0 rfl) ?_
  refine lv_iload_n hx hb dL_signAt_3 rfl (lv_at hl 1 rfl) ?_
  refine lv_iload_n hx hb dL_signAt_4 rfl (lv_at hl 2 rfl) ?_
  refine z_callV (As := [.int p0, .int p1]) (rest := [.int 0, .ref o]) ⟨hx, hb, hml, hown, hts⟩ hw hX hcb rfl (c_X1_signAt l hl0 g L f h P σ p0 p1 hH) (cwV 2 hts gL_signAt_X1_signAt rfl rfl rfl (by decide +kernel) ⟨(Nat.le_of_ble_eq_true rfl), (Nat.le_of_ble_eq_true rfl)⟩) rfl hl.1 rfl (Nat.le_of_ble_eq_true rfl) dL_signAt_5 ⟨(Nat.le_of_ble_eq_true rfl), (Nat.le_of_ble_eq_true rfl)⟩ (fun E ce q9 L9 f9 H locs hp hw hce hcv hcl => ?_) (fun r9 L9 f9 H locs hp hw => ?_)
  · obtain ⟨⟨j9, hj, hk⟩, rfl, rfl, hs9⟩ := hp
    cases j9 with
    | zero =>
      obtain rfl : "java/lang/IndexOutOfBoundsException" = E := Option.some.inj hj
      refine vx_catch (E := "java/lang/IndexOutOfBoundsException") hown (tableOf []) ⟨0, 10, 13, 13⟩ (tableOf [(0, 10, 17, 81), (0, 10, 21, 87)]) htab (fun z hz => (nomatch hz)) rfl (by decide) (hts (.classLink RL 13 "java/lang/IndexOutOfBoundsException") (by decide +kernel)) (va_tabs rfl rfl (hX.2.2.1 "java/lang/IndexOutOfBoundsException" (by decide))) hce hcv hcl ?_
      refine W.eq (g2 := F0 m 13 ls [.ref q9]) rfl ?_
      refine lv_astore (lv' := [(4, .ref q9), (0, .ref h), (1, .int p0), (2, .int p1), (3, .ref o)]) hx hb dL_signAt_13 hl (by decide) rfl (fun ls hl => ?_)
      refine lv_iconst (v := 1) hx hb dL_signAt_15 (by decide) ?_
      exact z_iret hx hb hr hlocks hw (Nat.le_of_ble_eq_true rfl) (Nat.le_of_ble_eq_true rfl) dL_signAt_16 ⟨by rw [hk]; rfl, by rw [hs9]; exact hH, ⟨F, ho.2, fun h9 => absurd (hk.symm.trans h9) (by decide)⟩, fun b _ _ => rfl⟩
    | succ j9 =>
      cases j9 with
      | zero =>
        obtain rfl : "java/lang/UnsupportedOperationException" = E := Option.some.inj hj
        refine vx_catch (E := "java/lang/UnsupportedOperationException") hown (tableOf [(0, 10, 13, 13)]) ⟨0, 10, 17, 81⟩ (tableOf [(0, 10, 21, 87)]) htab (fun z hz => ((List.mem_cons.mp hz).elim (fun e9 => by subst e9; exact Or.inr ⟨by decide, "java/lang/IndexOutOfBoundsException", hts (.classLink RL 13 "java/lang/IndexOutOfBoundsException") (by decide +kernel), hX.2.2.2.2.2.2.2.2 ("java/lang/UnsupportedOperationException", "java/lang/IndexOutOfBoundsException") (by decide)⟩) (fun hz => (nomatch hz)))) rfl (by decide) (hts (.classLink RL 81 "java/lang/UnsupportedOperationException") (by decide +kernel)) (va_tabs rfl rfl (hX.2.2.1 "java/lang/UnsupportedOperationException" (by decide))) hce hcv hcl ?_
        refine W.eq (g2 := F0 m 17 ls [.ref q9]) rfl ?_
        refine lv_astore (lv' := [(4, .ref q9), (0, .ref h), (1, .int p0), (2, .int p1), (3, .ref o)]) hx hb dL_signAt_17 hl (by decide) rfl (fun ls hl => ?_)
        refine lv_iconst (v := 2) hx hb dL_signAt_19 (by decide) ?_
        exact z_iret hx hb hr hlocks hw (Nat.le_of_ble_eq_true rfl) (Nat.le_of_ble_eq_true rfl) dL_signAt_20 ⟨by rw [hk]; rfl, by rw [hs9]; exact hH, ⟨F, ho.2, fun h9 => absurd (hk.symm.trans h9) (by decide)⟩, fun b _ _ => rfl⟩
      | succ j9 =>
        cases j9 with
        | zero =>
          obtain rfl : "java/util/NoSuchElementException" = E := Option.some.inj hj
          refine vx_catch (E := "java/util/NoSuchElementException") hown (tableOf [(0, 10, 13, 13), (0, 10, 17, 81)]) ⟨0, 10, 21, 87⟩ (tableOf []) htab (fun z hz => ((List.mem_cons.mp hz).elim (fun e9 => by subst e9; exact Or.inr ⟨by decide, "java/lang/IndexOutOfBoundsException", hts (.classLink RL 13 "java/lang/IndexOutOfBoundsException") (by decide +kernel), hX.2.2.2.2.2.2.2.2 ("java/util/NoSuchElementException", "java/lang/IndexOutOfBoundsException") (by decide)⟩) (fun hz => ((List.mem_cons.mp hz).elim (fun e9 => by subst e9; exact Or.inr ⟨by decide, "java/lang/UnsupportedOperationException", hts (.classLink RL 81 "java/lang/UnsupportedOperationException") (by decide +kernel), hX.2.2.2.2.2.2.2.2 ("java/util/NoSuchElementException", "java/lang/UnsupportedOperationException") (by decide)⟩) (fun hz => (nomatch hz)))))) rfl (by decide) (hts (.classLink RL 87 "java/util/NoSuchElementException") (by decide +kernel)) (va_tabs rfl rfl (hX.2.2.1 "java/util/NoSuchElementException" (by decide))) hce hcv hcl ?_
          refine W.eq (g2 := F0 m 21 ls [.ref q9]) rfl ?_
          refine lv_astore (lv' := [(4, .ref q9), (0, .ref h), (1, .int p0), (2, .int p1), (3, .ref o)]) hx hb dL_signAt_21 hl (by decide) rfl (fun ls hl => ?_)
          refine lv_iconst (v := 3) hx hb dL_signAt_23 (by decide) ?_
          exact z_iret hx hb hr hlocks hw (Nat.le_of_ble_eq_true rfl) (Nat.le_of_ble_eq_true rfl) dL_signAt_24 ⟨by rw [hk]; rfl, by rw [hs9]; exact hH, ⟨F, ho.2, fun h9 => absurd (hk.symm.trans h9) (by decide)⟩, fun b _ _ => rfl⟩
        | succ j9 =>
          exact absurd hj (by simp)
  obtain ⟨ho0, rfl, hH1, hfr⟩ := hp
  have ho9 : zc L9 f9 o (.inl (g.2 1, 1, .inr (.inl F))) := ⟨zHC_in hH1 hPo, (hfr o hPo).trans ho.2⟩
  refine W.eq (g2 := F0 m 8 ls [.int (o_signAt σ p0 p1).2.1, .int 0, .ref o]) rfl ?_
  refine lv_i2l (v := ((o_signAt σ p0 p1).2.1).toInt64) hx hb dL_signAt_8 rfl ?_
  refine zr_last hx hb hw ho9 (vp_in_iff.mpr (by decide)) dL_signAt_9 (fun H locs hw => ?_)
  refine lv_goto (tgt := 25) hx hb dL_signAt_10 (by decide) ?_
  refine lv_iconst (v := 0) hx hb dL_signAt_25 (by decide) ?_
  exact z_iret hx hb hr hlocks hw (Nat.le_of_ble_eq_true rfl) (Nat.le_of_ble_eq_true rfl) dL_signAt_26 ⟨by rw [ho0], zHC_fr hH1 (fun b hb => va_up_ne _ _ (show b ≠ o from fun e9 => hb (e9 ▸ hPo))), ⟨_, va_up_self _ _ _, fun _ => (if_pos rfl)⟩, fun b hb hne => (va_up_ne _ _ hne).trans (hfr b hb)⟩

set_option maxRecDepth 100000 in
set_option maxHeartbeats 4000000 in
theorem c_L_signsLeft (l : Launch) (hl0 : l.stackTraces = false) (g : zG) (L : List Nat) (f : Nat → va_E) (h : Nat) (P : Nat → Prop) (σ : ZS) (p0 : Int32) (o : Nat) (F : Nat → Int64) (hH : zHC g h P σ L f) (ho : zc L f o (.inl (g.2 1, 1, .inr (.inl F)))) (hPo : P o) : zC l yL_signsLeft wsL_signsLeft { frames := 10, cells := 3, slots := 18, locals := 168 } 3 18 g [.ref h, .int p0, .ref o] L f (fun r L1 f1 => some (.int (o_signsLeft σ p0).1) = r ∧ zHC g h P (o_signsLeft σ p0).2.2 L1 f1 ∧ (∃ F1 : Nat → Int64, f1 o = .inl (g.2 1, 1, .inr (.inl F1)) ∧ ((o_signsLeft σ p0).1 = 0 → F1 0 = (o_signsLeft σ p0).2.1.toInt64)) ∧ ∀ b, P b → b ≠ o → f1 b = f b) zNo := by
  refine z_ofWH (cc := cL_signsLeft) (maxL := 4) (ret := (some .int)) (hh := [(0, 9, 12, 13), (0, 9, 15, 81)]) (by decide) rfl (Nat.le_of_ble_eq_true rfl) ?_
  intro p e s m args below meth c ls A hx hb hr hts hown hlocks hml htab hw hX hl
  have hl : lv_has ls 4 [(0, .ref h), (1, .int p0), (2, .ref o)] := hl
  have hown : s.vm.findClass RL = some m.cls := hown
  obtain ⟨fs9, hcb⟩ := zHC_obj hH
  refine lv_aload_n hx hb dL_signsLeft_0 rfl (lv_at hl 2 rfl) ?_
  refine lv_iconst (v := 0) hx hb dL_signsLeft_1 (by decide) ?_
  refine lv_aload_n hx hb dL_signsLeft_2 rfl (lv_at hl 0 rfl) ?_
  refine lv_iload_n hx hb dL_signsLeft_3 rfl (lv_at hl 1 rfl) ?_
  refine z_callV (As := [.int p0]) (rest := [.int 0, .ref o]) ⟨hx, hb, hml, hown, hts⟩ hw hX hcb rfl (c_X1_signsLeft l hl0 g L f h P σ p0 hH) (cwV 1 hts gL_signsLeft_X1_signsLeft rfl rfl rfl (by decide +kernel) ⟨(Nat.le_of_ble_eq_true rfl), (Nat.le_of_ble_eq_true rfl)⟩) rfl hl.1 rfl (Nat.le_of_ble_eq_true rfl) dL_signsLeft_4 ⟨(Nat.le_of_ble_eq_true rfl), (Nat.le_of_ble_eq_true rfl)⟩ (fun E ce q9 L9 f9 H locs hp hw hce hcv hcl => ?_) (fun r9 L9 f9 H locs hp hw => ?_)
  · obtain ⟨⟨j9, hj, hk⟩, rfl, rfl, hs9⟩ := hp
    cases j9 with
    | zero =>
      obtain rfl : "java/lang/IndexOutOfBoundsException" = E := Option.some.inj hj
      refine vx_catch (E := "java/lang/IndexOutOfBoundsException") hown (tableOf []) ⟨0, 9, 12, 13⟩ (tableOf [(0, 9, 15, 81)]) htab (fun z hz => (nomatch hz)) rfl (by decide) (hts (.classLink RL 13 "java/lang/IndexOutOfBoundsException") (by decide +kernel)) (va_tabs rfl rfl (hX.2.2.1 "java/lang/IndexOutOfBoundsException" (by decide))) hce hcv hcl ?_
      refine W.eq (g2 := F0 m 12 ls [.ref q9]) rfl ?_
      refine lv_astore_n (lv' := [(3, .ref q9), (0, .ref h), (1, .int p0), (2, .ref o)]) hx hb dL_signsLeft_12 rfl hl (by decide) rfl (fun ls hl => ?_)
      refine lv_iconst (v := 1) hx hb dL_signsLeft_13 (by decide) ?_
      exact z_iret hx hb hr hlocks hw (Nat.le_of_ble_eq_true rfl) (Nat.le_of_ble_eq_true rfl) dL_signsLeft_14 ⟨by rw [hk]; rfl, by rw [hs9]; exact hH, ⟨F, ho.2, fun h9 => absurd (hk.symm.trans h9) (by decide)⟩, fun b _ _ => rfl⟩
    | succ j9 =>
      cases j9 with
      | zero =>
        obtain rfl : "java/lang/UnsupportedOperationException" = E := Option.some.inj hj
        refine vx_catch (E := "java/lang/UnsupportedOperationException") hown (tableOf [(0, 9, 12, 13)]) ⟨0, 9, 15, 81⟩ (tableOf []) htab (fun z hz => ((List.mem_cons.mp hz).elim (fun e9 => by subst e9; exact Or.inr ⟨by decide, "java/lang/IndexOutOfBoundsException", hts (.classLink RL 13 "java/lang/IndexOutOfBoundsException") (by decide +kernel), hX.2.2.2.2.2.2.2.2 ("java/lang/UnsupportedOperationException", "java/lang/IndexOutOfBoundsException") (by decide)⟩) (fun hz => (nomatch hz)))) rfl (by decide) (hts (.classLink RL 81 "java/lang/UnsupportedOperationException") (by decide +kernel)) (va_tabs rfl rfl (hX.2.2.1 "java/lang/UnsupportedOperationException" (by decide))) hce hcv hcl ?_
        refine W.eq (g2 := F0 m 15 ls [.ref q9]) rfl ?_
        refine lv_astore_n (lv' := [(3, .ref q9), (0, .ref h), (1, .int p0), (2, .ref o)]) hx hb dL_signsLeft_15 rfl hl (by decide) rfl (fun ls hl => ?_)
        refine lv_iconst (v := 2) hx hb dL_signsLeft_16 (by decide) ?_
        exact z_iret hx hb hr hlocks hw (Nat.le_of_ble_eq_true rfl) (Nat.le_of_ble_eq_true rfl) dL_signsLeft_17 ⟨by rw [hk]; rfl, by rw [hs9]; exact hH, ⟨F, ho.2, fun h9 => absurd (hk.symm.trans h9) (by decide)⟩, fun b _ _ => rfl⟩
      | succ j9 =>
        exact absurd hj (by simp)
  obtain ⟨ho0, rfl, hH1, hfr⟩ := hp
  have ho9 : zc L9 f9 o (.inl (g.2 1, 1, .inr (.inl F))) := ⟨zHC_in hH1 hPo, (hfr o hPo).trans ho.2⟩
  refine W.eq (g2 := F0 m 7 ls [.int (o_signsLeft σ p0).2.1, .int 0, .ref o]) rfl ?_
  refine lv_i2l (v := ((o_signsLeft σ p0).2.1).toInt64) hx hb dL_signsLeft_7 rfl ?_
  refine zr_last hx hb hw ho9 (vp_in_iff.mpr (by decide)) dL_signsLeft_8 (fun H locs hw => ?_)
  refine lv_goto (tgt := 18) hx hb dL_signsLeft_9 (by decide) ?_
  refine lv_iconst (v := 0) hx hb dL_signsLeft_18 (by decide) ?_
  exact z_iret hx hb hr hlocks hw (Nat.le_of_ble_eq_true rfl) (Nat.le_of_ble_eq_true rfl) dL_signsLeft_19 ⟨by rw [ho0], zHC_fr hH1 (fun b hb => va_up_ne _ _ (show b ≠ o from fun e9 => hb (e9 ▸ hPo))), ⟨_, va_up_self _ _ _, fun _ => (if_pos rfl)⟩, fun b hb hne => (va_up_ne _ _ hne).trans (hfr b hb)⟩

set_option maxRecDepth 100000 in
set_option maxHeartbeats 4000000 in
theorem c_L_append (l : Launch) (hl0 : l.stackTraces = false) (g : zG) (L : List Nat) (f : Nat → va_E) (h : Nat) (P : Nat → Prop) (σ : ZS) (p0 : Int32) (p1 : Int32) (o : Nat) (F : Nat → Int64) (hH : zHC g h P σ L f) (ho : zc L f o (.inl (g.2 1, 1, .inr (.inl F)))) (hPo : P o) : zC l yL_append wsL_append { frames := 10, cells := 5, slots := 30, locals := 169 } 5 30 g [.ref h, .int p0, .int p1, .ref o] L f (fun r L1 f1 => some (.int (o_append σ p0 p1).1) = r ∧ zHC g h P (o_append σ p0 p1).2.2 L1 f1 ∧ (∃ F1 : Nat → Int64, f1 o = .inl (g.2 1, 1, .inr (.inl F1)) ∧ ((o_append σ p0 p1).1 = 0 → F1 0 = (o_append σ p0 p1).2.1.toInt64)) ∧ ∀ b, P b → b ≠ o → f1 b = f b) zNo := by
  refine z_ofWH (cc := cL_append) (maxL := 5) (ret := (some .int)) (hh := [(0, 10, 13, 13), (0, 10, 17, 81), (0, 10, 21, 67)]) (by decide) rfl (Nat.le_of_ble_eq_true rfl) ?_
  intro p e s m args below meth c ls A hx hb hr hts hown hlocks hml htab hw hX hl
  have hl : lv_has ls 5 [(0, .ref h), (1, .int p0), (2, .int p1), (3, .ref o)] := hl
  have hown : s.vm.findClass RL = some m.cls := hown
  obtain ⟨fs9, hcb⟩ := zHC_obj hH
  refine lv_aload_n hx hb dL_append_0 rfl (lv_at hl 3 rfl) ?_
  refine lv_iconst (v := 0) hx hb dL_append_1 (by decide) ?_
  refine lv_aload_n hx hb dL_append_2 rfl (lv_at hl 0 rfl) ?_
  refine lv_iload_n hx hb dL_append_3 rfl (lv_at hl 1 rfl) ?_
  refine lv_iload_n hx hb dL_append_4 rfl (lv_at hl 2 rfl) ?_
  refine z_callV (As := [.int p0, .int p1]) (rest := [.int 0, .ref o]) ⟨hx, hb, hml, hown, hts⟩ hw hX hcb rfl (c_X1_append l hl0 g L f h P σ p0 p1 hH) (cwV 2 hts gL_append_X1_append rfl rfl rfl (by decide +kernel) ⟨(Nat.le_of_ble_eq_true rfl), (Nat.le_of_ble_eq_true rfl)⟩) rfl hl.1 rfl (Nat.le_of_ble_eq_true rfl) dL_append_5 ⟨(Nat.le_of_ble_eq_true rfl), (Nat.le_of_ble_eq_true rfl)⟩ (fun E ce q9 L9 f9 H locs hp hw hce hcv hcl => ?_) (fun r9 L9 f9 H locs hp hw => ?_)
  · obtain ⟨⟨j9, hj, hk⟩, rfl, rfl, hs9⟩ := hp
    cases j9 with
    | zero =>
      obtain rfl : "java/lang/IndexOutOfBoundsException" = E := Option.some.inj hj
      refine vx_catch (E := "java/lang/IndexOutOfBoundsException") hown (tableOf []) ⟨0, 10, 13, 13⟩ (tableOf [(0, 10, 17, 81), (0, 10, 21, 67)]) htab (fun z hz => (nomatch hz)) rfl (by decide) (hts (.classLink RL 13 "java/lang/IndexOutOfBoundsException") (by decide +kernel)) (va_tabs rfl rfl (hX.2.2.1 "java/lang/IndexOutOfBoundsException" (by decide))) hce hcv hcl ?_
      refine W.eq (g2 := F0 m 13 ls [.ref q9]) rfl ?_
      refine lv_astore (lv' := [(4, .ref q9), (0, .ref h), (1, .int p0), (2, .int p1), (3, .ref o)]) hx hb dL_append_13 hl (by decide) rfl (fun ls hl => ?_)
      refine lv_iconst (v := 1) hx hb dL_append_15 (by decide) ?_
      exact z_iret hx hb hr hlocks hw (Nat.le_of_ble_eq_true rfl) (Nat.le_of_ble_eq_true rfl) dL_append_16 ⟨by rw [hk]; rfl, by rw [hs9]; exact hH, ⟨F, ho.2, fun h9 => absurd (hk.symm.trans h9) (by decide)⟩, fun b _ _ => rfl⟩
    | succ j9 =>
      cases j9 with
      | zero =>
        obtain rfl : "java/lang/UnsupportedOperationException" = E := Option.some.inj hj
        refine vx_catch (E := "java/lang/UnsupportedOperationException") hown (tableOf [(0, 10, 13, 13)]) ⟨0, 10, 17, 81⟩ (tableOf [(0, 10, 21, 67)]) htab (fun z hz => ((List.mem_cons.mp hz).elim (fun e9 => by subst e9; exact Or.inr ⟨by decide, "java/lang/IndexOutOfBoundsException", hts (.classLink RL 13 "java/lang/IndexOutOfBoundsException") (by decide +kernel), hX.2.2.2.2.2.2.2.2 ("java/lang/UnsupportedOperationException", "java/lang/IndexOutOfBoundsException") (by decide)⟩) (fun hz => (nomatch hz)))) rfl (by decide) (hts (.classLink RL 81 "java/lang/UnsupportedOperationException") (by decide +kernel)) (va_tabs rfl rfl (hX.2.2.1 "java/lang/UnsupportedOperationException" (by decide))) hce hcv hcl ?_
        refine W.eq (g2 := F0 m 17 ls [.ref q9]) rfl ?_
        refine lv_astore (lv' := [(4, .ref q9), (0, .ref h), (1, .int p0), (2, .int p1), (3, .ref o)]) hx hb dL_append_17 hl (by decide) rfl (fun ls hl => ?_)
        refine lv_iconst (v := 2) hx hb dL_append_19 (by decide) ?_
        exact z_iret hx hb hr hlocks hw (Nat.le_of_ble_eq_true rfl) (Nat.le_of_ble_eq_true rfl) dL_append_20 ⟨by rw [hk]; rfl, by rw [hs9]; exact hH, ⟨F, ho.2, fun h9 => absurd (hk.symm.trans h9) (by decide)⟩, fun b _ _ => rfl⟩
      | succ j9 =>
        cases j9 with
        | zero =>
          obtain rfl : "java/lang/IllegalStateException" = E := Option.some.inj hj
          refine vx_catch (E := "java/lang/IllegalStateException") hown (tableOf [(0, 10, 13, 13), (0, 10, 17, 81)]) ⟨0, 10, 21, 67⟩ (tableOf []) htab (fun z hz => ((List.mem_cons.mp hz).elim (fun e9 => by subst e9; exact Or.inr ⟨by decide, "java/lang/IndexOutOfBoundsException", hts (.classLink RL 13 "java/lang/IndexOutOfBoundsException") (by decide +kernel), hX.2.2.2.2.2.2.2.2 ("java/lang/IllegalStateException", "java/lang/IndexOutOfBoundsException") (by decide)⟩) (fun hz => ((List.mem_cons.mp hz).elim (fun e9 => by subst e9; exact Or.inr ⟨by decide, "java/lang/UnsupportedOperationException", hts (.classLink RL 81 "java/lang/UnsupportedOperationException") (by decide +kernel), hX.2.2.2.2.2.2.2.2 ("java/lang/IllegalStateException", "java/lang/UnsupportedOperationException") (by decide)⟩) (fun hz => (nomatch hz)))))) rfl (by decide) (hts (.classLink RL 67 "java/lang/IllegalStateException") (by decide +kernel)) (va_tabs rfl rfl (hX.2.2.1 "java/lang/IllegalStateException" (by decide))) hce hcv hcl ?_
          refine W.eq (g2 := F0 m 21 ls [.ref q9]) rfl ?_
          refine lv_astore (lv' := [(4, .ref q9), (0, .ref h), (1, .int p0), (2, .int p1), (3, .ref o)]) hx hb dL_append_21 hl (by decide) rfl (fun ls hl => ?_)
          refine lv_iconst (v := 3) hx hb dL_append_23 (by decide) ?_
          exact z_iret hx hb hr hlocks hw (Nat.le_of_ble_eq_true rfl) (Nat.le_of_ble_eq_true rfl) dL_append_24 ⟨by rw [hk]; rfl, by rw [hs9]; exact hH, ⟨F, ho.2, fun h9 => absurd (hk.symm.trans h9) (by decide)⟩, fun b _ _ => rfl⟩
        | succ j9 =>
          exact absurd hj (by simp)
  obtain ⟨ho0, rfl, hH1, hfr⟩ := hp
  have ho9 : zc L9 f9 o (.inl (g.2 1, 1, .inr (.inl F))) := ⟨zHC_in hH1 hPo, (hfr o hPo).trans ho.2⟩
  refine W.eq (g2 := F0 m 8 ls [.int (o_append σ p0 p1).2.1, .int 0, .ref o]) rfl ?_
  refine lv_i2l (v := ((o_append σ p0 p1).2.1).toInt64) hx hb dL_append_8 rfl ?_
  refine zr_last hx hb hw ho9 (vp_in_iff.mpr (by decide)) dL_append_9 (fun H locs hw => ?_)
  refine lv_goto (tgt := 25) hx hb dL_append_10 (by decide) ?_
  refine lv_iconst (v := 0) hx hb dL_append_25 (by decide) ?_
  exact z_iret hx hb hr hlocks hw (Nat.le_of_ble_eq_true rfl) (Nat.le_of_ble_eq_true rfl) dL_append_26 ⟨by rw [ho0], zHC_fr hH1 (fun b hb => va_up_ne _ _ (show b ≠ o from fun e9 => hb (e9 ▸ hPo))), ⟨_, va_up_self _ _ _, fun _ => (if_pos rfl)⟩, fun b hb hne => (va_up_ne _ _ hne).trans (hfr b hb)⟩

set_option maxRecDepth 100000 in
set_option maxHeartbeats 4000000 in
theorem c_L_text (l : Launch) (hl0 : l.stackTraces = false) (g : zG) (L : List Nat) (f : Nat → va_E) (h : Nat) (P : Nat → Prop) (σ : ZS) (p0 : Int32) (o : Nat) (F : Nat → Int64) (hH : zHC g h P σ L f) (ho : zc L f o (.inl (g.2 1, 1, .inr (.inl F)))) (hPo : P o) : zC l yL_text wsL_text { frames := 10, cells := 3, slots := 18, locals := 168 } 3 18 g [.ref h, .int p0, .ref o] L f (fun r L1 f1 => some (.int (o_text σ p0).1) = r ∧ zHC g h P (o_text σ p0).2.2 L1 f1 ∧ (∃ F1 : Nat → Int64, f1 o = .inl (g.2 1, 1, .inr (.inl F1)) ∧ ((o_text σ p0).1 = 0 → F1 0 = (o_text σ p0).2.1)) ∧ ∀ b, P b → b ≠ o → f1 b = f b) zNo := by
  refine z_ofWH (cc := cL_text) (maxL := 4) (ret := (some .int)) (hh := [(0, 8, 11, 13), (0, 8, 14, 81)]) (by decide) rfl (Nat.le_of_ble_eq_true rfl) ?_
  intro p e s m args below meth c ls A hx hb hr hts hown hlocks hml htab hw hX hl
  have hl : lv_has ls 4 [(0, .ref h), (1, .int p0), (2, .ref o)] := hl
  have hown : s.vm.findClass RL = some m.cls := hown
  obtain ⟨fs9, hcb⟩ := zHC_obj hH
  refine lv_aload_n hx hb dL_text_0 rfl (lv_at hl 2 rfl) ?_
  refine lv_iconst (v := 0) hx hb dL_text_1 (by decide) ?_
  refine lv_aload_n hx hb dL_text_2 rfl (lv_at hl 0 rfl) ?_
  refine lv_iload_n hx hb dL_text_3 rfl (lv_at hl 1 rfl) ?_
  refine z_callV (As := [.int p0]) (rest := [.int 0, .ref o]) ⟨hx, hb, hml, hown, hts⟩ hw hX hcb rfl (c_X1_text l hl0 g L f h P σ p0 hH) (cwV 1 hts gL_text_X1_text rfl rfl rfl (by decide +kernel) ⟨(Nat.le_of_ble_eq_true rfl), (Nat.le_of_ble_eq_true rfl)⟩) rfl hl.1 rfl (Nat.le_of_ble_eq_true rfl) dL_text_4 ⟨(Nat.le_of_ble_eq_true rfl), (Nat.le_of_ble_eq_true rfl)⟩ (fun E ce q9 L9 f9 H locs hp hw hce hcv hcl => ?_) (fun r9 L9 f9 H locs hp hw => ?_)
  · obtain ⟨⟨j9, hj, hk⟩, rfl, rfl, hs9⟩ := hp
    cases j9 with
    | zero =>
      obtain rfl : "java/lang/IndexOutOfBoundsException" = E := Option.some.inj hj
      refine vx_catch (E := "java/lang/IndexOutOfBoundsException") hown (tableOf []) ⟨0, 8, 11, 13⟩ (tableOf [(0, 8, 14, 81)]) htab (fun z hz => (nomatch hz)) rfl (by decide) (hts (.classLink RL 13 "java/lang/IndexOutOfBoundsException") (by decide +kernel)) (va_tabs rfl rfl (hX.2.2.1 "java/lang/IndexOutOfBoundsException" (by decide))) hce hcv hcl ?_
      refine W.eq (g2 := F0 m 11 ls [.ref q9]) rfl ?_
      refine lv_astore_n (lv' := [(3, .ref q9), (0, .ref h), (1, .int p0), (2, .ref o)]) hx hb dL_text_11 rfl hl (by decide) rfl (fun ls hl => ?_)
      refine lv_iconst (v := 1) hx hb dL_text_12 (by decide) ?_
      exact z_iret hx hb hr hlocks hw (Nat.le_of_ble_eq_true rfl) (Nat.le_of_ble_eq_true rfl) dL_text_13 ⟨by rw [hk]; rfl, by rw [hs9]; exact hH, ⟨F, ho.2, fun h9 => absurd (hk.symm.trans h9) (by decide)⟩, fun b _ _ => rfl⟩
    | succ j9 =>
      cases j9 with
      | zero =>
        obtain rfl : "java/lang/UnsupportedOperationException" = E := Option.some.inj hj
        refine vx_catch (E := "java/lang/UnsupportedOperationException") hown (tableOf [(0, 8, 11, 13)]) ⟨0, 8, 14, 81⟩ (tableOf []) htab (fun z hz => ((List.mem_cons.mp hz).elim (fun e9 => by subst e9; exact Or.inr ⟨by decide, "java/lang/IndexOutOfBoundsException", hts (.classLink RL 13 "java/lang/IndexOutOfBoundsException") (by decide +kernel), hX.2.2.2.2.2.2.2.2 ("java/lang/UnsupportedOperationException", "java/lang/IndexOutOfBoundsException") (by decide)⟩) (fun hz => (nomatch hz)))) rfl (by decide) (hts (.classLink RL 81 "java/lang/UnsupportedOperationException") (by decide +kernel)) (va_tabs rfl rfl (hX.2.2.1 "java/lang/UnsupportedOperationException" (by decide))) hce hcv hcl ?_
        refine W.eq (g2 := F0 m 14 ls [.ref q9]) rfl ?_
        refine lv_astore_n (lv' := [(3, .ref q9), (0, .ref h), (1, .int p0), (2, .ref o)]) hx hb dL_text_14 rfl hl (by decide) rfl (fun ls hl => ?_)
        refine lv_iconst (v := 2) hx hb dL_text_15 (by decide) ?_
        exact z_iret hx hb hr hlocks hw (Nat.le_of_ble_eq_true rfl) (Nat.le_of_ble_eq_true rfl) dL_text_16 ⟨by rw [hk]; rfl, by rw [hs9]; exact hH, ⟨F, ho.2, fun h9 => absurd (hk.symm.trans h9) (by decide)⟩, fun b _ _ => rfl⟩
      | succ j9 =>
        exact absurd hj (by simp)
  obtain ⟨ho0, rfl, hH1, hfr⟩ := hp
  have ho9 : zc L9 f9 o (.inl (g.2 1, 1, .inr (.inl F))) := ⟨zHC_in hH1 hPo, (hfr o hPo).trans ho.2⟩
  refine W.eq (g2 := F0 m 7 ls [.long (o_text σ p0).2.1, .int 0, .ref o]) rfl ?_
  refine zr_last hx hb hw ho9 (vp_in_iff.mpr (by decide)) dL_text_7 (fun H locs hw => ?_)
  refine lv_goto (tgt := 17) hx hb dL_text_8 (by decide) ?_
  refine lv_iconst (v := 0) hx hb dL_text_17 (by decide) ?_
  exact z_iret hx hb hr hlocks hw (Nat.le_of_ble_eq_true rfl) (Nat.le_of_ble_eq_true rfl) dL_text_18 ⟨by rw [ho0], zHC_fr hH1 (fun b hb => va_up_ne _ _ (show b ≠ o from fun e9 => hb (e9 ▸ hPo))), ⟨_, va_up_self _ _ _, fun _ => (if_pos rfl)⟩, fun b hb hne => (va_up_ne _ _ hne).trans (hfr b hb)⟩

set_option maxRecDepth 100000 in
set_option maxHeartbeats 4000000 in
theorem c_L_isAlike (l : Launch) (hl0 : l.stackTraces = false) (g : zG) (L : List Nat) (f : Nat → va_E) (h : Nat) (P : Nat → Prop) (σ : ZS) (p0 : Int32) (p1 : Int32) (o : Nat) (F : Nat → Int64) (hH : zHC g h P σ L f) (ho : zc L f o (.inl (g.2 1, 1, .inr (.inl F)))) (hPo : P o) : zC l yL_isAlike wsL_isAlike { frames := 10, cells := 4, slots := 24, locals := 172 } 4 24 g [.ref h, .int p0, .int p1, .ref o] L f (fun r L1 f1 => some (.int (o_isAlike σ p0 p1).1) = r ∧ zHC g h P (o_isAlike σ p0 p1).2.2 L1 f1 ∧ (∃ F1 : Nat → Int64, f1 o = .inl (g.2 1, 1, .inr (.inl F1)) ∧ ((o_isAlike σ p0 p1).1 = 0 → F1 0 = (if (o_isAlike σ p0 p1).2.1 = 0 then 0 else 1))) ∧ ∀ b, P b → b ≠ o → f1 b = f b) zNo := by
  refine z_ofWH (cc := cL_isAlike) (maxL := 5) (ret := (some .int)) (hh := [(0, 17, 20, 13)]) (by decide) rfl (Nat.le_of_ble_eq_true rfl) ?_
  intro p e s m args below meth c ls A hx hb hr hts hown hlocks hml htab hw hX hl
  have hl : lv_has ls 5 [(0, .ref h), (1, .int p0), (2, .int p1), (3, .ref o)] := hl
  have hown : s.vm.findClass RL = some m.cls := hown
  obtain ⟨fs9, hcb⟩ := zHC_obj hH
  refine lv_aload_n hx hb dL_isAlike_0 rfl (lv_at hl 3 rfl) ?_
  refine lv_iconst (v := 0) hx hb dL_isAlike_1 (by decide) ?_
  refine lv_aload_n hx hb dL_isAlike_2 rfl (lv_at hl 0 rfl) ?_
  refine lv_iload_n hx hb dL_isAlike_3 rfl (lv_at hl 1 rfl) ?_
  refine lv_iload_n hx hb dL_isAlike_4 rfl (lv_at hl 2 rfl) ?_
  refine z_callV (As := [.int p0, .int p1]) (rest := [.int 0, .ref o]) ⟨hx, hb, hml, hown, hts⟩ hw hX hcb rfl (c_X1_isAlike l hl0 g L f h P σ p0 p1 hH) (cwV 2 hts gL_isAlike_X1_isAlike rfl rfl rfl (by decide +kernel) ⟨(Nat.le_of_ble_eq_true rfl), (Nat.le_of_ble_eq_true rfl)⟩) rfl hl.1 rfl (Nat.le_of_ble_eq_true rfl) dL_isAlike_5 ⟨(Nat.le_of_ble_eq_true rfl), (Nat.le_of_ble_eq_true rfl)⟩ (fun E ce q9 L9 f9 H locs hp hw hce hcv hcl => ?_) (fun r9 L9 f9 H locs hp hw => ?_)
  · obtain ⟨⟨j9, hj, hk⟩, rfl, rfl, hs9⟩ := hp
    cases j9 with
    | zero =>
      obtain rfl : "java/lang/IndexOutOfBoundsException" = E := Option.some.inj hj
      refine vx_catch (E := "java/lang/IndexOutOfBoundsException") hown (tableOf []) ⟨0, 17, 20, 13⟩ (tableOf []) htab (fun z hz => (nomatch hz)) rfl (by decide) (hts (.classLink RL 13 "java/lang/IndexOutOfBoundsException") (by decide +kernel)) (va_tabs rfl rfl (hX.2.2.1 "java/lang/IndexOutOfBoundsException" (by decide))) hce hcv hcl ?_
      refine W.eq (g2 := F0 m 20 ls [.ref q9]) rfl ?_
      refine lv_astore (lv' := [(4, .ref q9), (0, .ref h), (1, .int p0), (2, .int p1), (3, .ref o)]) hx hb dL_isAlike_20 hl (by decide) rfl (fun ls hl => ?_)
      refine lv_iconst (v := 1) hx hb dL_isAlike_22 (by decide) ?_
      exact z_iret hx hb hr hlocks hw (Nat.le_of_ble_eq_true rfl) (Nat.le_of_ble_eq_true rfl) dL_isAlike_23 ⟨by rw [hk]; rfl, by rw [hs9]; exact hH, ⟨F, ho.2, fun h9 => absurd (hk.symm.trans h9) (by decide)⟩, fun b _ _ => rfl⟩
    | succ j9 =>
      exact absurd hj (by simp)
  obtain ⟨ho0, rfl, hH1, hfr⟩ := hp
  have ho9 : zc L9 f9 o (.inl (g.2 1, 1, .inr (.inl F))) := ⟨zHC_in hH1 hPo, (hfr o hPo).trans ho.2⟩
  refine W.eq (g2 := F0 m 8 ls [.int (o_isAlike σ p0 p1).2.1, .int 0, .ref o]) rfl ?_
  refine lv_if_eq (tgt := 15) hx hb dL_isAlike_8 (by decide) (fun c_1 => ?_) (fun c_1 => ?_)
  · refine lv_lconst (v := 0) hx hb dL_isAlike_15 (by decide) ?_
    refine zr_last hx hb hw ho9 (vp_in_iff.mpr (by decide)) dL_isAlike_16 (fun H locs hw => ?_)
    refine lv_goto (tgt := 24) hx hb dL_isAlike_17 (by decide) ?_
    refine lv_iconst (v := 0) hx hb dL_isAlike_24 (by decide) ?_
    exact z_iret hx hb hr hlocks hw (Nat.le_of_ble_eq_true rfl) (Nat.le_of_ble_eq_true rfl) dL_isAlike_25 ⟨by rw [ho0], zHC_fr hH1 (fun b hb => va_up_ne _ _ (show b ≠ o from fun e9 => hb (e9 ▸ hPo))), ⟨_, va_up_self _ _ _, fun _ => (if_pos rfl : _ = (0 : Int64)).trans (if_pos c_1).symm⟩, fun b hb hne => (va_up_ne _ _ hne).trans (hfr b hb)⟩
  · refine lv_lconst (v := 1) hx hb dL_isAlike_11 (by decide) ?_
    refine lv_goto (tgt := 16) hx hb dL_isAlike_12 (by decide) ?_
    refine zr_last hx hb hw ho9 (vp_in_iff.mpr (by decide)) dL_isAlike_16 (fun H locs hw => ?_)
    refine lv_goto (tgt := 24) hx hb dL_isAlike_17 (by decide) ?_
    refine lv_iconst (v := 0) hx hb dL_isAlike_24 (by decide) ?_
    exact z_iret hx hb hr hlocks hw (Nat.le_of_ble_eq_true rfl) (Nat.le_of_ble_eq_true rfl) dL_isAlike_25 ⟨by rw [ho0], zHC_fr hH1 (fun b hb => va_up_ne _ _ (show b ≠ o from fun e9 => hb (e9 ▸ hPo))), ⟨_, va_up_self _ _ _, fun _ => (if_pos rfl : _ = (1 : Int64)).trans (if_neg c_1).symm⟩, fun b hb hne => (va_up_ne _ _ hne).trans (hfr b hb)⟩

set_option maxRecDepth 100000 in
set_option maxHeartbeats 4000000 in
theorem c_L_fullShare (l : Launch) (hl0 : l.stackTraces = false) (g : zG) (L : List Nat) (f : Nat → va_E) (h : Nat) (P : Nat → Prop) (σ : ZS) (p0 : Int32) (o : Nat) (F : Nat → UInt64) (hH : zHC g h P σ L f) (ho : zc L f o (.inl (g.2 3, 1, .inr (.inr (.inr (.inl F)))))) (hPo : P o) : zC l yL_fullShare wsL_fullShare { frames := 10, cells := 3, slots := 18, locals := 168 } 3 18 g [.ref h, .int p0, .ref o] L f (fun r L1 f1 => some (.int (o_fullShare σ p0).1) = r ∧ zHC g h P (o_fullShare σ p0).2.2 L1 f1 ∧ (∃ F1 : Nat → UInt64, f1 o = .inl (g.2 3, 1, .inr (.inr (.inr (.inl F1)))) ∧ ((o_fullShare σ p0).1 = 0 → F1 0 = (FP.f2d (o_fullShare σ p0).2.1))) ∧ ∀ b, P b → b ≠ o → f1 b = f b) zNo := by
  refine z_ofWH (cc := cL_fullShare) (maxL := 4) (ret := (some .int)) (hh := [(0, 9, 12, 13), (0, 9, 15, 143)]) (by decide) rfl (Nat.le_of_ble_eq_true rfl) ?_
  intro p e s m args below meth c ls A hx hb hr hts hown hlocks hml htab hw hX hl
  have hl : lv_has ls 4 [(0, .ref h), (1, .int p0), (2, .ref o)] := hl
  have hown : s.vm.findClass RL = some m.cls := hown
  obtain ⟨fs9, hcb⟩ := zHC_obj hH
  refine lv_aload_n hx hb dL_fullShare_0 rfl (lv_at hl 2 rfl) ?_
  refine lv_iconst (v := 0) hx hb dL_fullShare_1 (by decide) ?_
  refine lv_aload_n hx hb dL_fullShare_2 rfl (lv_at hl 0 rfl) ?_
  refine lv_iload_n hx hb dL_fullShare_3 rfl (lv_at hl 1 rfl) ?_
  refine z_callV (As := [.int p0]) (rest := [.int 0, .ref o]) ⟨hx, hb, hml, hown, hts⟩ hw hX hcb rfl (c_X1_fullShare l hl0 g L f h P σ p0 hH) (cwV 1 hts gL_fullShare_X1_fullShare rfl rfl rfl (by decide +kernel) ⟨(Nat.le_of_ble_eq_true rfl), (Nat.le_of_ble_eq_true rfl)⟩) rfl hl.1 rfl (Nat.le_of_ble_eq_true rfl) dL_fullShare_4 ⟨(Nat.le_of_ble_eq_true rfl), (Nat.le_of_ble_eq_true rfl)⟩ (fun E ce q9 L9 f9 H locs hp hw hce hcv hcl => ?_) (fun r9 L9 f9 H locs hp hw => ?_)
  · obtain ⟨⟨j9, hj, hk⟩, rfl, rfl, hs9⟩ := hp
    cases j9 with
    | zero =>
      obtain rfl : "java/lang/IndexOutOfBoundsException" = E := Option.some.inj hj
      refine vx_catch (E := "java/lang/IndexOutOfBoundsException") hown (tableOf []) ⟨0, 9, 12, 13⟩ (tableOf [(0, 9, 15, 143)]) htab (fun z hz => (nomatch hz)) rfl (by decide) (hts (.classLink RL 13 "java/lang/IndexOutOfBoundsException") (by decide +kernel)) (va_tabs rfl rfl (hX.2.2.1 "java/lang/IndexOutOfBoundsException" (by decide))) hce hcv hcl ?_
      refine W.eq (g2 := F0 m 12 ls [.ref q9]) rfl ?_
      refine lv_astore_n (lv' := [(3, .ref q9), (0, .ref h), (1, .int p0), (2, .ref o)]) hx hb dL_fullShare_12 rfl hl (by decide) rfl (fun ls hl => ?_)
      refine lv_iconst (v := 1) hx hb dL_fullShare_13 (by decide) ?_
      exact z_iret hx hb hr hlocks hw (Nat.le_of_ble_eq_true rfl) (Nat.le_of_ble_eq_true rfl) dL_fullShare_14 ⟨by rw [hk]; rfl, by rw [hs9]; exact hH, ⟨F, ho.2, fun h9 => absurd (hk.symm.trans h9) (by decide)⟩, fun b _ _ => rfl⟩
    | succ j9 =>
      cases j9 with
      | zero =>
        obtain rfl : "java/lang/ArithmeticException" = E := Option.some.inj hj
        refine vx_catch (E := "java/lang/ArithmeticException") hown (tableOf [(0, 9, 12, 13)]) ⟨0, 9, 15, 143⟩ (tableOf []) htab (fun z hz => ((List.mem_cons.mp hz).elim (fun e9 => by subst e9; exact Or.inr ⟨by decide, "java/lang/IndexOutOfBoundsException", hts (.classLink RL 13 "java/lang/IndexOutOfBoundsException") (by decide +kernel), hX.2.2.2.2.2.2.2.2 ("java/lang/ArithmeticException", "java/lang/IndexOutOfBoundsException") (by decide)⟩) (fun hz => (nomatch hz)))) rfl (by decide) (hts (.classLink RL 143 "java/lang/ArithmeticException") (by decide +kernel)) (va_tabs rfl rfl (hX.2.2.1 "java/lang/ArithmeticException" (by decide))) hce hcv hcl ?_
        refine W.eq (g2 := F0 m 15 ls [.ref q9]) rfl ?_
        refine lv_astore_n (lv' := [(3, .ref q9), (0, .ref h), (1, .int p0), (2, .ref o)]) hx hb dL_fullShare_15 rfl hl (by decide) rfl (fun ls hl => ?_)
        refine lv_iconst (v := 2) hx hb dL_fullShare_16 (by decide) ?_
        exact z_iret hx hb hr hlocks hw (Nat.le_of_ble_eq_true rfl) (Nat.le_of_ble_eq_true rfl) dL_fullShare_17 ⟨by rw [hk]; rfl, by rw [hs9]; exact hH, ⟨F, ho.2, fun h9 => absurd (hk.symm.trans h9) (by decide)⟩, fun b _ _ => rfl⟩
      | succ j9 =>
        exact absurd hj (by simp)
  obtain ⟨ho0, rfl, hH1, hfr⟩ := hp
  have ho9 : zc L9 f9 o (.inl (g.2 3, 1, .inr (.inr (.inr (.inl F))))) := ⟨zHC_in hH1 hPo, (hfr o hPo).trans ho.2⟩
  refine W.eq (g2 := F0 m 7 ls [.float (o_fullShare σ p0).2.1, .int 0, .ref o]) rfl ?_
  refine lv_f2d hx hb dL_fullShare_7 (by obtain ⟨ln, kd, hI⟩ := zHC_I hH; obtain ⟨a, b, h1, h2, h3, h4⟩ := zfs_n hI ho0; rw [h4]; exact z_nanf2 a h1 b h2 h3) ?_
  refine zr_dast hx hb hw ho9 (vp_in_iff.mpr (by decide)) dL_fullShare_8 (fun H locs hw => ?_)
  refine lv_goto (tgt := 18) hx hb dL_fullShare_9 (by decide) ?_
  refine lv_iconst (v := 0) hx hb dL_fullShare_18 (by decide) ?_
  exact z_iret hx hb hr hlocks hw (Nat.le_of_ble_eq_true rfl) (Nat.le_of_ble_eq_true rfl) dL_fullShare_19 ⟨by rw [ho0], zHC_fr hH1 (fun b hb => va_up_ne _ _ (show b ≠ o from fun e9 => hb (e9 ▸ hPo))), ⟨_, va_up_self _ _ _, fun _ => (if_pos rfl)⟩, fun b hb hne => (va_up_ne _ _ hne).trans (hfr b hb)⟩

set_option maxRecDepth 100000 in
set_option maxHeartbeats 4000000 in
theorem c_L_meanLeft (l : Launch) (hl0 : l.stackTraces = false) (g : zG) (L : List Nat) (f : Nat → va_E) (h : Nat) (P : Nat → Prop) (σ : ZS) (o : Nat) (F : Nat → UInt64) (hH : zHC g h P σ L f) (ho : zc L f o (.inl (g.2 3, 1, .inr (.inr (.inr (.inl F)))))) (hPo : P o) : zC l yL_meanLeft wsL_meanLeft { frames := 7, cells := 1, slots := 6, locals := 105 } 1 6 g [.ref h, .ref o] L f (fun r L1 f1 => some (.int (o_meanLeft σ).1) = r ∧ zHC g h P (o_meanLeft σ).2.2 L1 f1 ∧ (∃ F1 : Nat → UInt64, f1 o = .inl (g.2 3, 1, .inr (.inr (.inr (.inl F1)))) ∧ ((o_meanLeft σ).1 = 0 → F1 0 = (o_meanLeft σ).2.1)) ∧ ∀ b, P b → b ≠ o → f1 b = f b) zNo := by
  refine z_ofWH (cc := cL_meanLeft) (maxL := 3) (ret := (some .int)) (hh := [(0, 7, 10, 143)]) (by decide) rfl (Nat.le_of_ble_eq_true rfl) ?_
  intro p e s m args below meth c ls A hx hb hr hts hown hlocks hml htab hw hX hl
  have hl : lv_has ls 3 [(0, .ref h), (1, .ref o)] := hl
  have hown : s.vm.findClass RL = some m.cls := hown
  obtain ⟨fs9, hcb⟩ := zHC_obj hH
  refine lv_aload_n hx hb dL_meanLeft_0 rfl (lv_at hl 1 rfl) ?_
  refine lv_iconst (v := 0) hx hb dL_meanLeft_1 (by decide) ?_
  refine lv_aload_n hx hb dL_meanLeft_2 rfl (lv_at hl 0 rfl) ?_
  refine z_callV (As := []) (rest := [.int 0, .ref o]) ⟨hx, hb, hml, hown, hts⟩ hw hX hcb rfl (c_X1_meanLeft l hl0 g L f h P σ  hH) (cwV 0 hts gL_meanLeft_X1_meanLeft rfl rfl rfl (by decide +kernel) ⟨(Nat.le_of_ble_eq_true rfl), (Nat.le_of_ble_eq_true rfl)⟩) rfl hl.1 rfl (Nat.le_of_ble_eq_true rfl) dL_meanLeft_3 ⟨(Nat.le_of_ble_eq_true rfl), (Nat.le_of_ble_eq_true rfl)⟩ (fun E ce q9 L9 f9 H locs hp hw hce hcv hcl => ?_) (fun r9 L9 f9 H locs hp hw => ?_)
  · obtain ⟨⟨j9, hj, hk⟩, rfl, rfl, hs9⟩ := hp
    cases j9 with
    | zero =>
      obtain rfl : "java/lang/ArithmeticException" = E := Option.some.inj hj
      refine vx_catch (E := "java/lang/ArithmeticException") hown (tableOf []) ⟨0, 7, 10, 143⟩ (tableOf []) htab (fun z hz => (nomatch hz)) rfl (by decide) (hts (.classLink RL 143 "java/lang/ArithmeticException") (by decide +kernel)) (va_tabs rfl rfl (hX.2.2.1 "java/lang/ArithmeticException" (by decide))) hce hcv hcl ?_
      refine W.eq (g2 := F0 m 10 ls [.ref q9]) rfl ?_
      refine lv_astore_n (lv' := [(2, .ref q9), (0, .ref h), (1, .ref o)]) hx hb dL_meanLeft_10 rfl hl (by decide) rfl (fun ls hl => ?_)
      refine lv_iconst (v := 1) hx hb dL_meanLeft_11 (by decide) ?_
      exact z_iret hx hb hr hlocks hw (Nat.le_of_ble_eq_true rfl) (Nat.le_of_ble_eq_true rfl) dL_meanLeft_12 ⟨by rw [hk]; rfl, by rw [hs9]; exact hH, ⟨F, ho.2, fun h9 => absurd (hk.symm.trans h9) (by decide)⟩, fun b _ _ => rfl⟩
    | succ j9 =>
      exact absurd hj (by simp)
  obtain ⟨ho0, rfl, hH1, hfr⟩ := hp
  have ho9 : zc L9 f9 o (.inl (g.2 3, 1, .inr (.inr (.inr (.inl F))))) := ⟨zHC_in hH1 hPo, (hfr o hPo).trans ho.2⟩
  refine W.eq (g2 := F0 m 6 ls [.double (o_meanLeft σ).2.1, .int 0, .ref o]) rfl ?_
  refine zr_dast hx hb hw ho9 (vp_in_iff.mpr (by decide)) dL_meanLeft_6 (fun H locs hw => ?_)
  refine lv_goto (tgt := 13) hx hb dL_meanLeft_7 (by decide) ?_
  refine lv_iconst (v := 0) hx hb dL_meanLeft_13 (by decide) ?_
  exact z_iret hx hb hr hlocks hw (Nat.le_of_ble_eq_true rfl) (Nat.le_of_ble_eq_true rfl) dL_meanLeft_14 ⟨by rw [ho0], zHC_fr hH1 (fun b hb => va_up_ne _ _ (show b ≠ o from fun e9 => hb (e9 ▸ hPo))), ⟨_, va_up_self _ _ _, fun _ => (if_pos rfl)⟩, fun b hb hne => (va_up_ne _ _ hne).trans (hfr b hb)⟩
