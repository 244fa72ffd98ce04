def zPm (am : Nat → Nat) (o1 o2 : Nat) : Nat → Prop := fun b => (∃ k, k < 13 ∧ b = am k) ∨ b = o1 ∨ b = o2
/-- house and reference hold the same state -/
def zLw (g : zG) (h : Nat) (am : Nat → Nat) (o1 o2 : Nat) (σ : ZS) (L : List Nat) (f : Nat → va_E) : Prop :=
  ∃ (bs : Nat → Int64) (th : Int32) (F : Nat → Int64) (D : Nat → UInt64), zHC g h (zPm am o1 o2) σ L f ∧ zHE L f am 13 (zMe g am σ bs th) ∧ zc L f o1 (.inl (g.2 1, 1, .inr (.inl F))) ∧ zc L f o2 (.inl (g.2 3, 1, .inr (.inr (.inr (.inl D)))))
section Z21
variable {g : zG} {h : Nat} {P : Nat → Prop} {σ σ1 : ZS} {L L1 : List Nat} {f f1 : Nat → va_E} {am : Nat → Nat} {bs : Nat → Int64} {th : Int32} {F : Nat → Int64} {D : Nat → UInt64} {o1 o2 : Nat}
theorem zMe_ne1 (hE : zHE L f am 13 (zMe g am σ bs th)) (ho : zc L f o1 (.inl (g.2 1, 1, .inr (.inl F)))) : ∀ k, k < 13 → am k ≠ o1 := fun k hk => (hE.1 k hk).dj ho (by
  match k, hk with
  | 0, _ => intro h; cases h
  | 1, _ => intro h; simp [zMe] at h
  | 2, _ => intro h; simp [zMe] at h
  | 3, _ => intro h; simp [zMe] at h
  | 4, _ => intro h; simp [zMe] at h
  | 5, _ => intro h; simp [zMe] at h
  | 6, _ => intro h; simp [zMe] at h
  | 7, _ => intro h; simp [zMe] at h
  | 8, _ => intro h; simp [zMe] at h
  | 9, _ => intro h; simp [zMe] at h
  | 10, _ => intro h; simp [zMe] at h
  | 11, _ => intro h; simp [zMe] at h
  | 12, _ => intro h; simp [zMe] at h)
theorem zMe_ne2 (hE : zHE L f am 13 (zMe g am σ bs th)) (ho : zc L f o2 (.inl (g.2 3, 1, .inr (.inr (.inr (.inl D)))))) : ∀ k, k < 13 → am k ≠ o2 := fun k hk => (hE.1 k hk).dj ho (by
  match k, hk with
  | 0, _ => intro h; cases h
  | 1, _ => intro h; simp [zMe] at h
  | 2, _ => intro h; simp [zMe] at h
  | 3, _ => intro h; simp [zMe] at h
  | 4, _ => intro h; simp [zMe] at h
  | 5, _ => intro h; simp [zMe] at h
  | 6, _ => intro h; simp [zMe] at h
  | 7, _ => intro h; simp [zMe] at h
  | 8, _ => intro h; simp [zMe] at h
  | 9, _ => intro h; simp [zMe] at h
  | 10, _ => intro h; simp [zMe] at h
  | 11, _ => intro h; simp [zMe] at h
  | 12, _ => intro h; simp [zMe] at h)
theorem zo_ne (h1 : zc L f o1 (.inl (g.2 1, 1, .inr (.inl F)))) (h2 : zc L f o2 (.inl (g.2 3, 1, .inr (.inr (.inr (.inl D)))))) : o1 ≠ o2 := h1.dj h2 (by intro h; simp at h)
theorem zPm_m {k : Nat} (hk : k < 13) : zPm am o1 o2 (am k) := Or.inl ⟨k, hk, rfl⟩
theorem zPm_1 : zPm am o1 o2 o1 := Or.inr (Or.inl rfl)
theorem zPm_2 : zPm am o1 o2 o2 := Or.inr (Or.inr rfl)
/-- the reference's cells, after the class was at work -/
theorem zMe_kept (hE : zHE L f am 13 (zMe g am σ bs th)) (hH : zHC g h (zPm am o1 o2) σ1 L1 f1) (hf : ∀ k, k < 13 → f1 (am k) = f (am k)) : zHE L1 f1 am 13 (zMe g am σ bs th) :=
  ⟨fun k hk => ⟨zHC_in hH (zPm_m hk), (hf k hk).trans (hE.1 k hk).2⟩, hE.2⟩
theorem zHC_mod (hH : zHC g h (zPm am o1 o2) σ L f) (hm : ∀ b, (∀ k, k < 13 → b ≠ am k) → f1 b = f b) : zHC g h (zPm am o1 o2) σ L f1 :=
  zHC_fr hH (fun b hb => hm b (fun k hk e => hb (Or.inl ⟨k, hk, e⟩)))
end Z21

set_option maxRecDepth 100000 in
set_option maxHeartbeats 4000000 in
theorem k_law_0 {p : Program} {l : Launch} {e : Env} {R : Room} {s : State} {m : MethodId} {args : Array Value} {below : List Frame} {meth : Method} {c : Code} {H : Heap} {locs : List Loc} {cells slots : Nat} {Q : State → Prop} {ls : Array Slot} {g : zG} {A : Nat → Prop} {L : List Nat} {f : Nat → va_E} {am : Nat → Nat} {h o1 o2 b N : Nat} {σ : ZS} {xs : Nat → Int32} {i : Int32}
    (hx : p.tables.exec = Jvm.exec) (hb : c.code = cL_law) (hml : c.maxLocals = 9) (hown : s.vm.findClass RL = some m.cls) (hts : ∀ w ∈ wsL_law, w.before args s = true) (hl0 : l.stackTraces = false) (hw : zW g A s L f H locs) (hX : zX A s s.heap) (hXs : va_X b N xs s s.heap) (hbl : b < s.heap.size) (hbA : ¬ A b) (hRf : 20 ≤ R.frames) (hRl : 1000 ≤ R.locals) (hRc : cells + 60 ≤ R.cells) (hRs : slots + 1000 ≤ R.slots) (hJ : zLw g h am o1 o2 σ L f) (hix : ∀ j : Nat, j < 7 → vp_in (i + nI j) N) (hl : lv_has ls 9 [(0, .ref b), (1, .ref h), (2, .ref (am 0)), (3, .ref o1), (4, .ref o2), (5, .int i)])
    (hback : ∀ (σ1 : ZS) (L1 : List Nat) (f1 : Nat → va_E) (H1 : Heap) (locs1 : List Loc) (ls1 : Array Slot), zLw g h am o1 o2 σ1 L1 f1 → zW g A s L1 f1 H1 locs1 → lv_has ls1 9 [(0, .ref b), (1, .ref h), (2, .ref (am 0)), (3, .ref o1), (4, .ref o2), (5, .int i)] → W p l e R s m args below meth c H1 locs1 (cells + 60) (slots + 1000) Q (F0 m 2828 ls1 [])) : W p l e R s m args below meth c H locs cells slots Q (F0 m 216 ls []) := by
  obtain ⟨bs, th, F, D, hH, hE, h10, h20⟩ := hJ
  obtain ⟨ln, kd, hI⟩ := zHC_I hH
  obtain ⟨fs9, hcb⟩ := zHC_obj hH
  have hn1 := zMe_ne1 hE h10
  have hn2 := zMe_ne2 hE h20
  have hn12 := zo_ne h10 h20
  refine lv_aload_n hx hb dL_law_216 rfl (lv_at hl 1 rfl) ?_
  refine lv_aload_n hx hb dL_law_217 rfl (lv_at hl 0 rfl) ?_
  refine lv_iload hx hb dL_law_218 (lv_at hl 5 rfl) ?_
  refine lv_iconst (v := 1) hx hb dL_law_220 (by decide) ?_
  refine lv_iadd hx hb dL_law_221 ?_
  refine va_sld hx hb hXs hbl hbA hw.2.2.2.1 (hix 1 (by decide)) dL_law_222 ?_
  refine lv_aload_n hx hb dL_law_223 rfl (lv_at hl 0 rfl) ?_
  refine lv_iload hx hb dL_law_224 (lv_at hl 5 rfl) ?_
  refine lv_iconst (v := 2) hx hb dL_law_226 (by decide) ?_
  refine lv_iadd hx hb dL_law_227 ?_
  refine va_sld hx hb hXs hbl hbA hw.2.2.2.1 (hix 2 (by decide)) dL_law_228 ?_
  refine lv_aload_n hx hb dL_law_229 rfl (lv_at hl 3 rfl) ?_
  refine z_callSX (As := [.ref h, .int (xs (Int32.toNatClampNeg (i + 1))), .int (xs (Int32.toNatClampNeg (i + 2))), .ref o1]) (rest := []) ⟨hx, hb, hml, hown, hts⟩ hw hX (c_L_make l hl0 g L f h (zPm am o1 o2) σ (xs (Int32.toNatClampNeg (i + 1))) (xs (Int32.toNatClampNeg (i + 2))) o1 F hH h10 zPm_1) (vx_cwSW 4 hts gL_law_L_make rfl rfl rfl (by decide +kernel) ⟨Nat.le_trans (Nat.le_of_ble_eq_true rfl) hRf, Nat.le_trans (Nat.le_of_ble_eq_true rfl) hRl⟩) rfl hl.1 rfl (Nat.le_of_ble_eq_true rfl) dL_law_230 ⟨by omega, by omega⟩ (fun _ _ _ _ _ _ _ hp => False.elim hp) (fun r9 L1 f1 H locs hp hw => ?_)
  obtain ⟨rfl, hH1, ⟨F1, hF1, hv1⟩, hfr1⟩ := hp
  have hE1 := zMe_kept hE hH1 (fun k hk => hfr1 _ (zPm_m hk) (hn1 k hk))
  refine W.eq (g2 := F0 m 233 ls [.int (o_make σ (xs (Int32.toNatClampNeg (i + 1))) (xs (Int32.toNatClampNeg (i + 2)))).1]) rfl ?_
  refine lv_istore (lv' := [(6, .int (o_make σ (xs (Int32.toNatClampNeg (i + 1))) (xs (Int32.toNatClampNeg (i + 2)))).1), (0, .ref b), (1, .ref h), (2, .ref (am 0)), (3, .ref o1), (4, .ref o2), (5, .int i)]) hx hb dL_law_233 hl (by decide) rfl (fun ls hl => ?_)
  refine lv_aload_n hx hb dL_law_235 rfl (lv_at hl 3 rfl) ?_
  refine lv_aload_n hx hb dL_law_236 rfl (lv_at hl 1 rfl) ?_
  refine lv_iload hx hb dL_law_237 (lv_at hl 6 rfl) ?_
  refine lv_iconst (v := 1) hx hb dL_law_239 (by decide) ?_
  refine lv_iadd hx hb dL_law_240 ?_
  refine va_sld hx hb hXs hbl hbA hw.2.2.2.1 (hix 1 (by decide)) dL_law_241 ?_
  refine lv_aload_n hx hb dL_law_242 rfl (lv_at hl 1 rfl) ?_
  refine lv_iload hx hb dL_law_243 (lv_at hl 6 rfl) ?_
  refine lv_iconst (v := 2) hx hb dL_law_245 (by decide) ?_
  refine lv_iadd hx hb dL_law_246 ?_
  refine va_sld hx hb hXs hbl hbA hw.2.2.2.1 (hix 2 (by decide)) dL_law_247 ?_
  refine z_callV (As := [.int (xs (Int32.toNatClampNeg (i + 1))), .int (xs (Int32.toNatClampNeg (i + 2)))]) (rest := []) ⟨hx, hb, hml, hown, hts⟩ hw hX (hE1.1 0 (by decide)) rfl (c_X2_make l g am L1 f1 σ bs th (xs (Int32.toNatClampNeg (i + 1))) (xs (Int32.toNatClampNeg (i + 2))) ⟨hE1, fun _ _ => rfl⟩ hI) (cwV 2 hts gL_law_X2_make rfl rfl rfl (by decide +kernel) ⟨Nat.le_trans (Nat.le_of_ble_eq_true rfl) hRf, Nat.le_trans (Nat.le_of_ble_eq_true rfl) hRl⟩) rfl hl.1 rfl (Nat.le_of_ble_eq_true rfl) dL_law_248 ⟨by omega, by omega⟩ (fun _ _ _ _ _ _ _ hp => False.elim hp) (fun r9 L2 f2 H locs hp hw => ?_)
  obtain ⟨rfl, b9, bs9, rfl, hm9, hb9⟩ := hp
  have ho1 : zc L1 f2 o1 (.inl (g.2 1, 1, .inr (.inl F1))) := ⟨zHC_in hH1 zPm_1, (hm9.2 _ (fun k hk e => hn1 k hk e.symm)).trans hF1⟩
  have ho2 : zc L1 f2 o2 (.inl (g.2 3, 1, .inr (.inr (.inr (.inl D))))) := ⟨zHC_in hH1 zPm_2, (hm9.2 _ (fun k hk e => hn2 k hk e.symm)).trans ((hfr1 _ zPm_2 (Ne.symm hn12)).trans h20.2)⟩
  have hH2 := zHC_mod hH1 hm9.2
  refine W.eq (g2 := F0 m 251 ls [.int b9]) rfl ?_
  refine lv_istore (lv' := [(7, .int b9), (6, .int (o_make σ (xs (Int32.toNatClampNeg (i + 1))) (xs (Int32.toNatClampNeg (i + 2)))).1), (0, .ref b), (1, .ref h), (2, .ref (am 0)), (3, .ref o1), (4, .ref o2), (5, .int i)]) hx hb dL_law_251 hl (by decide) rfl (fun ls hl => ?_)
  refine lv_aload_n hx hb dL_law_253 rfl (lv_at hl 4 rfl) ?_
  refine z_callV (As := []) (rest := []) ⟨hx, hb, hml, hown, hts⟩ hw hX (hm9.1.1 0 (by decide)) rfl (c_X2_thrown l g am L1 f2 (o_make σ (xs (Int32.toNatClampNeg (i + 1))) (xs (Int32.toNatClampNeg (i + 2)))).2.2 bs9 (o_make σ (xs (Int32.toNatClampNeg (i + 1))) (xs (Int32.toNatClampNeg (i + 2)))).1 hm9.rf) (cwV 0 hts gL_law_X2_thrown rfl rfl rfl (by decide +kernel) ⟨Nat.le_trans (Nat.le_of_ble_eq_true rfl) hRf, Nat.le_trans (Nat.le_of_ble_eq_true rfl) hRl⟩) rfl hl.1 rfl (Nat.le_of_ble_eq_true rfl) dL_law_254 ⟨by omega, by omega⟩ (fun _ _ _ _ _ _ _ hp => False.elim hp) (fun r9 L3 f3 H locs hp hw => ?_)
  obtain ⟨rfl, rfl, rfl⟩ := hp
  refine W.eq (g2 := F0 m 257 ls [.int (o_make σ (xs (Int32.toNatClampNeg (i + 1))) (xs (Int32.toNatClampNeg (i + 2)))).1]) rfl ?_
  refine lv_iload hx hb dL_law_257 (lv_at hl 1 rfl) ?_
  refine lv_icmp_eq (tgt := 264) hx hb dL_law_259 (by decide) (fun _ => ?_) (fun c => absurd rfl c)
  refine lv_iload hx hb dL_law_264 (lv_at hl 1 rfl) ?_
  refine lv_if_ne (tgt := 281) hx hb dL_law_266 (by decide) (fun c_1 => ?_) (fun c_1 => ?_)
  · refine lv_goto (tgt := 2828) hx hb dL_law_281 (by decide) ?_
    refine W.widen (k := cells + 60) (n := slots + 1000) (by omega) (by omega) ?_
    have hl := lv_sub hl (l' := [(0, .ref b), (1, .ref h), (2, .ref (am 0)), (3, .ref o1), (4, .ref o2), (5, .int i)]) [2, 3, 4, 5, 6, 7] rfl
    exact hback _ _ _ _ _ _ ⟨_, _, _, _, hH2, hm9.1, ho1, ho2⟩ hw hl
  · refine lv_aload_n hx hb dL_law_269 rfl (lv_at hl 5 rfl) ?_
    refine lv_iconst (v := 0) hx hb dL_law_270 (by decide) ?_
    refine zr_lald hx hb hw ho1 (vp_in_iff.mpr (by decide)) dL_law_271 ?_
    refine lv_iload hx hb dL_law_272 (lv_at hl 0 rfl) ?_
    refine lv_i2l (v := b9.toInt64) hx hb dL_law_274 rfl ?_
    refine W.lcmp hx hb dL_law_275 ?_
    have hq_2 : (lg_cmp (F1 (Int32.toNatClampNeg 0)) b9.toInt64) = 0 := zcmp0.mpr (by rw [hb9 c_1]; exact hv1 c_1)
    refine lv_if_eq (tgt := 281) hx hb dL_law_276 (by decide) (fun c_3 => ?_) (fun c_3 => absurd hq_2 c_3)
    refine lv_goto (tgt := 2828) hx hb dL_law_281 (by decide) ?_
    refine W.widen (k := cells + 60) (n := slots + 1000) (by omega) (by omega) ?_
    have hl := lv_sub hl (l' := [(0, .ref b), (1, .ref h), (2, .ref (am 0)), (3, .ref o1), (4, .ref o2), (5, .int i)]) [2, 3, 4, 5, 6, 7] rfl
    exact hback _ _ _ _ _ _ ⟨_, _, _, _, hH2, hm9.1, ho1, ho2⟩ hw hl

set_option maxRecDepth 100000 in
set_option maxHeartbeats 4000000 in
theorem k_law_1 {p : Program} {l : Launch} {e : Env} {R : Room} {s : State} {m : MethodId} {args : Array Value} {below : List Frame} {meth : Method} {c : Code} {H : Heap} {locs : List Loc} {cells slots : Nat} {Q : State → Prop} {ls : Array Slot} {g : zG} {A : Nat → Prop} {L : List Nat} {f : Nat → va_E} {am : Nat → Nat} {h o1 o2 b N : Nat} {σ : ZS} {xs : Nat → Int32} {i : Int32}
    (hx : p.tables.exec = Jvm.exec) (hb : c.code = cL_law) (hml : c.maxLocals = 9) (hown : s.vm.findClass RL = some m.cls) (hts : ∀ w ∈ wsL_law, w.before args s = true) (hl0 : l.stackTraces = false) (hw : zW g A s L f H locs) (hX : zX A s s.heap) (hXs : va_X b N xs s s.heap) (hbl : b < s.heap.size) (hbA : ¬ A b) (hRf : 20 ≤ R.frames) (hRl : 1000 ≤ R.locals) (hRc : cells + 60 ≤ R.cells) (hRs : slots + 1000 ≤ R.slots) (hJ : zLw g h am o1 o2 σ L f) (hix : ∀ j : Nat, j < 7 → vp_in (i + nI j) N) (hl : lv_has ls 9 [(0, .ref b), (1, .ref h), (2, .ref (am 0)), (3, .ref o1), (4, .ref o2), (5, .int i)])
    (hback : ∀ (σ1 : ZS) (L1 : List Nat) (f1 : Nat → va_E) (H1 : Heap) (locs1 : List Loc) (ls1 : Array Slot), zLw g h am o1 o2 σ1 L1 f1 → zW g A s L1 f1 H1 locs1 → lv_has ls1 9 [(0, .ref b), (1, .ref h), (2, .ref (am 0)), (3, .ref o1), (4, .ref o2), (5, .int i)] → W p l e R s m args below meth c H1 locs1 (cells + 60) (slots + 1000) Q (F0 m 2828 ls1 [])) : W p l e R s m args below meth c H locs cells slots Q (F0 m 284 ls []) := by
  obtain ⟨bs, th, F, D, hH, hE, h10, h20⟩ := hJ
  obtain ⟨ln, kd, hI⟩ := zHC_I hH
  obtain ⟨fs9, hcb⟩ := zHC_obj hH
  have hn1 := zMe_ne1 hE h10
  have hn2 := zMe_ne2 hE h20
  have hn12 := zo_ne h10 h20
  refine lv_aload_n hx hb dL_law_284 rfl (lv_at hl 1 rfl) ?_
  refine lv_aload_n hx hb dL_law_285 rfl (lv_at hl 0 rfl) ?_
  refine lv_iload hx hb dL_law_286 (lv_at hl 5 rfl) ?_
  refine lv_iconst (v := 1) hx hb dL_law_288 (by decide) ?_
  refine lv_iadd hx hb dL_law_289 ?_
  refine va_sld hx hb hXs hbl hbA hw.2.2.2.1 (hix 1 (by decide)) dL_law_290 ?_
  refine lv_aload_n hx hb dL_law_291 rfl (lv_at hl 0 rfl) ?_
  refine lv_iload hx hb dL_law_292 (lv_at hl 5 rfl) ?_
  refine lv_iconst (v := 2) hx hb dL_law_294 (by decide) ?_
  refine lv_iadd hx hb dL_law_295 ?_
  refine va_sld hx hb hXs hbl hbA hw.2.2.2.1 (hix 2 (by decide)) dL_law_296 ?_
  refine lv_aload_n hx hb dL_law_297 rfl (lv_at hl 3 rfl) ?_
  refine z_callSX (As := [.ref h, .int (xs (Int32.toNatClampNeg (i + 1))), .int (xs (Int32.toNatClampNeg (i + 2))), .ref o1]) (rest := []) ⟨hx, hb, hml, hown, hts⟩ hw hX (c_L_rowAt l hl0 g L f h (zPm am o1 o2) σ (xs (Int32.toNatClampNeg (i + 1))) (xs (Int32.toNatClampNeg (i + 2))) o1 F hH h10 zPm_1) (vx_cwSW 4 hts gL_law_L_rowAt rfl rfl rfl (by decide +kernel) ⟨Nat.le_trans (Nat.le_of_ble_eq_true rfl) hRf, Nat.le_trans (Nat.le_of_ble_eq_true rfl) hRl⟩) rfl hl.1 rfl (Nat.le_of_ble_eq_true rfl) dL_law_298 ⟨by omega, by omega⟩ (fun _ _ _ _ _ _ _ hp => False.elim hp) (fun r9 L1 f1 H locs hp hw => ?_)
  obtain ⟨rfl, hH1, ⟨F1, hF1, hv1⟩, hfr1⟩ := hp
  have hE1 := zMe_kept hE hH1 (fun k hk => hfr1 _ (zPm_m hk) (hn1 k hk))
  refine W.eq (g2 := F0 m 301 ls [.int (o_rowAt σ (xs (Int32.toNatClampNeg (i + 1))) (xs (Int32.toNatClampNeg (i + 2)))).1]) rfl ?_
  refine lv_istore (lv' := [(6, .int (o_rowAt σ (xs (Int32.toNatClampNeg (i + 1))) (xs (Int32.toNatClampNeg (i + 2)))).1), (0, .ref b), (1, .ref h), (2, .ref (am 0)), (3, .ref o1), (4, .ref o2), (5, .int i)]) hx hb dL_law_301 hl (by decide) rfl (fun ls hl => ?_)
  refine lv_aload_n hx hb dL_law_303 rfl (lv_at hl 3 rfl) ?_
  refine lv_aload_n hx hb dL_law_304 rfl (lv_at hl 1 rfl) ?_
  refine lv_iload hx hb dL_law_305 (lv_at hl 6 rfl) ?_
  refine lv_iconst (v := 1) hx hb dL_law_307 (by decide) ?_
  refine lv_iadd hx hb dL_law_308 ?_
  refine va_sld hx hb hXs hbl hbA hw.2.2.2.1 (hix 1 (by decide)) dL_law_309 ?_
  refine lv_aload_n hx hb dL_law_310 rfl (lv_at hl 1 rfl) ?_
  refine lv_iload hx hb dL_law_311 (lv_at hl 6 rfl) ?_
  refine lv_iconst (v := 2) hx hb dL_law_313 (by decide) ?_
  refine lv_iadd hx hb dL_law_314 ?_
  refine va_sld hx hb hXs hbl hbA hw.2.2.2.1 (hix 2 (by decide)) dL_law_315 ?_
  refine z_callV (As := [.int (xs (Int32.toNatClampNeg (i + 1))), .int (xs (Int32.toNatClampNeg (i + 2)))]) (rest := []) ⟨hx, hb, hml, hown, hts⟩ hw hX (hE1.1 0 (by decide)) rfl (c_X2_rowAt l g am L1 f1 σ bs th (xs (Int32.toNatClampNeg (i + 1))) (xs (Int32.toNatClampNeg (i + 2))) ⟨hE1, fun _ _ => rfl⟩ hI) (cwV 2 hts gL_law_X2_rowAt rfl rfl rfl (by decide +kernel) ⟨Nat.le_trans (Nat.le_of_ble_eq_true rfl) hRf, Nat.le_trans (Nat.le_of_ble_eq_true rfl) hRl⟩) rfl hl.1 rfl (Nat.le_of_ble_eq_true rfl) dL_law_316 ⟨by omega, by omega⟩ (fun _ _ _ _ _ _ _ hp => False.elim hp) (fun r9 L2 f2 H locs hp hw => ?_)
  obtain ⟨rfl, b9, bs9, rfl, hm9, hb9⟩ := hp
  have ho1 : zc L1 f2 o1 (.inl (g.2 1, 1, .inr (.inl F1))) := ⟨zHC_in hH1 zPm_1, (hm9.2 _ (fun k hk e => hn1 k hk e.symm)).trans hF1⟩
  have ho2 : zc L1 f2 o2 (.inl (g.2 3, 1, .inr (.inr (.inr (.inl D))))) := ⟨zHC_in hH1 zPm_2, (hm9.2 _ (fun k hk e => hn2 k hk e.symm)).trans ((hfr1 _ zPm_2 (Ne.symm hn12)).trans h20.2)⟩
  have hH2 := zHC_mod hH1 hm9.2
  refine W.eq (g2 := F0 m 319 ls [.int b9]) rfl ?_
  refine lv_istore (lv' := [(7, .int b9), (6, .int (o_rowAt σ (xs (Int32.toNatClampNeg (i + 1))) (xs (Int32.toNatClampNeg (i + 2)))).1), (0, .ref b), (1, .ref h), (2, .ref (am 0)), (3, .ref o1), (4, .ref o2), (5, .int i)]) hx hb dL_law_319 hl (by decide) rfl (fun ls hl => ?_)
  refine lv_aload_n hx hb dL_law_321 rfl (lv_at hl 4 rfl) ?_
  refine z_callV (As := []) (rest := []) ⟨hx, hb, hml, hown, hts⟩ hw hX (hm9.1.1 0 (by decide)) rfl (c_X2_thrown l g am L1 f2 (o_rowAt σ (xs (Int32.toNatClampNeg (i + 1))) (xs (Int32.toNatClampNeg (i + 2)))).2.2 bs9 (o_rowAt σ (xs (Int32.toNatClampNeg (i + 1))) (xs (Int32.toNatClampNeg (i + 2)))).1 hm9.rf) (cwV 0 hts gL_law_X2_thrown rfl rfl rfl (by decide +kernel) ⟨Nat.le_trans (Nat.le_of_ble_eq_true rfl) hRf, Nat.le_trans (Nat.le_of_ble_eq_true rfl) hRl⟩) rfl hl.1 rfl (Nat.le_of_ble_eq_true rfl) dL_law_322 ⟨by omega, by omega⟩ (fun _ _ _ _ _ _ _ hp => False.elim hp) (fun r9 L3 f3 H locs hp hw => ?_)
  obtain ⟨rfl, rfl, rfl⟩ := hp
  refine W.eq (g2 := F0 m 325 ls [.int (o_rowAt σ (xs (Int32.toNatClampNeg (i + 1))) (xs (Int32.toNatClampNeg (i + 2)))).1]) rfl ?_
  refine lv_iload hx hb dL_law_325 (lv_at hl 1 rfl) ?_
  refine lv_icmp_eq (tgt := 332) hx hb dL_law_327 (by decide) (fun _ => ?_) (fun c => absurd rfl c)
  refine lv_iload hx hb dL_law_332 (lv_at hl 1 rfl) ?_
  refine lv_if_ne (tgt := 349) hx hb dL_law_334 (by decide) (fun c_1 => ?_) (fun c_1 => ?_)
  · refine lv_goto (tgt := 2828) hx hb dL_law_349 (by decide) ?_
    refine W.widen (k := cells + 60) (n := slots + 1000) (by omega) (by omega) ?_
    have hl := lv_sub hl (l' := [(0, .ref b), (1, .ref h), (2, .ref (am 0)), (3, .ref o1), (4, .ref o2), (5, .int i)]) [2, 3, 4, 5, 6, 7] rfl
    exact hback _ _ _ _ _ _ ⟨_, _, _, _, hH2, hm9.1, ho1, ho2⟩ hw hl
  · refine lv_aload_n hx hb dL_law_337 rfl (lv_at hl 5 rfl) ?_
    refine lv_iconst (v := 0) hx hb dL_law_338 (by decide) ?_
    refine zr_lald hx hb hw ho1 (vp_in_iff.mpr (by decide)) dL_law_339 ?_
    refine lv_iload hx hb dL_law_340 (lv_at hl 0 rfl) ?_
    refine lv_i2l (v := b9.toInt64) hx hb dL_law_342 rfl ?_
    refine W.lcmp hx hb dL_law_343 ?_
    have hq_2 : (lg_cmp (F1 (Int32.toNatClampNeg 0)) b9.toInt64) = 0 := zcmp0.mpr (by rw [hb9 c_1]; exact hv1 c_1)
    refine lv_if_eq (tgt := 349) hx hb dL_law_344 (by decide) (fun c_3 => ?_) (fun c_3 => absurd hq_2 c_3)
    refine lv_goto (tgt := 2828) hx hb dL_law_349 (by decide) ?_
    refine W.widen (k := cells + 60) (n := slots + 1000) (by omega) (by omega) ?_
    have hl := lv_sub hl (l' := [(0, .ref b), (1, .ref h), (2, .ref (am 0)), (3, .ref o1), (4, .ref o2), (5, .int i)]) [2, 3, 4, 5, 6, 7] rfl
    exact hback _ _ _ _ _ _ ⟨_, _, _, _, hH2, hm9.1, ho1, ho2⟩ hw hl

set_option maxRecDepth 100000 in
set_option maxHeartbeats 4000000 in
theorem k_law_2 {p : Program} {l : Launch} {e : Env} {R : Room} {s : State} {m : MethodId} {args : Array Value} {below : List Frame} {meth : Method} {c : Code} {H : Heap} {locs : List Loc} {cells slots : Nat} {Q : State → Prop} {ls : Array Slot} {g : zG} {A : Nat → Prop} {L : List Nat} {f : Nat → va_E} {am : Nat → Nat} {h o1 o2 b N : Nat} {σ : ZS} {xs : Nat → Int32} {i : Int32}
    (hx : p.tables.exec = Jvm.exec) (hb : c.code = cL_law) (hml : c.maxLocals = 9) (hown : s.vm.findClass RL = some m.cls) (hts : ∀ w ∈ wsL_law, w.before args s = true) (hl0 : l.stackTraces = false) (hw : zW g A s L f H locs) (hX : zX A s s.heap) (hXs : va_X b N xs s s.heap) (hbl : b < s.heap.size) (hbA : ¬ A b) (hRf : 20 ≤ R.frames) (hRl : 1000 ≤ R.locals) (hRc : cells + 60 ≤ R.cells) (hRs : slots + 1000 ≤ R.slots) (hJ : zLw g h am o1 o2 σ L f) (hix : ∀ j : Nat, j < 7 → vp_in (i + nI j) N) (hl : lv_has ls 9 [(0, .ref b), (1, .ref h), (2, .ref (am 0)), (3, .ref o1), (4, .ref o2), (5, .int i)])
    (hback : ∀ (σ1 : ZS) (L1 : List Nat) (f1 : Nat → va_E) (H1 : Heap) (locs1 : List Loc) (ls1 : Array Slot), zLw g h am o1 o2 σ1 L1 f1 → zW g A s L1 f1 H1 locs1 → lv_has ls1 9 [(0, .ref b), (1, .ref h), (2, .ref (am 0)), (3, .ref o1), (4, .ref o2), (5, .int i)] → W p l e R s m args below meth c H1 locs1 (cells + 60) (slots + 1000) Q (F0 m 2828 ls1 [])) : W p l e R s m args below meth c H locs cells slots Q (F0 m 352 ls []) := by
  obtain ⟨bs, th, F, D, hH, hE, h10, h20⟩ := hJ
  obtain ⟨ln, kd, hI⟩ := zHC_I hH
  obtain ⟨fs9, hcb⟩ := zHC_obj hH
  have hn1 := zMe_ne1 hE h10
  have hn2 := zMe_ne2 hE h20
  have hn12 := zo_ne h10 h20
  refine lv_aload_n hx hb dL_law_352 rfl (lv_at hl 1 rfl) ?_
  refine lv_aload_n hx hb dL_law_353 rfl (lv_at hl 0 rfl) ?_
  refine lv_iload hx hb dL_law_354 (lv_at hl 5 rfl) ?_
  refine lv_iconst (v := 1) hx hb dL_law_356 (by decide) ?_
  refine lv_iadd hx hb dL_law_357 ?_
  refine va_sld hx hb hXs hbl hbA hw.2.2.2.1 (hix 1 (by decide)) dL_law_358 ?_
  refine lv_aload_n hx hb dL_law_359 rfl (lv_at hl 0 rfl) ?_
  refine lv_iload hx hb dL_law_360 (lv_at hl 5 rfl) ?_
  refine lv_iconst (v := 2) hx hb dL_law_362 (by decide) ?_
  refine lv_iadd hx hb dL_law_363 ?_
  refine va_sld hx hb hXs hbl hbA hw.2.2.2.1 (hix 2 (by decide)) dL_law_364 ?_
  refine lv_aload_n hx hb dL_law_365 rfl (lv_at hl 0 rfl) ?_
  refine lv_iload hx hb dL_law_366 (lv_at hl 5 rfl) ?_
  refine lv_iconst (v := 3) hx hb dL_law_368 (by decide) ?_
  refine lv_iadd hx hb dL_law_369 ?_
  refine va_sld hx hb hXs hbl hbA hw.2.2.2.1 (hix 3 (by decide)) dL_law_370 ?_
  refine lv_aload_n hx hb dL_law_371 rfl (lv_at hl 3 rfl) ?_
  refine z_callSX (As := [.ref h, .int (xs (Int32.toNatClampNeg (i + 1))), .int (xs (Int32.toNatClampNeg (i + 2))), .int (xs (Int32.toNatClampNeg (i + 3))), .ref o1]) (rest := []) ⟨hx, hb, hml, hown, hts⟩ hw hX (c_L_rowPut l hl0 g L f h (zPm am o1 o2) σ (xs (Int32.toNatClampNeg (i + 1))) (xs (Int32.toNatClampNeg (i + 2))) (xs (Int32.toNatClampNeg (i + 3))) o1 F hH h10 zPm_1) (vx_cwSW 5 hts gL_law_L_rowPut rfl rfl rfl (by decide +kernel) ⟨Nat.le_trans (Nat.le_of_ble_eq_true rfl) hRf, Nat.le_trans (Nat.le_of_ble_eq_true rfl) hRl⟩) rfl hl.1 rfl (Nat.le_of_ble_eq_true rfl) dL_law_372 ⟨by omega, by omega⟩ (fun _ _ _ _ _ _ _ hp => False.elim hp) (fun r9 L1 f1 H locs hp hw => ?_)
  obtain ⟨rfl, hH1, ⟨F1, hF1, hv1⟩, hfr1⟩ := hp
  have hE1 := zMe_kept hE hH1 (fun k hk => hfr1 _ (zPm_m hk) (hn1 k hk))
  refine W.eq (g2 := F0 m 375 ls [.int (o_rowPut σ (xs (Int32.toNatClampNeg (i + 1))) (xs (Int32.toNatClampNeg (i + 2))) (xs (Int32.toNatClampNeg (i + 3)))).1]) rfl ?_
  refine lv_istore (lv' := [(6, .int (o_rowPut σ (xs (Int32.toNatClampNeg (i + 1))) (xs (Int32.toNatClampNeg (i + 2))) (xs (Int32.toNatClampNeg (i + 3)))).1), (0, .ref b), (1, .ref h), (2, .ref (am 0)), (3, .ref o1), (4, .ref o2), (5, .int i)]) hx hb dL_law_375 hl (by decide) rfl (fun ls hl => ?_)
  refine lv_aload_n hx hb dL_law_377 rfl (lv_at hl 3 rfl) ?_
  refine lv_aload_n hx hb dL_law_378 rfl (lv_at hl 1 rfl) ?_
  refine lv_iload hx hb dL_law_379 (lv_at hl 6 rfl) ?_
  refine lv_iconst (v := 1) hx hb dL_law_381 (by decide) ?_
  refine lv_iadd hx hb dL_law_382 ?_
  refine va_sld hx hb hXs hbl hbA hw.2.2.2.1 (hix 1 (by decide)) dL_law_383 ?_
  refine lv_aload_n hx hb dL_law_384 rfl (lv_at hl 1 rfl) ?_
  refine lv_iload hx hb dL_law_385 (lv_at hl 6 rfl) ?_
  refine lv_iconst (v := 2) hx hb dL_law_387 (by decide) ?_
  refine lv_iadd hx hb dL_law_388 ?_
  refine va_sld hx hb hXs hbl hbA hw.2.2.2.1 (hix 2 (by decide)) dL_law_389 ?_
  refine lv_aload_n hx hb dL_law_390 rfl (lv_at hl 1 rfl) ?_
  refine lv_iload hx hb dL_law_391 (lv_at hl 6 rfl) ?_
  refine lv_iconst (v := 3) hx hb dL_law_393 (by decide) ?_
  refine lv_iadd hx hb dL_law_394 ?_
  refine va_sld hx hb hXs hbl hbA hw.2.2.2.1 (hix 3 (by decide)) dL_law_395 ?_
  refine z_callV (As := [.int (xs (Int32.toNatClampNeg (i + 1))), .int (xs (Int32.toNatClampNeg (i + 2))), .int (xs (Int32.toNatClampNeg (i + 3)))]) (rest := []) ⟨hx, hb, hml, hown, hts⟩ hw hX (hE1.1 0 (by decide)) rfl (c_X2_rowPut l g am L1 f1 σ bs th (xs (Int32.toNatClampNeg (i + 1))) (xs (Int32.toNatClampNeg (i + 2))) (xs (Int32.toNatClampNeg (i + 3))) ⟨hE1, fun _ _ => rfl⟩ hI) (cwV 3 hts gL_law_X2_rowPut rfl rfl rfl (by decide +kernel) ⟨Nat.le_trans (Nat.le_of_ble_eq_true rfl) hRf, Nat.le_trans (Nat.le_of_ble_eq_true rfl) hRl⟩) rfl hl.1 rfl (Nat.le_of_ble_eq_true rfl) dL_law_396 ⟨by omega, by omega⟩ (fun _ _ _ _ _ _ _ hp => False.elim hp) (fun r9 L2 f2 H locs hp hw => ?_)
  obtain ⟨rfl, b9, bs9, rfl, hm9, hb9⟩ := hp
  have ho1 : zc L1 f2 o1 (.inl (g.2 1, 1, .inr (.inl F1))) := ⟨zHC_in hH1 zPm_1, (hm9.2 _ (fun k hk e => hn1 k hk e.symm)).trans hF1⟩
  have ho2 : zc L1 f2 o2 (.inl (g.2 3, 1, .inr (.inr (.inr (.inl D))))) := ⟨zHC_in hH1 zPm_2, (hm9.2 _ (fun k hk e => hn2 k hk e.symm)).trans ((hfr1 _ zPm_2 (Ne.symm hn12)).trans h20.2)⟩
  have hH2 := zHC_mod hH1 hm9.2
  refine W.eq (g2 := F0 m 399 ls [.int b9]) rfl ?_
  refine lv_istore (lv' := [(7, .int b9), (6, .int (o_rowPut σ (xs (Int32.toNatClampNeg (i + 1))) (xs (Int32.toNatClampNeg (i + 2))) (xs (Int32.toNatClampNeg (i + 3)))).1), (0, .ref b), (1, .ref h), (2, .ref (am 0)), (3, .ref o1), (4, .ref o2), (5, .int i)]) hx hb dL_law_399 hl (by decide) rfl (fun ls hl => ?_)
  refine lv_aload_n hx hb dL_law_401 rfl (lv_at hl 4 rfl) ?_
  refine z_callV (As := []) (rest := []) ⟨hx, hb, hml, hown, hts⟩ hw hX (hm9.1.1 0 (by decide)) rfl (c_X2_thrown l g am L1 f2 (o_rowPut σ (xs (Int32.toNatClampNeg (i + 1))) (xs (Int32.toNatClampNeg (i + 2))) (xs (Int32.toNatClampNeg (i + 3)))).2.2 bs9 (o_rowPut σ (xs (Int32.toNatClampNeg (i + 1))) (xs (Int32.toNatClampNeg (i + 2))) (xs (Int32.toNatClampNeg (i + 3)))).1 hm9.rf) (cwV 0 hts gL_law_X2_thrown rfl rfl rfl (by decide +kernel) ⟨Nat.le_trans (Nat.le_of_ble_eq_true rfl) hRf, Nat.le_trans (Nat.le_of_ble_eq_true rfl) hRl⟩) rfl hl.1 rfl (Nat.le_of_ble_eq_true rfl) dL_law_402 ⟨by omega, by omega⟩ (fun _ _ _ _ _ _ _ hp => False.elim hp) (fun r9 L3 f3 H locs hp hw => ?_)
  obtain ⟨rfl, rfl, rfl⟩ := hp
  refine W.eq (g2 := F0 m 405 ls [.int (o_rowPut σ (xs (Int32.toNatClampNeg (i + 1))) (xs (Int32.toNatClampNeg (i + 2))) (xs (Int32.toNatClampNeg (i + 3)))).1]) rfl ?_
  refine lv_iload hx hb dL_law_405 (lv_at hl 1 rfl) ?_
  refine lv_icmp_eq (tgt := 412) hx hb dL_law_407 (by decide) (fun _ => ?_) (fun c => absurd rfl c)
  refine lv_iload hx hb dL_law_412 (lv_at hl 1 rfl) ?_
  refine lv_if_ne (tgt := 429) hx hb dL_law_414 (by decide) (fun c_1 => ?_) (fun c_1 => ?_)
  · refine lv_goto (tgt := 2828) hx hb dL_law_429 (by decide) ?_
    refine W.widen (k := cells + 60) (n := slots + 1000) (by omega) (by omega) ?_
    have hl := lv_sub hl (l' := [(0, .ref b), (1, .ref h), (2, .ref (am 0)), (3, .ref o1), (4, .ref o2), (5, .int i)]) [2, 3, 4, 5, 6, 7] rfl
    exact hback _ _ _ _ _ _ ⟨_, _, _, _, hH2, hm9.1, ho1, ho2⟩ hw hl
  · refine lv_aload_n hx hb dL_law_417 rfl (lv_at hl 5 rfl) ?_
    refine lv_iconst (v := 0) hx hb dL_law_418 (by decide) ?_
    refine zr_lald hx hb hw ho1 (vp_in_iff.mpr (by decide)) dL_law_419 ?_
    refine lv_iload hx hb dL_law_420 (lv_at hl 0 rfl) ?_
    refine lv_i2l (v := b9.toInt64) hx hb dL_law_422 rfl ?_
    refine W.lcmp hx hb dL_law_423 ?_
    have hq_2 : (lg_cmp (F1 (Int32.toNatClampNeg 0)) b9.toInt64) = 0 := zcmp0.mpr (by rw [hb9 c_1]; exact hv1 c_1)
    refine lv_if_eq (tgt := 429) hx hb dL_law_424 (by decide) (fun c_3 => ?_) (fun c_3 => absurd hq_2 c_3)
    refine lv_goto (tgt := 2828) hx hb dL_law_429 (by decide) ?_
    refine W.widen (k := cells + 60) (n := slots + 1000) (by omega) (by omega) ?_
    have hl := lv_sub hl (l' := [(0, .ref b), (1, .ref h), (2, .ref (am 0)), (3, .ref o1), (4, .ref o2), (5, .int i)]) [2, 3, 4, 5, 6, 7] rfl
    exact hback _ _ _ _ _ _ ⟨_, _, _, _, hH2, hm9.1, ho1, ho2⟩ hw hl

set_option maxRecDepth 100000 in
set_option maxHeartbeats 4000000 in
theorem k_law_3 {p : Program} {l : Launch} {e : Env} {R : Room} {s : State} {m : MethodId} {args : Array Value} {below : List Frame} {meth : Method} {c : Code} {H : Heap} {locs : List Loc} {cells slots : Nat} {Q : State → Prop} {ls : Array Slot} {g : zG} {A : Nat → Prop} {L : List Nat} {f : Nat → va_E} {am : Nat → Nat} {h o1 o2 b N : Nat} {σ : ZS} {xs : Nat → Int32} {i : Int32}
    (hx : p.tables.exec = Jvm.exec) (hb : c.code = cL_law) (hml : c.maxLocals = 9) (hown : s.vm.findClass RL = some m.cls) (hts : ∀ w ∈ wsL_law, w.before args s = true) (hl0 : l.stackTraces = false) (hw : zW g A s L f H locs) (hX : zX A s s.heap) (hXs : va_X b N xs s s.heap) (hbl : b < s.heap.size) (hbA : ¬ A b) (hRf : 20 ≤ R.frames) (hRl : 1000 ≤ R.locals) (hRc : cells + 60 ≤ R.cells) (hRs : slots + 1000 ≤ R.slots) (hJ : zLw g h am o1 o2 σ L f) (hix : ∀ j : Nat, j < 7 → vp_in (i + nI j) N) (hl : lv_has ls 9 [(0, .ref b), (1, .ref h), (2, .ref (am 0)), (3, .ref o1), (4, .ref o2), (5, .int i)])
    (hback : ∀ (σ1 : ZS) (L1 : List Nat) (f1 : Nat → va_E) (H1 : Heap) (locs1 : List Loc) (ls1 : Array Slot), zLw g h am o1 o2 σ1 L1 f1 → zW g A s L1 f1 H1 locs1 → lv_has ls1 9 [(0, .ref b), (1, .ref h), (2, .ref (am 0)), (3, .ref o1), (4, .ref o2), (5, .int i)] → W p l e R s m args below meth c H1 locs1 (cells + 60) (slots + 1000) Q (F0 m 2828 ls1 [])) : W p l e R s m args below meth c H locs cells slots Q (F0 m 432 ls []) := by
  obtain ⟨bs, th, F, D, hH, hE, h10, h20⟩ := hJ
  obtain ⟨ln, kd, hI⟩ := zHC_I hH
  obtain ⟨fs9, hcb⟩ := zHC_obj hH
  have hn1 := zMe_ne1 hE h10
  have hn2 := zMe_ne2 hE h20
  have hn12 := zo_ne h10 h20
  refine lv_aload_n hx hb dL_law_432 rfl (lv_at hl 1 rfl) ?_
  refine lv_aload_n hx hb dL_law_433 rfl (lv_at hl 0 rfl) ?_
  refine lv_iload hx hb dL_law_434 (lv_at hl 5 rfl) ?_
  refine lv_iconst (v := 1) hx hb dL_law_436 (by decide) ?_
  refine lv_iadd hx hb dL_law_437 ?_
  refine va_sld hx hb hXs hbl hbA hw.2.2.2.1 (hix 1 (by decide)) dL_law_438 ?_
  refine lv_aload_n hx hb dL_law_439 rfl (lv_at hl 0 rfl) ?_
  refine lv_iload hx hb dL_law_440 (lv_at hl 5 rfl) ?_
  refine lv_iconst (v := 2) hx hb dL_law_442 (by decide) ?_
  refine lv_iadd hx hb dL_law_443 ?_
  refine va_sld hx hb hXs hbl hbA hw.2.2.2.1 (hix 2 (by decide)) dL_law_444 ?_
  refine lv_i2c (v := ((xs (Int32.toNatClampNeg (i + 2))).toUInt32 % 65536).toInt32) hx hb dL_law_445 rfl ?_
  refine lv_aload_n hx hb dL_law_446 rfl (lv_at hl 0 rfl) ?_
  refine lv_iload hx hb dL_law_447 (lv_at hl 5 rfl) ?_
  refine lv_iconst (v := 3) hx hb dL_law_449 (by decide) ?_
  refine lv_iadd hx hb dL_law_450 ?_
  refine va_sld hx hb hXs hbl hbA hw.2.2.2.1 (hix 3 (by decide)) dL_law_451 ?_
  refine lv_aload_n hx hb dL_law_452 rfl (lv_at hl 3 rfl) ?_
  refine z_callSX (As := [.ref h, .int (xs (Int32.toNatClampNeg (i + 1))), .int ((xs (Int32.toNatClampNeg (i + 2))).toUInt32 % 65536).toInt32, .int (xs (Int32.toNatClampNeg (i + 3))), .ref o1]) (rest := []) ⟨hx, hb, hml, hown, hts⟩ hw hX (c_L_allocate l hl0 g L f h (zPm am o1 o2) σ (xs (Int32.toNatClampNeg (i + 1))) (((xs (Int32.toNatClampNeg (i + 2))).toUInt32 % 65536).toInt32) (xs (Int32.toNatClampNeg (i + 3))) o1 F hH h10 zPm_1) (vx_cwSW 5 hts gL_law_L_allocate rfl rfl rfl (by decide +kernel) ⟨Nat.le_trans (Nat.le_of_ble_eq_true rfl) hRf, Nat.le_trans (Nat.le_of_ble_eq_true rfl) hRl⟩) rfl hl.1 rfl (Nat.le_of_ble_eq_true rfl) dL_law_453 ⟨by omega, by omega⟩ (fun _ _ _ _ _ _ _ hp => False.elim hp) (fun r9 L1 f1 H locs hp hw => ?_)
  obtain ⟨rfl, hH1, ⟨F1, hF1, hv1⟩, hfr1⟩ := hp
  have hE1 := zMe_kept hE hH1 (fun k hk => hfr1 _ (zPm_m hk) (hn1 k hk))
  refine W.eq (g2 := F0 m 456 ls [.int (o_allocate σ (xs (Int32.toNatClampNeg (i + 1))) (((xs (Int32.toNatClampNeg (i + 2))).toUInt32 % 65536).toInt32) (xs (Int32.toNatClampNeg (i + 3)))).1]) rfl ?_
  refine lv_istore (lv' := [(6, .int (o_allocate σ (xs (Int32.toNatClampNeg (i + 1))) (((xs (Int32.toNatClampNeg (i + 2))).toUInt32 % 65536).toInt32) (xs (Int32.toNatClampNeg (i + 3)))).1), (0, .ref b), (1, .ref h), (2, .ref (am 0)), (3, .ref o1), (4, .ref o2), (5, .int i)]) hx hb dL_law_456 hl (by decide) rfl (fun ls hl => ?_)
  refine lv_aload_n hx hb dL_law_458 rfl (lv_at hl 3 rfl) ?_
  refine lv_aload_n hx hb dL_law_459 rfl (lv_at hl 1 rfl) ?_
  refine lv_iload hx hb dL_law_460 (lv_at hl 6 rfl) ?_
  refine lv_iconst (v := 1) hx hb dL_law_462 (by decide) ?_
  refine lv_iadd hx hb dL_law_463 ?_
  refine va_sld hx hb hXs hbl hbA hw.2.2.2.1 (hix 1 (by decide)) dL_law_464 ?_
  refine lv_aload_n hx hb dL_law_465 rfl (lv_at hl 1 rfl) ?_
  refine lv_iload hx hb dL_law_466 (lv_at hl 6 rfl) ?_
  refine lv_iconst (v := 2) hx hb dL_law_468 (by decide) ?_
  refine lv_iadd hx hb dL_law_469 ?_
  refine va_sld hx hb hXs hbl hbA hw.2.2.2.1 (hix 2 (by decide)) dL_law_470 ?_
  refine lv_i2c (v := ((xs (Int32.toNatClampNeg (i + 2))).toUInt32 % 65536).toInt32) hx hb dL_law_471 rfl ?_
  refine lv_aload_n hx hb dL_law_472 rfl (lv_at hl 1 rfl) ?_
  refine lv_iload hx hb dL_law_473 (lv_at hl 6 rfl) ?_
  refine lv_iconst (v := 3) hx hb dL_law_475 (by decide) ?_
  refine lv_iadd hx hb dL_law_476 ?_
  refine va_sld hx hb hXs hbl hbA hw.2.2.2.1 (hix 3 (by decide)) dL_law_477 ?_
  refine z_callV (As := [.int (xs (Int32.toNatClampNeg (i + 1))), .int ((xs (Int32.toNatClampNeg (i + 2))).toUInt32 % 65536).toInt32, .int (xs (Int32.toNatClampNeg (i + 3)))]) (rest := []) ⟨hx, hb, hml, hown, hts⟩ hw hX (hE1.1 0 (by decide)) rfl (c_X2_allocate l g am L1 f1 σ bs th (xs (Int32.toNatClampNeg (i + 1))) (((xs (Int32.toNatClampNeg (i + 2))).toUInt32 % 65536).toInt32) (xs (Int32.toNatClampNeg (i + 3))) ⟨hE1, fun _ _ => rfl⟩ hI) (cwV 3 hts gL_law_X2_allocate rfl rfl rfl (by decide +kernel) ⟨Nat.le_trans (Nat.le_of_ble_eq_true rfl) hRf, Nat.le_trans (Nat.le_of_ble_eq_true rfl) hRl⟩) rfl hl.1 rfl (Nat.le_of_ble_eq_true rfl) dL_law_478 ⟨by omega, by omega⟩ (fun _ _ _ _ _ _ _ hp => False.elim hp) (fun r9 L2 f2 H locs hp hw => ?_)
  obtain ⟨rfl, b9, bs9, rfl, hm9, hb9⟩ := hp
  have ho1 : zc L1 f2 o1 (.inl (g.2 1, 1, .inr (.inl F1))) := ⟨zHC_in hH1 zPm_1, (hm9.2 _ (fun k hk e => hn1 k hk e.symm)).trans hF1⟩
  have ho2 : zc L1 f2 o2 (.inl (g.2 3, 1, .inr (.inr (.inr (.inl D))))) := ⟨zHC_in hH1 zPm_2, (hm9.2 _ (fun k hk e => hn2 k hk e.symm)).trans ((hfr1 _ zPm_2 (Ne.symm hn12)).trans h20.2)⟩
  have hH2 := zHC_mod hH1 hm9.2
  refine W.eq (g2 := F0 m 481 ls [.int b9]) rfl ?_
  refine lv_istore (lv' := [(7, .int b9), (6, .int (o_allocate σ (xs (Int32.toNatClampNeg (i + 1))) (((xs (Int32.toNatClampNeg (i + 2))).toUInt32 % 65536).toInt32) (xs (Int32.toNatClampNeg (i + 3)))).1), (0, .ref b), (1, .ref h), (2, .ref (am 0)), (3, .ref o1), (4, .ref o2), (5, .int i)]) hx hb dL_law_481 hl (by decide) rfl (fun ls hl => ?_)
  refine lv_aload_n hx hb dL_law_483 rfl (lv_at hl 4 rfl) ?_
  refine z_callV (As := []) (rest := []) ⟨hx, hb, hml, hown, hts⟩ hw hX (hm9.1.1 0 (by decide)) rfl (c_X2_thrown l g am L1 f2 (o_allocate σ (xs (Int32.toNatClampNeg (i + 1))) (((xs (Int32.toNatClampNeg (i + 2))).toUInt32 % 65536).toInt32) (xs (Int32.toNatClampNeg (i + 3)))).2.2 bs9 (o_allocate σ (xs (Int32.toNatClampNeg (i + 1))) (((xs (Int32.toNatClampNeg (i + 2))).toUInt32 % 65536).toInt32) (xs (Int32.toNatClampNeg (i + 3)))).1 hm9.rf) (cwV 0 hts gL_law_X2_thrown rfl rfl rfl (by decide +kernel) ⟨Nat.le_trans (Nat.le_of_ble_eq_true rfl) hRf, Nat.le_trans (Nat.le_of_ble_eq_true rfl) hRl⟩) rfl hl.1 rfl (Nat.le_of_ble_eq_true rfl) dL_law_484 ⟨by omega, by omega⟩ (fun _ _ _ _ _ _ _ hp => False.elim hp) (fun r9 L3 f3 H locs hp hw => ?_)
  obtain ⟨rfl, rfl, rfl⟩ := hp
  refine W.eq (g2 := F0 m 487 ls [.int (o_allocate σ (xs (Int32.toNatClampNeg (i + 1))) (((xs (Int32.toNatClampNeg (i + 2))).toUInt32 % 65536).toInt32) (xs (Int32.toNatClampNeg (i + 3)))).1]) rfl ?_
  refine lv_iload hx hb dL_law_487 (lv_at hl 1 rfl) ?_
  refine lv_icmp_eq (tgt := 494) hx hb dL_law_489 (by decide) (fun _ => ?_) (fun c => absurd rfl c)
  refine lv_iload hx hb dL_law_494 (lv_at hl 1 rfl) ?_
  refine lv_if_ne (tgt := 518) hx hb dL_law_496 (by decide) (fun c_1 => ?_) (fun c_1 => ?_)
  · refine lv_goto (tgt := 2828) hx hb dL_law_518 (by decide) ?_
    refine W.widen (k := cells + 60) (n := slots + 1000) (by omega) (by omega) ?_
    have hl := lv_sub hl (l' := [(0, .ref b), (1, .ref h), (2, .ref (am 0)), (3, .ref o1), (4, .ref o2), (5, .int i)]) [2, 3, 4, 5, 6, 7] rfl
    exact hback _ _ _ _ _ _ ⟨_, _, _, _, hH2, hm9.1, ho1, ho2⟩ hw hl
  · refine lv_aload_n hx hb dL_law_499 rfl (lv_at hl 5 rfl) ?_
    refine lv_iconst (v := 0) hx hb dL_law_500 (by decide) ?_
    refine zr_lald hx hb hw ho1 (vp_in_iff.mpr (by decide)) dL_law_501 ?_
    refine lv_iload hx hb dL_law_502 (lv_at hl 0 rfl) ?_
    refine lv_if_eq (tgt := 511) hx hb dL_law_504 (by decide) (fun c_2 => ?_) (fun c_2 => ?_)
    · refine lv_lconst (v := 0) hx hb dL_law_511 (by decide) ?_
      refine W.lcmp hx hb dL_law_512 ?_
      have hq_3 : (lg_cmp (F1 (Int32.toNatClampNeg 0)) 0) = 0 := zcmp0.mpr ((hv1 c_1).trans (if_pos (by rw [← hb9 c_1]; exact c_2)))
      refine lv_if_eq (tgt := 518) hx hb dL_law_513 (by decide) (fun c_4 => ?_) (fun c_4 => absurd hq_3 c_4)
      refine lv_goto (tgt := 2828) hx hb dL_law_518 (by decide) ?_
      refine W.widen (k := cells + 60) (n := slots + 1000) (by omega) (by omega) ?_
      have hl := lv_sub hl (l' := [(0, .ref b), (1, .ref h), (2, .ref (am 0)), (3, .ref o1), (4, .ref o2), (5, .int i)]) [2, 3, 4, 5, 6, 7] rfl
      exact hback _ _ _ _ _ _ ⟨_, _, _, _, hH2, hm9.1, ho1, ho2⟩ hw hl
    · refine lv_lconst (v := 1) hx hb dL_law_507 (by decide) ?_
      refine lv_goto (tgt := 512) hx hb dL_law_508 (by decide) ?_
      refine W.lcmp hx hb dL_law_512 ?_
      have hq_5 : (lg_cmp (F1 (Int32.toNatClampNeg 0)) 1) = 0 := zcmp0.mpr ((hv1 c_1).trans (if_neg (by rw [← hb9 c_1]; exact c_2)))
      refine lv_if_eq (tgt := 518) hx hb dL_law_513 (by decide) (fun c_6 => ?_) (fun c_6 => absurd hq_5 c_6)
      refine lv_goto (tgt := 2828) hx hb dL_law_518 (by decide) ?_
      refine W.widen (k := cells + 60) (n := slots + 1000) (by omega) (by omega) ?_
      have hl := lv_sub hl (l' := [(0, .ref b), (1, .ref h), (2, .ref (am 0)), (3, .ref o1), (4, .ref o2), (5, .int i)]) [2, 3, 4, 5, 6, 7] rfl
      exact hback _ _ _ _ _ _ ⟨_, _, _, _, hH2, hm9.1, ho1, ho2⟩ hw hl

set_option maxRecDepth 100000 in
set_option maxHeartbeats 4000000 in
theorem k_law_4 {p : Program} {l : Launch} {e : Env} {R : Room} {s : State} {m : MethodId} {args : Array Value} {below : List Frame} {meth : Method} {c : Code} {H : Heap} {locs : List Loc} {cells slots : Nat} {Q : State → Prop} {ls : Array Slot} {g : zG} {A : Nat → Prop} {L : List Nat} {f : Nat → va_E} {am : Nat → Nat} {h o1 o2 b N : Nat} {σ : ZS} {xs : Nat → Int32} {i : Int32}
    (hx : p.tables.exec = Jvm.exec) (hb : c.code = cL_law) (hml : c.maxLocals = 9) (hown : s.vm.findClass RL = some m.cls) (hts : ∀ w ∈ wsL_law, w.before args s = true) (hl0 : l.stackTraces = false) (hw : zW g A s L f H locs) (hX : zX A s s.heap) (hXs : va_X b N xs s s.heap) (hbl : b < s.heap.size) (hbA : ¬ A b) (hRf : 20 ≤ R.frames) (hRl : 1000 ≤ R.locals) (hRc : cells + 60 ≤ R.cells) (hRs : slots + 1000 ≤ R.slots) (hJ : zLw g h am o1 o2 σ L f) (hix : ∀ j : Nat, j < 7 → vp_in (i + nI j) N) (hl : lv_has ls 9 [(0, .ref b), (1, .ref h), (2, .ref (am 0)), (3, .ref o1), (4, .ref o2), (5, .int i)])
    (hback : ∀ (σ1 : ZS) (L1 : List Nat) (f1 : Nat → va_E) (H1 : Heap) (locs1 : List Loc) (ls1 : Array Slot), zLw g h am o1 o2 σ1 L1 f1 → zW g A s L1 f1 H1 locs1 → lv_has ls1 9 [(0, .ref b), (1, .ref h), (2, .ref (am 0)), (3, .ref o1), (4, .ref o2), (5, .int i)] → W p l e R s m args below meth c H1 locs1 (cells + 60) (slots + 1000) Q (F0 m 2828 ls1 [])) : W p l e R s m args below meth c H locs cells slots Q (F0 m 521 ls []) := by
  obtain ⟨bs, th, F, D, hH, hE, h10, h20⟩ := hJ
  obtain ⟨ln, kd, hI⟩ := zHC_I hH
  obtain ⟨fs9, hcb⟩ := zHC_obj hH
  have hn1 := zMe_ne1 hE h10
  have hn2 := zMe_ne2 hE h20
  have hn12 := zo_ne h10 h20
  refine lv_aload_n hx hb dL_law_521 rfl (lv_at hl 1 rfl) ?_
  refine lv_aload_n hx hb dL_law_522 rfl (lv_at hl 0 rfl) ?_
  refine lv_iload hx hb dL_law_523 (lv_at hl 5 rfl) ?_
  refine lv_iconst (v := 1) hx hb dL_law_525 (by decide) ?_
  refine lv_iadd hx hb dL_law_526 ?_
  refine va_sld hx hb hXs hbl hbA hw.2.2.2.1 (hix 1 (by decide)) dL_law_527 ?_
  refine lv_aload_n hx hb dL_law_528 rfl (lv_at hl 0 rfl) ?_
  refine lv_iload hx hb dL_law_529 (lv_at hl 5 rfl) ?_
  refine lv_iconst (v := 2) hx hb dL_law_531 (by decide) ?_
  refine lv_iadd hx hb dL_law_532 ?_
  refine va_sld hx hb hXs hbl hbA hw.2.2.2.1 (hix 2 (by decide)) dL_law_533 ?_
  refine lv_aload_n hx hb dL_law_534 rfl (lv_at hl 3 rfl) ?_
  refine z_callSX (As := [.ref h, .int (xs (Int32.toNatClampNeg (i + 1))), .int (xs (Int32.toNatClampNeg (i + 2))), .ref o1]) (rest := []) ⟨hx, hb, hml, hown, hts⟩ hw hX (c_L_wrap l hl0 g L f h (zPm am o1 o2) σ (xs (Int32.toNatClampNeg (i + 1))) (xs (Int32.toNatClampNeg (i + 2))) o1 F hH h10 zPm_1) (vx_cwSW 4 hts gL_law_L_wrap rfl rfl rfl (by decide +kernel) ⟨Nat.le_trans (Nat.le_of_ble_eq_true rfl) hRf, Nat.le_trans (Nat.le_of_ble_eq_true rfl) hRl⟩) rfl hl.1 rfl (Nat.le_of_ble_eq_true rfl) dL_law_535 ⟨by omega, by omega⟩ (fun _ _ _ _ _ _ _ hp => False.elim hp) (fun r9 L1 f1 H locs hp hw => ?_)
  obtain ⟨rfl, hH1, ⟨F1, hF1, hv1⟩, hfr1⟩ := hp
  have hE1 := zMe_kept hE hH1 (fun k hk => hfr1 _ (zPm_m hk) (hn1 k hk))
  refine W.eq (g2 := F0 m 538 ls [.int (o_wrap σ (xs (Int32.toNatClampNeg (i + 1))) (xs (Int32.toNatClampNeg (i + 2)))).1]) rfl ?_
  refine lv_istore (lv' := [(6, .int (o_wrap σ (xs (Int32.toNatClampNeg (i + 1))) (xs (Int32.toNatClampNeg (i + 2)))).1), (0, .ref b), (1, .ref h), (2, .ref (am 0)), (3, .ref o1), (4, .ref o2), (5, .int i)]) hx hb dL_law_538 hl (by decide) rfl (fun ls hl => ?_)
  refine lv_aload_n hx hb dL_law_540 rfl (lv_at hl 3 rfl) ?_
  refine lv_aload_n hx hb dL_law_541 rfl (lv_at hl 1 rfl) ?_
  refine lv_iload hx hb dL_law_542 (lv_at hl 6 rfl) ?_
  refine lv_iconst (v := 1) hx hb dL_law_544 (by decide) ?_
  refine lv_iadd hx hb dL_law_545 ?_
  refine va_sld hx hb hXs hbl hbA hw.2.2.2.1 (hix 1 (by decide)) dL_law_546 ?_
  refine lv_aload_n hx hb dL_law_547 rfl (lv_at hl 1 rfl) ?_
  refine lv_iload hx hb dL_law_548 (lv_at hl 6 rfl) ?_
  refine lv_iconst (v := 2) hx hb dL_law_550 (by decide) ?_
  refine lv_iadd hx hb dL_law_551 ?_
  refine va_sld hx hb hXs hbl hbA hw.2.2.2.1 (hix 2 (by decide)) dL_law_552 ?_
  refine z_callV (As := [.int (xs (Int32.toNatClampNeg (i + 1))), .int (xs (Int32.toNatClampNeg (i + 2)))]) (rest := []) ⟨hx, hb, hml, hown, hts⟩ hw hX (hE1.1 0 (by decide)) rfl (c_X2_wrap l g am L1 f1 σ bs th (xs (Int32.toNatClampNeg (i + 1))) (xs (Int32.toNatClampNeg (i + 2))) ⟨hE1, fun _ _ => rfl⟩ hI) (cwV 2 hts gL_law_X2_wrap rfl rfl rfl (by decide +kernel) ⟨Nat.le_trans (Nat.le_of_ble_eq_true rfl) hRf, Nat.le_trans (Nat.le_of_ble_eq_true rfl) hRl⟩) rfl hl.1 rfl (Nat.le_of_ble_eq_true rfl) dL_law_553 ⟨by omega, by omega⟩ (fun _ _ _ _ _ _ _ hp => False.elim hp) (fun r9 L2 f2 H locs hp hw => ?_)
  obtain ⟨rfl, b9, bs9, rfl, hm9, hb9⟩ := hp
  have ho1 : zc L1 f2 o1 (.inl (g.2 1, 1, .inr (.inl F1))) := ⟨zHC_in hH1 zPm_1, (hm9.2 _ (fun k hk e => hn1 k hk e.symm)).trans hF1⟩
  have ho2 : zc L1 f2 o2 (.inl (g.2 3, 1, .inr (.inr (.inr (.inl D))))) := ⟨zHC_in hH1 zPm_2, (hm9.2 _ (fun k hk e => hn2 k hk e.symm)).trans ((hfr1 _ zPm_2 (Ne.symm hn12)).trans h20.2)⟩
  have hH2 := zHC_mod hH1 hm9.2
  refine W.eq (g2 := F0 m 556 ls [.int b9]) rfl ?_
  refine lv_istore (lv' := [(7, .int b9), (6, .int (o_wrap σ (xs (Int32.toNatClampNeg (i + 1))) (xs (Int32.toNatClampNeg (i + 2)))).1), (0, .ref b), (1, .ref h), (2, .ref (am 0)), (3, .ref o1), (4, .ref o2), (5, .int i)]) hx hb dL_law_556 hl (by decide) rfl (fun ls hl => ?_)
  refine lv_aload_n hx hb dL_law_558 rfl (lv_at hl 4 rfl) ?_
  refine z_callV (As := []) (rest := []) ⟨hx, hb, hml, hown, hts⟩ hw hX (hm9.1.1 0 (by decide)) rfl (c_X2_thrown l g am L1 f2 (o_wrap σ (xs (Int32.toNatClampNeg (i + 1))) (xs (Int32.toNatClampNeg (i + 2)))).2.2 bs9 (o_wrap σ (xs (Int32.toNatClampNeg (i + 1))) (xs (Int32.toNatClampNeg (i + 2)))).1 hm9.rf) (cwV 0 hts gL_law_X2_thrown rfl rfl rfl (by decide +kernel) ⟨Nat.le_trans (Nat.le_of_ble_eq_true rfl) hRf, Nat.le_trans (Nat.le_of_ble_eq_true rfl) hRl⟩) rfl hl.1 rfl (Nat.le_of_ble_eq_true rfl) dL_law_559 ⟨by omega, by omega⟩ (fun _ _ _ _ _ _ _ hp => False.elim hp) (fun r9 L3 f3 H locs hp hw => ?_)
  obtain ⟨rfl, rfl, rfl⟩ := hp
  refine W.eq (g2 := F0 m 562 ls [.int (o_wrap σ (xs (Int32.toNatClampNeg (i + 1))) (xs (Int32.toNatClampNeg (i + 2)))).1]) rfl ?_
  refine lv_iload hx hb dL_law_562 (lv_at hl 1 rfl) ?_
  refine lv_icmp_eq (tgt := 569) hx hb dL_law_564 (by decide) (fun _ => ?_) (fun c => absurd rfl c)
  refine lv_iload hx hb dL_law_569 (lv_at hl 1 rfl) ?_
  refine lv_if_ne (tgt := 586) hx hb dL_law_571 (by decide) (fun c_1 => ?_) (fun c_1 => ?_)
  · refine lv_goto (tgt := 2828) hx hb dL_law_586 (by decide) ?_
    refine W.widen (k := cells + 60) (n := slots + 1000) (by omega) (by omega) ?_
    have hl := lv_sub hl (l' := [(0, .ref b), (1, .ref h), (2, .ref (am 0)), (3, .ref o1), (4, .ref o2), (5, .int i)]) [2, 3, 4, 5, 6, 7] rfl
    exact hback _ _ _ _ _ _ ⟨_, _, _, _, hH2, hm9.1, ho1, ho2⟩ hw hl
  · refine lv_aload_n hx hb dL_law_574 rfl (lv_at hl 5 rfl) ?_
    refine lv_iconst (v := 0) hx hb dL_law_575 (by decide) ?_
    refine zr_lald hx hb hw ho1 (vp_in_iff.mpr (by decide)) dL_law_576 ?_
    refine lv_iload hx hb dL_law_577 (lv_at hl 0 rfl) ?_
    refine lv_i2l (v := b9.toInt64) hx hb dL_law_579 rfl ?_
    refine W.lcmp hx hb dL_law_580 ?_
    have hq_2 : (lg_cmp (F1 (Int32.toNatClampNeg 0)) b9.toInt64) = 0 := zcmp0.mpr (by rw [hb9 c_1]; exact hv1 c_1)
    refine lv_if_eq (tgt := 586) hx hb dL_law_581 (by decide) (fun c_3 => ?_) (fun c_3 => absurd hq_2 c_3)
    refine lv_goto (tgt := 2828) hx hb dL_law_586 (by decide) ?_
    refine W.widen (k := cells + 60) (n := slots + 1000) (by omega) (by omega) ?_
    have hl := lv_sub hl (l' := [(0, .ref b), (1, .ref h), (2, .ref (am 0)), (3, .ref o1), (4, .ref o2), (5, .int i)]) [2, 3, 4, 5, 6, 7] rfl
    exact hback _ _ _ _ _ _ ⟨_, _, _, _, hH2, hm9.1, ho1, ho2⟩ hw hl

set_option maxRecDepth 100000 in
set_option maxHeartbeats 4000000 in
theorem k_law_5 {p : Program} {l : Launch} {e : Env} {R : Room} {s : State} {m : MethodId} {args : Array Value} {below : List Frame} {meth : Method} {c : Code} {H : Heap} {locs : List Loc} {cells slots : Nat} {Q : State → Prop} {ls : Array Slot} {g : zG} {A : Nat → Prop} {L : List Nat} {f : Nat → va_E} {am : Nat → Nat} {h o1 o2 b N : Nat} {σ : ZS} {xs : Nat → Int32} {i : Int32}
    (hx : p.tables.exec = Jvm.exec) (hb : c.code = cL_law) (hml : c.maxLocals = 9) (hown : s.vm.findClass RL = some m.cls) (hts : ∀ w ∈ wsL_law, w.before args s = true) (hl0 : l.stackTraces = false) (hw : zW g A s L f H locs) (hX : zX A s s.heap) (hXs : va_X b N xs s s.heap) (hbl : b < s.heap.size) (hbA : ¬ A b) (hRf : 20 ≤ R.frames) (hRl : 1000 ≤ R.locals) (hRc : cells + 60 ≤ R.cells) (hRs : slots + 1000 ≤ R.slots) (hJ : zLw g h am o1 o2 σ L f) (hix : ∀ j : Nat, j < 7 → vp_in (i + nI j) N) (hl : lv_has ls 9 [(0, .ref b), (1, .ref h), (2, .ref (am 0)), (3, .ref o1), (4, .ref o2), (5, .int i)])
    (hback : ∀ (σ1 : ZS) (L1 : List Nat) (f1 : Nat → va_E) (H1 : Heap) (locs1 : List Loc) (ls1 : Array Slot), zLw g h am o1 o2 σ1 L1 f1 → zW g A s L1 f1 H1 locs1 → lv_has ls1 9 [(0, .ref b), (1, .ref h), (2, .ref (am 0)), (3, .ref o1), (4, .ref o2), (5, .int i)] → W p l e R s m args below meth c H1 locs1 (cells + 60) (slots + 1000) Q (F0 m 2828 ls1 [])) : W p l e R s m args below meth c H locs cells slots Q (F0 m 589 ls []) := by
  obtain ⟨bs, th, F, D, hH, hE, h10, h20⟩ := hJ
  obtain ⟨ln, kd, hI⟩ := zHC_I hH
  obtain ⟨fs9, hcb⟩ := zHC_obj hH
  have hn1 := zMe_ne1 hE h10
  have hn2 := zMe_ne2 hE h20
  have hn12 := zo_ne h10 h20
  refine lv_aload_n hx hb dL_law_589 rfl (lv_at hl 1 rfl) ?_
  refine lv_aload_n hx hb dL_law_590 rfl (lv_at hl 0 rfl) ?_
  refine lv_iload hx hb dL_law_591 (lv_at hl 5 rfl) ?_
  refine lv_iconst (v := 1) hx hb dL_law_593 (by decide) ?_
  refine lv_iadd hx hb dL_law_594 ?_
  refine va_sld hx hb hXs hbl hbA hw.2.2.2.1 (hix 1 (by decide)) dL_law_595 ?_
  refine lv_aload_n hx hb dL_law_596 rfl (lv_at hl 3 rfl) ?_
  refine z_callSX (As := [.ref h, .int (xs (Int32.toNatClampNeg (i + 1))), .ref o1]) (rest := []) ⟨hx, hb, hml, hown, hts⟩ hw hX (c_L_kind l hl0 g L f h (zPm am o1 o2) σ (xs (Int32.toNatClampNeg (i + 1))) o1 F hH h10 zPm_1) (vx_cwSW 3 hts gL_law_L_kind rfl rfl rfl (by decide +kernel) ⟨Nat.le_trans (Nat.le_of_ble_eq_true rfl) hRf, Nat.le_trans (Nat.le_of_ble_eq_true rfl) hRl⟩) rfl hl.1 rfl (Nat.le_of_ble_eq_true rfl) dL_law_597 ⟨by omega, by omega⟩ (fun _ _ _ _ _ _ _ hp => False.elim hp) (fun r9 L1 f1 H locs hp hw => ?_)
  obtain ⟨rfl, hH1, ⟨F1, hF1, hv1⟩, hfr1⟩ := hp
  have hE1 := zMe_kept hE hH1 (fun k hk => hfr1 _ (zPm_m hk) (hn1 k hk))
  refine W.eq (g2 := F0 m 600 ls [.int (o_kind σ (xs (Int32.toNatClampNeg (i + 1)))).1]) rfl ?_
  refine lv_istore (lv' := [(6, .int (o_kind σ (xs (Int32.toNatClampNeg (i + 1)))).1), (0, .ref b), (1, .ref h), (2, .ref (am 0)), (3, .ref o1), (4, .ref o2), (5, .int i)]) hx hb dL_law_600 hl (by decide) rfl (fun ls hl => ?_)
  refine lv_aload_n hx hb dL_law_602 rfl (lv_at hl 3 rfl) ?_
  refine lv_aload_n hx hb dL_law_603 rfl (lv_at hl 1 rfl) ?_
  refine lv_iload hx hb dL_law_604 (lv_at hl 6 rfl) ?_
  refine lv_iconst (v := 1) hx hb dL_law_606 (by decide) ?_
  refine lv_iadd hx hb dL_law_607 ?_
  refine va_sld hx hb hXs hbl hbA hw.2.2.2.1 (hix 1 (by decide)) dL_law_608 ?_
  refine z_callV (As := [.int (xs (Int32.toNatClampNeg (i + 1)))]) (rest := []) ⟨hx, hb, hml, hown, hts⟩ hw hX (hE1.1 0 (by decide)) rfl (c_X2_kind l g am L1 f1 σ bs th (xs (Int32.toNatClampNeg (i + 1))) ⟨hE1, fun _ _ => rfl⟩ hI) (cwV 1 hts gL_law_X2_kind rfl rfl rfl (by decide +kernel) ⟨Nat.le_trans (Nat.le_of_ble_eq_true rfl) hRf, Nat.le_trans (Nat.le_of_ble_eq_true rfl) hRl⟩) rfl hl.1 rfl (Nat.le_of_ble_eq_true rfl) dL_law_609 ⟨by omega, by omega⟩ (fun _ _ _ _ _ _ _ hp => False.elim hp) (fun r9 L2 f2 H locs hp hw => ?_)
  obtain ⟨rfl, b9, bs9, rfl, hm9, hb9⟩ := hp
  have ho1 : zc L1 f2 o1 (.inl (g.2 1, 1, .inr (.inl F1))) := ⟨zHC_in hH1 zPm_1, (hm9.2 _ (fun k hk e => hn1 k hk e.symm)).trans hF1⟩
  have ho2 : zc L1 f2 o2 (.inl (g.2 3, 1, .inr (.inr (.inr (.inl D))))) := ⟨zHC_in hH1 zPm_2, (hm9.2 _ (fun k hk e => hn2 k hk e.symm)).trans ((hfr1 _ zPm_2 (Ne.symm hn12)).trans h20.2)⟩
  have hH2 := zHC_mod hH1 hm9.2
  refine W.eq (g2 := F0 m 612 ls [.int b9]) rfl ?_
  refine lv_istore (lv' := [(7, .int b9), (6, .int (o_kind σ (xs (Int32.toNatClampNeg (i + 1)))).1), (0, .ref b), (1, .ref h), (2, .ref (am 0)), (3, .ref o1), (4, .ref o2), (5, .int i)]) hx hb dL_law_612 hl (by decide) rfl (fun ls hl => ?_)
  refine lv_aload_n hx hb dL_law_614 rfl (lv_at hl 4 rfl) ?_
  refine z_callV (As := []) (rest := []) ⟨hx, hb, hml, hown, hts⟩ hw hX (hm9.1.1 0 (by decide)) rfl (c_X2_thrown l g am L1 f2 (o_kind σ (xs (Int32.toNatClampNeg (i + 1)))).2.2 bs9 (o_kind σ (xs (Int32.toNatClampNeg (i + 1)))).1 hm9.rf) (cwV 0 hts gL_law_X2_thrown rfl rfl rfl (by decide +kernel) ⟨Nat.le_trans (Nat.le_of_ble_eq_true rfl) hRf, Nat.le_trans (Nat.le_of_ble_eq_true rfl) hRl⟩) rfl hl.1 rfl (Nat.le_of_ble_eq_true rfl) dL_law_615 ⟨by omega, by omega⟩ (fun _ _ _ _ _ _ _ hp => False.elim hp) (fun r9 L3 f3 H locs hp hw => ?_)
  obtain ⟨rfl, rfl, rfl⟩ := hp
  refine W.eq (g2 := F0 m 618 ls [.int (o_kind σ (xs (Int32.toNatClampNeg (i + 1)))).1]) rfl ?_
  refine lv_iload hx hb dL_law_618 (lv_at hl 1 rfl) ?_
  refine lv_icmp_eq (tgt := 625) hx hb dL_law_620 (by decide) (fun _ => ?_) (fun c => absurd rfl c)
  refine lv_iload hx hb dL_law_625 (lv_at hl 1 rfl) ?_
  refine lv_if_ne (tgt := 642) hx hb dL_law_627 (by decide) (fun c_1 => ?_) (fun c_1 => ?_)
  · refine lv_goto (tgt := 2828) hx hb dL_law_642 (by decide) ?_
    refine W.widen (k := cells + 60) (n := slots + 1000) (by omega) (by omega) ?_
    have hl := lv_sub hl (l' := [(0, .ref b), (1, .ref h), (2, .ref (am 0)), (3, .ref o1), (4, .ref o2), (5, .int i)]) [2, 3, 4, 5, 6, 7] rfl
    exact hback _ _ _ _ _ _ ⟨_, _, _, _, hH2, hm9.1, ho1, ho2⟩ hw hl
  · refine lv_aload_n hx hb dL_law_630 rfl (lv_at hl 5 rfl) ?_
    refine lv_iconst (v := 0) hx hb dL_law_631 (by decide) ?_
    refine zr_lald hx hb hw ho1 (vp_in_iff.mpr (by decide)) dL_law_632 ?_
    refine lv_iload hx hb dL_law_633 (lv_at hl 0 rfl) ?_
    refine lv_i2l (v := b9.toInt64) hx hb dL_law_635 rfl ?_
    refine W.lcmp hx hb dL_law_636 ?_
    have hq_2 : (lg_cmp (F1 (Int32.toNatClampNeg 0)) b9.toInt64) = 0 := zcmp0.mpr (by rw [hb9 c_1]; exact hv1 c_1)
    refine lv_if_eq (tgt := 642) hx hb dL_law_637 (by decide) (fun c_3 => ?_) (fun c_3 => absurd hq_2 c_3)
    refine lv_goto (tgt := 2828) hx hb dL_law_642 (by decide) ?_
    refine W.widen (k := cells + 60) (n := slots + 1000) (by omega) (by omega) ?_
    have hl := lv_sub hl (l' := [(0, .ref b), (1, .ref h), (2, .ref (am 0)), (3, .ref o1), (4, .ref o2), (5, .int i)]) [2, 3, 4, 5, 6, 7] rfl
    exact hback _ _ _ _ _ _ ⟨_, _, _, _, hH2, hm9.1, ho1, ho2⟩ hw hl

set_option maxRecDepth 100000 in
set_option maxHeartbeats 4000000 in
theorem k_law_6 {p : Program} {l : Launch} {e : Env} {R : Room} {s : State} {m : MethodId} {args : Array Value} {below : List Frame} {meth : Method} {c : Code} {H : Heap} {locs : List Loc} {cells slots : Nat} {Q : State → Prop} {ls : Array Slot} {g : zG} {A : Nat → Prop} {L : List Nat} {f : Nat → va_E} {am : Nat → Nat} {h o1 o2 b N : Nat} {σ : ZS} {xs : Nat → Int32} {i : Int32}
    (hx : p.tables.exec = Jvm.exec) (hb : c.code = cL_law) (hml : c.maxLocals = 9) (hown : s.vm.findClass RL = some m.cls) (hts : ∀ w ∈ wsL_law, w.before args s = true) (hl0 : l.stackTraces = false) (hw : zW g A s L f H locs) (hX : zX A s s.heap) (hXs : va_X b N xs s s.heap) (hbl : b < s.heap.size) (hbA : ¬ A b) (hRf : 20 ≤ R.frames) (hRl : 1000 ≤ R.locals) (hRc : cells + 60 ≤ R.cells) (hRs : slots + 1000 ≤ R.slots) (hJ : zLw g h am o1 o2 σ L f) (hix : ∀ j : Nat, j < 7 → vp_in (i + nI j) N) (hl : lv_has ls 9 [(0, .ref b), (1, .ref h), (2, .ref (am 0)), (3, .ref o1), (4, .ref o2), (5, .int i)])
    (hback : ∀ (σ1 : ZS) (L1 : List Nat) (f1 : Nat → va_E) (H1 : Heap) (locs1 : List Loc) (ls1 : Array Slot), zLw g h am o1 o2 σ1 L1 f1 → zW g A s L1 f1 H1 locs1 → lv_has ls1 9 [(0, .ref b), (1, .ref h), (2, .ref (am 0)), (3, .ref o1), (4, .ref o2), (5, .int i)] → W p l e R s m args below meth c H1 locs1 (cells + 60) (slots + 1000) Q (F0 m 2828 ls1 [])) : W p l e R s m args below meth c H locs cells slots Q (F0 m 645 ls []) := by
  obtain ⟨bs, th, F, D, hH, hE, h10, h20⟩ := hJ
  obtain ⟨ln, kd, hI⟩ := zHC_I hH
  obtain ⟨fs9, hcb⟩ := zHC_obj hH
  have hn1 := zMe_ne1 hE h10
  have hn2 := zMe_ne2 hE h20
  have hn12 := zo_ne h10 h20
  refine lv_aload_n hx hb dL_law_645 rfl (lv_at hl 1 rfl) ?_
  refine lv_aload_n hx hb dL_law_646 rfl (lv_at hl 0 rfl) ?_
  refine lv_iload hx hb dL_law_647 (lv_at hl 5 rfl) ?_
  refine lv_iconst (v := 1) hx hb dL_law_649 (by decide) ?_
  refine lv_iadd hx hb dL_law_650 ?_
  refine va_sld hx hb hXs hbl hbA hw.2.2.2.1 (hix 1 (by decide)) dL_law_651 ?_
  refine lv_aload_n hx hb dL_law_652 rfl (lv_at hl 3 rfl) ?_
  refine z_callSX (As := [.ref h, .int (xs (Int32.toNatClampNeg (i + 1))), .ref o1]) (rest := []) ⟨hx, hb, hml, hown, hts⟩ hw hX (c_L_capacity l hl0 g L f h (zPm am o1 o2) σ (xs (Int32.toNatClampNeg (i + 1))) o1 F hH h10 zPm_1) (vx_cwSW 3 hts gL_law_L_capacity rfl rfl rfl (by decide +kernel) ⟨Nat.le_trans (Nat.le_of_ble_eq_true rfl) hRf, Nat.le_trans (Nat.le_of_ble_eq_true rfl) hRl⟩) rfl hl.1 rfl (Nat.le_of_ble_eq_true rfl) dL_law_653 ⟨by omega, by omega⟩ (fun _ _ _ _ _ _ _ hp => False.elim hp) (fun r9 L1 f1 H locs hp hw => ?_)
  obtain ⟨rfl, hH1, ⟨F1, hF1, hv1⟩, hfr1⟩ := hp
  have hE1 := zMe_kept hE hH1 (fun k hk => hfr1 _ (zPm_m hk) (hn1 k hk))
  refine W.eq (g2 := F0 m 656 ls [.int (o_capacity σ (xs (Int32.toNatClampNeg (i + 1)))).1]) rfl ?_
  refine lv_istore (lv' := [(6, .int (o_capacity σ (xs (Int32.toNatClampNeg (i + 1)))).1), (0, .ref b), (1, .ref h), (2, .ref (am 0)), (3, .ref o1), (4, .ref o2), (5, .int i)]) hx hb dL_law_656 hl (by decide) rfl (fun ls hl => ?_)
  refine lv_aload_n hx hb dL_law_658 rfl (lv_at hl 3 rfl) ?_
  refine lv_aload_n hx hb dL_law_659 rfl (lv_at hl 1 rfl) ?_
  refine lv_iload hx hb dL_law_660 (lv_at hl 6 rfl) ?_
  refine lv_iconst (v := 1) hx hb dL_law_662 (by decide) ?_
  refine lv_iadd hx hb dL_law_663 ?_
  refine va_sld hx hb hXs hbl hbA hw.2.2.2.1 (hix 1 (by decide)) dL_law_664 ?_
  refine z_callV (As := [.int (xs (Int32.toNatClampNeg (i + 1)))]) (rest := []) ⟨hx, hb, hml, hown, hts⟩ hw hX (hE1.1 0 (by decide)) rfl (c_X2_capacity l g am L1 f1 σ bs th (xs (Int32.toNatClampNeg (i + 1))) ⟨hE1, fun _ _ => rfl⟩ hI) (cwV 1 hts gL_law_X2_capacity rfl rfl rfl (by decide +kernel) ⟨Nat.le_trans (Nat.le_of_ble_eq_true rfl) hRf, Nat.le_trans (Nat.le_of_ble_eq_true rfl) hRl⟩) rfl hl.1 rfl (Nat.le_of_ble_eq_true rfl) dL_law_665 ⟨by omega, by omega⟩ (fun _ _ _ _ _ _ _ hp => False.elim hp) (fun r9 L2 f2 H locs hp hw => ?_)
  obtain ⟨rfl, b9, bs9, rfl, hm9, hb9⟩ := hp
  have ho1 : zc L1 f2 o1 (.inl (g.2 1, 1, .inr (.inl F1))) := ⟨zHC_in hH1 zPm_1, (hm9.2 _ (fun k hk e => hn1 k hk e.symm)).trans hF1⟩
  have ho2 : zc L1 f2 o2 (.inl (g.2 3, 1, .inr (.inr (.inr (.inl D))))) := ⟨zHC_in hH1 zPm_2, (hm9.2 _ (fun k hk e => hn2 k hk e.symm)).trans ((hfr1 _ zPm_2 (Ne.symm hn12)).trans h20.2)⟩
  have hH2 := zHC_mod hH1 hm9.2
  refine W.eq (g2 := F0 m 668 ls [.int b9]) rfl ?_
  refine lv_istore (lv' := [(7, .int b9), (6, .int (o_capacity σ (xs (Int32.toNatClampNeg (i + 1)))).1), (0, .ref b), (1, .ref h), (2, .ref (am 0)), (3, .ref o1), (4, .ref o2), (5, .int i)]) hx hb dL_law_668 hl (by decide) rfl (fun ls hl => ?_)
  refine lv_aload_n hx hb dL_law_670 rfl (lv_at hl 4 rfl) ?_
  refine z_callV (As := []) (rest := []) ⟨hx, hb, hml, hown, hts⟩ hw hX (hm9.1.1 0 (by decide)) rfl (c_X2_thrown l g am L1 f2 (o_capacity σ (xs (Int32.toNatClampNeg (i + 1)))).2.2 bs9 (o_capacity σ (xs (Int32.toNatClampNeg (i + 1)))).1 hm9.rf) (cwV 0 hts gL_law_X2_thrown rfl rfl rfl (by decide +kernel) ⟨Nat.le_trans (Nat.le_of_ble_eq_true rfl) hRf, Nat.le_trans (Nat.le_of_ble_eq_true rfl) hRl⟩) rfl hl.1 rfl (Nat.le_of_ble_eq_true rfl) dL_law_671 ⟨by omega, by omega⟩ (fun _ _ _ _ _ _ _ hp => False.elim hp) (fun r9 L3 f3 H locs hp hw => ?_)
  obtain ⟨rfl, rfl, rfl⟩ := hp
  refine W.eq (g2 := F0 m 674 ls [.int (o_capacity σ (xs (Int32.toNatClampNeg (i + 1)))).1]) rfl ?_
  refine lv_iload hx hb dL_law_674 (lv_at hl 1 rfl) ?_
  refine lv_icmp_eq (tgt := 681) hx hb dL_law_676 (by decide) (fun _ => ?_) (fun c => absurd rfl c)
  refine lv_iload hx hb dL_law_681 (lv_at hl 1 rfl) ?_
  refine lv_if_ne (tgt := 698) hx hb dL_law_683 (by decide) (fun c_1 => ?_) (fun c_1 => ?_)
  · refine lv_goto (tgt := 2828) hx hb dL_law_698 (by decide) ?_
    refine W.widen (k := cells + 60) (n := slots + 1000) (by omega) (by omega) ?_
    have hl := lv_sub hl (l' := [(0, .ref b), (1, .ref h), (2, .ref (am 0)), (3, .ref o1), (4, .ref o2), (5, .int i)]) [2, 3, 4, 5, 6, 7] rfl
    exact hback _ _ _ _ _ _ ⟨_, _, _, _, hH2, hm9.1, ho1, ho2⟩ hw hl
  · refine lv_aload_n hx hb dL_law_686 rfl (lv_at hl 5 rfl) ?_
    refine lv_iconst (v := 0) hx hb dL_law_687 (by decide) ?_
    refine zr_lald hx hb hw ho1 (vp_in_iff.mpr (by decide)) dL_law_688 ?_
    refine lv_iload hx hb dL_law_689 (lv_at hl 0 rfl) ?_
    refine lv_i2l (v := b9.toInt64) hx hb dL_law_691 rfl ?_
    refine W.lcmp hx hb dL_law_692 ?_
    have hq_2 : (lg_cmp (F1 (Int32.toNatClampNeg 0)) b9.toInt64) = 0 := zcmp0.mpr (by rw [hb9 c_1]; exact hv1 c_1)
    refine lv_if_eq (tgt := 698) hx hb dL_law_693 (by decide) (fun c_3 => ?_) (fun c_3 => absurd hq_2 c_3)
    refine lv_goto (tgt := 2828) hx hb dL_law_698 (by decide) ?_
    refine W.widen (k := cells + 60) (n := slots + 1000) (by omega) (by omega) ?_
    have hl := lv_sub hl (l' := [(0, .ref b), (1, .ref h), (2, .ref (am 0)), (3, .ref o1), (4, .ref o2), (5, .int i)]) [2, 3, 4, 5, 6, 7] rfl
    exact hback _ _ _ _ _ _ ⟨_, _, _, _, hH2, hm9.1, ho1, ho2⟩ hw hl

set_option maxRecDepth 100000 in
set_option maxHeartbeats 4000000 in
theorem k_law_7 {p : Program} {l : Launch} {e : Env} {R : Room} {s : State} {m : MethodId} {args : Array Value} {below : List Frame} {meth : Method} {c : Code} {H : Heap} {locs : List Loc} {cells slots : Nat} {Q : State → Prop} {ls : Array Slot} {g : zG} {A : Nat → Prop} {L : List Nat} {f : Nat → va_E} {am : Nat → Nat} {h o1 o2 b N : Nat} {σ : ZS} {xs : Nat → Int32} {i : Int32}
    (hx : p.tables.exec = Jvm.exec) (hb : c.code = cL_law) (hml : c.maxLocals = 9) (hown : s.vm.findClass RL = some m.cls) (hts : ∀ w ∈ wsL_law, w.before args s = true) (hl0 : l.stackTraces = false) (hw : zW g A s L f H locs) (hX : zX A s s.heap) (hXs : va_X b N xs s s.heap) (hbl : b < s.heap.size) (hbA : ¬ A b) (hRf : 20 ≤ R.frames) (hRl : 1000 ≤ R.locals) (hRc : cells + 60 ≤ R.cells) (hRs : slots + 1000 ≤ R.slots) (hJ : zLw g h am o1 o2 σ L f) (hix : ∀ j : Nat, j < 7 → vp_in (i + nI j) N) (hl : lv_has ls 9 [(0, .ref b), (1, .ref h), (2, .ref (am 0)), (3, .ref o1), (4, .ref o2), (5, .int i)])
    (hback : ∀ (σ1 : ZS) (L1 : List Nat) (f1 : Nat → va_E) (H1 : Heap) (locs1 : List Loc) (ls1 : Array Slot), zLw g h am o1 o2 σ1 L1 f1 → zW g A s L1 f1 H1 locs1 → lv_has ls1 9 [(0, .ref b), (1, .ref h), (2, .ref (am 0)), (3, .ref o1), (4, .ref o2), (5, .int i)] → W p l e R s m args below meth c H1 locs1 (cells + 60) (slots + 1000) Q (F0 m 2828 ls1 [])) : W p l e R s m args below meth c H locs cells slots Q (F0 m 701 ls []) := by
  obtain ⟨bs, th, F, D, hH, hE, h10, h20⟩ := hJ
  obtain ⟨ln, kd, hI⟩ := zHC_I hH
  obtain ⟨fs9, hcb⟩ := zHC_obj hH
  have hn1 := zMe_ne1 hE h10
  have hn2 := zMe_ne2 hE h20
  have hn12 := zo_ne h10 h20
  refine lv_aload_n hx hb dL_law_701 rfl (lv_at hl 1 rfl) ?_
  refine lv_aload_n hx hb dL_law_702 rfl (lv_at hl 0 rfl) ?_
  refine lv_iload hx hb dL_law_703 (lv_at hl 5 rfl) ?_
  refine lv_iconst (v := 1) hx hb dL_law_705 (by decide) ?_
  refine lv_iadd hx hb dL_law_706 ?_
  refine va_sld hx hb hXs hbl hbA hw.2.2.2.1 (hix 1 (by decide)) dL_law_707 ?_
  refine lv_aload_n hx hb dL_law_708 rfl (lv_at hl 3 rfl) ?_
  refine z_callSX (As := [.ref h, .int (xs (Int32.toNatClampNeg (i + 1))), .ref o1]) (rest := []) ⟨hx, hb, hml, hown, hts⟩ hw hX (c_L_place l hl0 g L f h (zPm am o1 o2) σ (xs (Int32.toNatClampNeg (i + 1))) o1 F hH h10 zPm_1) (vx_cwSW 3 hts gL_law_L_place rfl rfl rfl (by decide +kernel) ⟨Nat.le_trans (Nat.le_of_ble_eq_true rfl) hRf, Nat.le_trans (Nat.le_of_ble_eq_true rfl) hRl⟩) rfl hl.1 rfl (Nat.le_of_ble_eq_true rfl) dL_law_709 ⟨by omega, by omega⟩ (fun _ _ _ _ _ _ _ hp => False.elim hp) (fun r9 L1 f1 H locs hp hw => ?_)
  obtain ⟨rfl, hH1, ⟨F1, hF1, hv1⟩, hfr1⟩ := hp
  have hE1 := zMe_kept hE hH1 (fun k hk => hfr1 _ (zPm_m hk) (hn1 k hk))
  refine W.eq (g2 := F0 m 712 ls [.int (o_place σ (xs (Int32.toNatClampNeg (i + 1)))).1]) rfl ?_
  refine lv_istore (lv' := [(6, .int (o_place σ (xs (Int32.toNatClampNeg (i + 1)))).1), (0, .ref b), (1, .ref h), (2, .ref (am 0)), (3, .ref o1), (4, .ref o2), (5, .int i)]) hx hb dL_law_712 hl (by decide) rfl (fun ls hl => ?_)
  refine lv_aload_n hx hb dL_law_714 rfl (lv_at hl 3 rfl) ?_
  refine lv_aload_n hx hb dL_law_715 rfl (lv_at hl 1 rfl) ?_
  refine lv_iload hx hb dL_law_716 (lv_at hl 6 rfl) ?_
  refine lv_iconst (v := 1) hx hb dL_law_718 (by decide) ?_
  refine lv_iadd hx hb dL_law_719 ?_
  refine va_sld hx hb hXs hbl hbA hw.2.2.2.1 (hix 1 (by decide)) dL_law_720 ?_
  refine z_callV (As := [.int (xs (Int32.toNatClampNeg (i + 1)))]) (rest := []) ⟨hx, hb, hml, hown, hts⟩ hw hX (hE1.1 0 (by decide)) rfl (c_X2_place l g am L1 f1 σ bs th (xs (Int32.toNatClampNeg (i + 1))) ⟨hE1, fun _ _ => rfl⟩ hI) (cwV 1 hts gL_law_X2_place rfl rfl rfl (by decide +kernel) ⟨Nat.le_trans (Nat.le_of_ble_eq_true rfl) hRf, Nat.le_trans (Nat.le_of_ble_eq_true rfl) hRl⟩) rfl hl.1 rfl (Nat.le_of_ble_eq_true rfl) dL_law_721 ⟨by omega, by omega⟩ (fun _ _ _ _ _ _ _ hp => False.elim hp) (fun r9 L2 f2 H locs hp hw => ?_)
  obtain ⟨rfl, b9, bs9, rfl, hm9, hb9⟩ := hp
  have ho1 : zc L1 f2 o1 (.inl (g.2 1, 1, .inr (.inl F1))) := ⟨zHC_in hH1 zPm_1, (hm9.2 _ (fun k hk e => hn1 k hk e.symm)).trans hF1⟩
  have ho2 : zc L1 f2 o2 (.inl (g.2 3, 1, .inr (.inr (.inr (.inl D))))) := ⟨zHC_in hH1 zPm_2, (hm9.2 _ (fun k hk e => hn2 k hk e.symm)).trans ((hfr1 _ zPm_2 (Ne.symm hn12)).trans h20.2)⟩
  have hH2 := zHC_mod hH1 hm9.2
  refine W.eq (g2 := F0 m 724 ls [.int b9]) rfl ?_
  refine lv_istore (lv' := [(7, .int b9), (6, .int (o_place σ (xs (Int32.toNatClampNeg (i + 1)))).1), (0, .ref b), (1, .ref h), (2, .ref (am 0)), (3, .ref o1), (4, .ref o2), (5, .int i)]) hx hb dL_law_724 hl (by decide) rfl (fun ls hl => ?_)
  refine lv_aload_n hx hb dL_law_726 rfl (lv_at hl 4 rfl) ?_
  refine z_callV (As := []) (rest := []) ⟨hx, hb, hml, hown, hts⟩ hw hX (hm9.1.1 0 (by decide)) rfl (c_X2_thrown l g am L1 f2 (o_place σ (xs (Int32.toNatClampNeg (i + 1)))).2.2 bs9 (o_place σ (xs (Int32.toNatClampNeg (i + 1)))).1 hm9.rf) (cwV 0 hts gL_law_X2_thrown rfl rfl rfl (by decide +kernel) ⟨Nat.le_trans (Nat.le_of_ble_eq_true rfl) hRf, Nat.le_trans (Nat.le_of_ble_eq_true rfl) hRl⟩) rfl hl.1 rfl (Nat.le_of_ble_eq_true rfl) dL_law_727 ⟨by omega, by omega⟩ (fun _ _ _ _ _ _ _ hp => False.elim hp) (fun r9 L3 f3 H locs hp hw => ?_)
  obtain ⟨rfl, rfl, rfl⟩ := hp
  refine W.eq (g2 := F0 m 730 ls [.int (o_place σ (xs (Int32.toNatClampNeg (i + 1)))).1]) rfl ?_
  refine lv_iload hx hb dL_law_730 (lv_at hl 1 rfl) ?_
  refine lv_icmp_eq (tgt := 737) hx hb dL_law_732 (by decide) (fun _ => ?_) (fun c => absurd rfl c)
  refine lv_iload hx hb dL_law_737 (lv_at hl 1 rfl) ?_
  refine lv_if_ne (tgt := 754) hx hb dL_law_739 (by decide) (fun c_1 => ?_) (fun c_1 => ?_)
  · refine lv_goto (tgt := 2828) hx hb dL_law_754 (by decide) ?_
    refine W.widen (k := cells + 60) (n := slots + 1000) (by omega) (by omega) ?_
    have hl := lv_sub hl (l' := [(0, .ref b), (1, .ref h), (2, .ref (am 0)), (3, .ref o1), (4, .ref o2), (5, .int i)]) [2, 3, 4, 5, 6, 7] rfl
    exact hback _ _ _ _ _ _ ⟨_, _, _, _, hH2, hm9.1, ho1, ho2⟩ hw hl
  · refine lv_aload_n hx hb dL_law_742 rfl (lv_at hl 5 rfl) ?_
    refine lv_iconst (v := 0) hx hb dL_law_743 (by decide) ?_
    refine zr_lald hx hb hw ho1 (vp_in_iff.mpr (by decide)) dL_law_744 ?_
    refine lv_iload hx hb dL_law_745 (lv_at hl 0 rfl) ?_
    refine lv_i2l (v := b9.toInt64) hx hb dL_law_747 rfl ?_
    refine W.lcmp hx hb dL_law_748 ?_
    have hq_2 : (lg_cmp (F1 (Int32.toNatClampNeg 0)) b9.toInt64) = 0 := zcmp0.mpr (by rw [hb9 c_1]; exact hv1 c_1)
    refine lv_if_eq (tgt := 754) hx hb dL_law_749 (by decide) (fun c_3 => ?_) (fun c_3 => absurd hq_2 c_3)
    refine lv_goto (tgt := 2828) hx hb dL_law_754 (by decide) ?_
    refine W.widen (k := cells + 60) (n := slots + 1000) (by omega) (by omega) ?_
    have hl := lv_sub hl (l' := [(0, .ref b), (1, .ref h), (2, .ref (am 0)), (3, .ref o1), (4, .ref o2), (5, .int i)]) [2, 3, 4, 5, 6, 7] rfl
    exact hback _ _ _ _ _ _ ⟨_, _, _, _, hH2, hm9.1, ho1, ho2⟩ hw hl

set_option maxRecDepth 100000 in
set_option maxHeartbeats 4000000 in
theorem k_law_8 {p : Program} {l : Launch} {e : Env} {R : Room} {s : State} {m : MethodId} {args : Array Value} {below : List Frame} {meth : Method} {c : Code} {H : Heap} {locs : List Loc} {cells slots : Nat} {Q : State → Prop} {ls : Array Slot} {g : zG} {A : Nat → Prop} {L : List Nat} {f : Nat → va_E} {am : Nat → Nat} {h o1 o2 b N : Nat} {σ : ZS} {xs : Nat → Int32} {i : Int32}
    (hx : p.tables.exec = Jvm.exec) (hb : c.code = cL_law) (hml : c.maxLocals = 9) (hown : s.vm.findClass RL = some m.cls) (hts : ∀ w ∈ wsL_law, w.before args s = true) (hl0 : l.stackTraces = false) (hw : zW g A s L f H locs) (hX : zX A s s.heap) (hXs : va_X b N xs s s.heap) (hbl : b < s.heap.size) (hbA : ¬ A b) (hRf : 20 ≤ R.frames) (hRl : 1000 ≤ R.locals) (hRc : cells + 60 ≤ R.cells) (hRs : slots + 1000 ≤ R.slots) (hJ : zLw g h am o1 o2 σ L f) (hix : ∀ j : Nat, j < 7 → vp_in (i + nI j) N) (hl : lv_has ls 9 [(0, .ref b), (1, .ref h), (2, .ref (am 0)), (3, .ref o1), (4, .ref o2), (5, .int i)])
    (hback : ∀ (σ1 : ZS) (L1 : List Nat) (f1 : Nat → va_E) (H1 : Heap) (locs1 : List Loc) (ls1 : Array Slot), zLw g h am o1 o2 σ1 L1 f1 → zW g A s L1 f1 H1 locs1 → lv_has ls1 9 [(0, .ref b), (1, .ref h), (2, .ref (am 0)), (3, .ref o1), (4, .ref o2), (5, .int i)] → W p l e R s m args below meth c H1 locs1 (cells + 60) (slots + 1000) Q (F0 m 2828 ls1 [])) : W p l e R s m args below meth c H locs cells slots Q (F0 m 757 ls []) := by
  obtain ⟨bs, th, F, D, hH, hE, h10, h20⟩ := hJ
  obtain ⟨ln, kd, hI⟩ := zHC_I hH
  obtain ⟨fs9, hcb⟩ := zHC_obj hH
  have hn1 := zMe_ne1 hE h10
  have hn2 := zMe_ne2 hE h20
  have hn12 := zo_ne h10 h20
  refine lv_aload_n hx hb dL_law_757 rfl (lv_at hl 1 rfl) ?_
  refine lv_aload_n hx hb dL_law_758 rfl (lv_at hl 0 rfl) ?_
  refine lv_iload hx hb dL_law_759 (lv_at hl 5 rfl) ?_
  refine lv_iconst (v := 1) hx hb dL_law_761 (by decide) ?_
  refine lv_iadd hx hb dL_law_762 ?_
  refine va_sld hx hb hXs hbl hbA hw.2.2.2.1 (hix 1 (by decide)) dL_law_763 ?_
  refine lv_aload_n hx hb dL_law_764 rfl (lv_at hl 3 rfl) ?_
  refine z_callSX (As := [.ref h, .int (xs (Int32.toNatClampNeg (i + 1))), .ref o1]) (rest := []) ⟨hx, hb, hml, hown, hts⟩ hw hX (c_L_end l hl0 g L f h (zPm am o1 o2) σ (xs (Int32.toNatClampNeg (i + 1))) o1 F hH h10 zPm_1) (vx_cwSW 3 hts gL_law_L_end rfl rfl rfl (by decide +kernel) ⟨Nat.le_trans (Nat.le_of_ble_eq_true rfl) hRf, Nat.le_trans (Nat.le_of_ble_eq_true rfl) hRl⟩) rfl hl.1 rfl (Nat.le_of_ble_eq_true rfl) dL_law_765 ⟨by omega, by omega⟩ (fun _ _ _ _ _ _ _ hp => False.elim hp) (fun r9 L1 f1 H locs hp hw => ?_)
  obtain ⟨rfl, hH1, ⟨F1, hF1, hv1⟩, hfr1⟩ := hp
  have hE1 := zMe_kept hE hH1 (fun k hk => hfr1 _ (zPm_m hk) (hn1 k hk))
  refine W.eq (g2 := F0 m 768 ls [.int (o_end σ (xs (Int32.toNatClampNeg (i + 1)))).1]) rfl ?_
  refine lv_istore (lv' := [(6, .int (o_end σ (xs (Int32.toNatClampNeg (i + 1)))).1), (0, .ref b), (1, .ref h), (2, .ref (am 0)), (3, .ref o1), (4, .ref o2), (5, .int i)]) hx hb dL_law_768 hl (by decide) rfl (fun ls hl => ?_)
  refine lv_aload_n hx hb dL_law_770 rfl (lv_at hl 3 rfl) ?_
  refine lv_aload_n hx hb dL_law_771 rfl (lv_at hl 1 rfl) ?_
  refine lv_iload hx hb dL_law_772 (lv_at hl 6 rfl) ?_
  refine lv_iconst (v := 1) hx hb dL_law_774 (by decide) ?_
  refine lv_iadd hx hb dL_law_775 ?_
  refine va_sld hx hb hXs hbl hbA hw.2.2.2.1 (hix 1 (by decide)) dL_law_776 ?_
  refine z_callV (As := [.int (xs (Int32.toNatClampNeg (i + 1)))]) (rest := []) ⟨hx, hb, hml, hown, hts⟩ hw hX (hE1.1 0 (by decide)) rfl (c_X2_end l g am L1 f1 σ bs th (xs (Int32.toNatClampNeg (i + 1))) ⟨hE1, fun _ _ => rfl⟩ hI) (cwV 1 hts gL_law_X2_end rfl rfl rfl (by decide +kernel) ⟨Nat.le_trans (Nat.le_of_ble_eq_true rfl) hRf, Nat.le_trans (Nat.le_of_ble_eq_true rfl) hRl⟩) rfl hl.1 rfl (Nat.le_of_ble_eq_true rfl) dL_law_777 ⟨by omega, by omega⟩ (fun _ _ _ _ _ _ _ hp => False.elim hp) (fun r9 L2 f2 H locs hp hw => ?_)
  obtain ⟨rfl, b9, bs9, rfl, hm9, hb9⟩ := hp
  have ho1 : zc L1 f2 o1 (.inl (g.2 1, 1, .inr (.inl F1))) := ⟨zHC_in hH1 zPm_1, (hm9.2 _ (fun k hk e => hn1 k hk e.symm)).trans hF1⟩
  have ho2 : zc L1 f2 o2 (.inl (g.2 3, 1, .inr (.inr (.inr (.inl D))))) := ⟨zHC_in hH1 zPm_2, (hm9.2 _ (fun k hk e => hn2 k hk e.symm)).trans ((hfr1 _ zPm_2 (Ne.symm hn12)).trans h20.2)⟩
  have hH2 := zHC_mod hH1 hm9.2
  refine W.eq (g2 := F0 m 780 ls [.int b9]) rfl ?_
  refine lv_istore (lv' := [(7, .int b9), (6, .int (o_end σ (xs (Int32.toNatClampNeg (i + 1)))).1), (0, .ref b), (1, .ref h), (2, .ref (am 0)), (3, .ref o1), (4, .ref o2), (5, .int i)]) hx hb dL_law_780 hl (by decide) rfl (fun ls hl => ?_)
  refine lv_aload_n hx hb dL_law_782 rfl (lv_at hl 4 rfl) ?_
  refine z_callV (As := []) (rest := []) ⟨hx, hb, hml, hown, hts⟩ hw hX (hm9.1.1 0 (by decide)) rfl (c_X2_thrown l g am L1 f2 (o_end σ (xs (Int32.toNatClampNeg (i + 1)))).2.2 bs9 (o_end σ (xs (Int32.toNatClampNeg (i + 1)))).1 hm9.rf) (cwV 0 hts gL_law_X2_thrown rfl rfl rfl (by decide +kernel) ⟨Nat.le_trans (Nat.le_of_ble_eq_true rfl) hRf, Nat.le_trans (Nat.le_of_ble_eq_true rfl) hRl⟩) rfl hl.1 rfl (Nat.le_of_ble_eq_true rfl) dL_law_783 ⟨by omega, by omega⟩ (fun _ _ _ _ _ _ _ hp => False.elim hp) (fun r9 L3 f3 H locs hp hw => ?_)
  obtain ⟨rfl, rfl, rfl⟩ := hp
  refine W.eq (g2 := F0 m 786 ls [.int (o_end σ (xs (Int32.toNatClampNeg (i + 1)))).1]) rfl ?_
  refine lv_iload hx hb dL_law_786 (lv_at hl 1 rfl) ?_
  refine lv_icmp_eq (tgt := 793) hx hb dL_law_788 (by decide) (fun _ => ?_) (fun c => absurd rfl c)
  refine lv_iload hx hb dL_law_793 (lv_at hl 1 rfl) ?_
  refine lv_if_ne (tgt := 810) hx hb dL_law_795 (by decide) (fun c_1 => ?_) (fun c_1 => ?_)
  · refine lv_goto (tgt := 2828) hx hb dL_law_810 (by decide) ?_
    refine W.widen (k := cells + 60) (n := slots + 1000) (by omega) (by omega) ?_
    have hl := lv_sub hl (l' := [(0, .ref b), (1, .ref h), (2, .ref (am 0)), (3, .ref o1), (4, .ref o2), (5, .int i)]) [2, 3, 4, 5, 6, 7] rfl
    exact hback _ _ _ _ _ _ ⟨_, _, _, _, hH2, hm9.1, ho1, ho2⟩ hw hl
  · refine lv_aload_n hx hb dL_law_798 rfl (lv_at hl 5 rfl) ?_
    refine lv_iconst (v := 0) hx hb dL_law_799 (by decide) ?_
    refine zr_lald hx hb hw ho1 (vp_in_iff.mpr (by decide)) dL_law_800 ?_
    refine lv_iload hx hb dL_law_801 (lv_at hl 0 rfl) ?_
    refine lv_i2l (v := b9.toInt64) hx hb dL_law_803 rfl ?_
    refine W.lcmp hx hb dL_law_804 ?_
    have hq_2 : (lg_cmp (F1 (Int32.toNatClampNeg 0)) b9.toInt64) = 0 := zcmp0.mpr (by rw [hb9 c_1]; exact hv1 c_1)
    refine lv_if_eq (tgt := 810) hx hb dL_law_805 (by decide) (fun c_3 => ?_) (fun c_3 => absurd hq_2 c_3)
    refine lv_goto (tgt := 2828) hx hb dL_law_810 (by decide) ?_
    refine W.widen (k := cells + 60) (n := slots + 1000) (by omega) (by omega) ?_
    have hl := lv_sub hl (l' := [(0, .ref b), (1, .ref h), (2, .ref (am 0)), (3, .ref o1), (4, .ref o2), (5, .int i)]) [2, 3, 4, 5, 6, 7] rfl
    exact hback _ _ _ _ _ _ ⟨_, _, _, _, hH2, hm9.1, ho1, ho2⟩ hw hl

set_option maxRecDepth 100000 in
set_option maxHeartbeats 4000000 in
theorem k_law_9 {p : Program} {l : Launch} {e : Env} {R : Room} {s : State} {m : MethodId} {args : Array Value} {below : List Frame} {meth : Method} {c : Code} {H : Heap} {locs : List Loc} {cells slots : Nat} {Q : State → Prop} {ls : Array Slot} {g : zG} {A : Nat → Prop} {L : List Nat} {f : Nat → va_E} {am : Nat → Nat} {h o1 o2 b N : Nat} {σ : ZS} {xs : Nat → Int32} {i : Int32}
    (hx : p.tables.exec = Jvm.exec) (hb : c.code = cL_law) (hml : c.maxLocals = 9) (hown : s.vm.findClass RL = some m.cls) (hts : ∀ w ∈ wsL_law, w.before args s = true) (hl0 : l.stackTraces = false) (hw : zW g A s L f H locs) (hX : zX A s s.heap) (hXs : va_X b N xs s s.heap) (hbl : b < s.heap.size) (hbA : ¬ A b) (hRf : 20 ≤ R.frames) (hRl : 1000 ≤ R.locals) (hRc : cells + 60 ≤ R.cells) (hRs : slots + 1000 ≤ R.slots) (hJ : zLw g h am o1 o2 σ L f) (hix : ∀ j : Nat, j < 7 → vp_in (i + nI j) N) (hl : lv_has ls 9 [(0, .ref b), (1, .ref h), (2, .ref (am 0)), (3, .ref o1), (4, .ref o2), (5, .int i)])
    (hback : ∀ (σ1 : ZS) (L1 : List Nat) (f1 : Nat → va_E) (H1 : Heap) (locs1 : List Loc) (ls1 : Array Slot), zLw g h am o1 o2 σ1 L1 f1 → zW g A s L1 f1 H1 locs1 → lv_has ls1 9 [(0, .ref b), (1, .ref h), (2, .ref (am 0)), (3, .ref o1), (4, .ref o2), (5, .int i)] → W p l e R s m args below meth c H1 locs1 (cells + 60) (slots + 1000) Q (F0 m 2828 ls1 [])) : W p l e R s m args below meth c H locs cells slots Q (F0 m 813 ls []) := by
  obtain ⟨bs, th, F, D, hH, hE, h10, h20⟩ := hJ
  obtain ⟨ln, kd, hI⟩ := zHC_I hH
  obtain ⟨fs9, hcb⟩ := zHC_obj hH
  have hn1 := zMe_ne1 hE h10
  have hn2 := zMe_ne2 hE h20
  have hn12 := zo_ne h10 h20
  refine lv_aload_n hx hb dL_law_813 rfl (lv_at hl 1 rfl) ?_
  refine lv_aload_n hx hb dL_law_814 rfl (lv_at hl 0 rfl) ?_
  refine lv_iload hx hb dL_law_815 (lv_at hl 5 rfl) ?_
  refine lv_iconst (v := 1) hx hb dL_law_817 (by decide) ?_
  refine lv_iadd hx hb dL_law_818 ?_
  refine va_sld hx hb hXs hbl hbA hw.2.2.2.1 (hix 1 (by decide)) dL_law_819 ?_
  refine lv_aload_n hx hb dL_law_820 rfl (lv_at hl 3 rfl) ?_
  refine z_callSX (As := [.ref h, .int (xs (Int32.toNatClampNeg (i + 1))), .ref o1]) (rest := []) ⟨hx, hb, hml, hown, hts⟩ hw hX (c_L_left l hl0 g L f h (zPm am o1 o2) σ (xs (Int32.toNatClampNeg (i + 1))) o1 F hH h10 zPm_1) (vx_cwSW 3 hts gL_law_L_left rfl rfl rfl (by decide +kernel) ⟨Nat.le_trans (Nat.le_of_ble_eq_true rfl) hRf, Nat.le_trans (Nat.le_of_ble_eq_true rfl) hRl⟩) rfl hl.1 rfl (Nat.le_of_ble_eq_true rfl) dL_law_821 ⟨by omega, by omega⟩ (fun _ _ _ _ _ _ _ hp => False.elim hp) (fun r9 L1 f1 H locs hp hw => ?_)
  obtain ⟨rfl, hH1, ⟨F1, hF1, hv1⟩, hfr1⟩ := hp
  have hE1 := zMe_kept hE hH1 (fun k hk => hfr1 _ (zPm_m hk) (hn1 k hk))
  refine W.eq (g2 := F0 m 824 ls [.int (o_left σ (xs (Int32.toNatClampNeg (i + 1)))).1]) rfl ?_
  refine lv_istore (lv' := [(6, .int (o_left σ (xs (Int32.toNatClampNeg (i + 1)))).1), (0, .ref b), (1, .ref h), (2, .ref (am 0)), (3, .ref o1), (4, .ref o2), (5, .int i)]) hx hb dL_law_824 hl (by decide) rfl (fun ls hl => ?_)
  refine lv_aload_n hx hb dL_law_826 rfl (lv_at hl 3 rfl) ?_
  refine lv_aload_n hx hb dL_law_827 rfl (lv_at hl 1 rfl) ?_
  refine lv_iload hx hb dL_law_828 (lv_at hl 6 rfl) ?_
  refine lv_iconst (v := 1) hx hb dL_law_830 (by decide) ?_
  refine lv_iadd hx hb dL_law_831 ?_
  refine va_sld hx hb hXs hbl hbA hw.2.2.2.1 (hix 1 (by decide)) dL_law_832 ?_
  refine z_callV (As := [.int (xs (Int32.toNatClampNeg (i + 1)))]) (rest := []) ⟨hx, hb, hml, hown, hts⟩ hw hX (hE1.1 0 (by decide)) rfl (c_X2_left l g am L1 f1 σ bs th (xs (Int32.toNatClampNeg (i + 1))) ⟨hE1, fun _ _ => rfl⟩ hI) (cwV 1 hts gL_law_X2_left rfl rfl rfl (by decide +kernel) ⟨Nat.le_trans (Nat.le_of_ble_eq_true rfl) hRf, Nat.le_trans (Nat.le_of_ble_eq_true rfl) hRl⟩) rfl hl.1 rfl (Nat.le_of_ble_eq_true rfl) dL_law_833 ⟨by omega, by omega⟩ (fun _ _ _ _ _ _ _ hp => False.elim hp) (fun r9 L2 f2 H locs hp hw => ?_)
  obtain ⟨rfl, b9, bs9, rfl, hm9, hb9⟩ := hp
  have ho1 : zc L1 f2 o1 (.inl (g.2 1, 1, .inr (.inl F1))) := ⟨zHC_in hH1 zPm_1, (hm9.2 _ (fun k hk e => hn1 k hk e.symm)).trans hF1⟩
  have ho2 : zc L1 f2 o2 (.inl (g.2 3, 1, .inr (.inr (.inr (.inl D))))) := ⟨zHC_in hH1 zPm_2, (hm9.2 _ (fun k hk e => hn2 k hk e.symm)).trans ((hfr1 _ zPm_2 (Ne.symm hn12)).trans h20.2)⟩
  have hH2 := zHC_mod hH1 hm9.2
  refine W.eq (g2 := F0 m 836 ls [.int b9]) rfl ?_
  refine lv_istore (lv' := [(7, .int b9), (6, .int (o_left σ (xs (Int32.toNatClampNeg (i + 1)))).1), (0, .ref b), (1, .ref h), (2, .ref (am 0)), (3, .ref o1), (4, .ref o2), (5, .int i)]) hx hb dL_law_836 hl (by decide) rfl (fun ls hl => ?_)
  refine lv_aload_n hx hb dL_law_838 rfl (lv_at hl 4 rfl) ?_
  refine z_callV (As := []) (rest := []) ⟨hx, hb, hml, hown, hts⟩ hw hX (hm9.1.1 0 (by decide)) rfl (c_X2_thrown l g am L1 f2 (o_left σ (xs (Int32.toNatClampNeg (i + 1)))).2.2 bs9 (o_left σ (xs (Int32.toNatClampNeg (i + 1)))).1 hm9.rf) (cwV 0 hts gL_law_X2_thrown rfl rfl rfl (by decide +kernel) ⟨Nat.le_trans (Nat.le_of_ble_eq_true rfl) hRf, Nat.le_trans (Nat.le_of_ble_eq_true rfl) hRl⟩) rfl hl.1 rfl (Nat.le_of_ble_eq_true rfl) dL_law_839 ⟨by omega, by omega⟩ (fun _ _ _ _ _ _ _ hp => False.elim hp) (fun r9 L3 f3 H locs hp hw => ?_)
  obtain ⟨rfl, rfl, rfl⟩ := hp
  refine W.eq (g2 := F0 m 842 ls [.int (o_left σ (xs (Int32.toNatClampNeg (i + 1)))).1]) rfl ?_
  refine lv_iload hx hb dL_law_842 (lv_at hl 1 rfl) ?_
  refine lv_icmp_eq (tgt := 849) hx hb dL_law_844 (by decide) (fun _ => ?_) (fun c => absurd rfl c)
  refine lv_iload hx hb dL_law_849 (lv_at hl 1 rfl) ?_
  refine lv_if_ne (tgt := 866) hx hb dL_law_851 (by decide) (fun c_1 => ?_) (fun c_1 => ?_)
  · refine lv_goto (tgt := 2828) hx hb dL_law_866 (by decide) ?_
    refine W.widen (k := cells + 60) (n := slots + 1000) (by omega) (by omega) ?_
    have hl := lv_sub hl (l' := [(0, .ref b), (1, .ref h), (2, .ref (am 0)), (3, .ref o1), (4, .ref o2), (5, .int i)]) [2, 3, 4, 5, 6, 7] rfl
    exact hback _ _ _ _ _ _ ⟨_, _, _, _, hH2, hm9.1, ho1, ho2⟩ hw hl
  · refine lv_aload_n hx hb dL_law_854 rfl (lv_at hl 5 rfl) ?_
    refine lv_iconst (v := 0) hx hb dL_law_855 (by decide) ?_
    refine zr_lald hx hb hw ho1 (vp_in_iff.mpr (by decide)) dL_law_856 ?_
    refine lv_iload hx hb dL_law_857 (lv_at hl 0 rfl) ?_
    refine lv_i2l (v := b9.toInt64) hx hb dL_law_859 rfl ?_
    refine W.lcmp hx hb dL_law_860 ?_
    have hq_2 : (lg_cmp (F1 (Int32.toNatClampNeg 0)) b9.toInt64) = 0 := zcmp0.mpr (by rw [hb9 c_1]; exact hv1 c_1)
    refine lv_if_eq (tgt := 866) hx hb dL_law_861 (by decide) (fun c_3 => ?_) (fun c_3 => absurd hq_2 c_3)
    refine lv_goto (tgt := 2828) hx hb dL_law_866 (by decide) ?_
    refine W.widen (k := cells + 60) (n := slots + 1000) (by omega) (by omega) ?_
    have hl := lv_sub hl (l' := [(0, .ref b), (1, .ref h), (2, .ref (am 0)), (3, .ref o1), (4, .ref o2), (5, .int i)]) [2, 3, 4, 5, 6, 7] rfl
    exact hback _ _ _ _ _ _ ⟨_, _, _, _, hH2, hm9.1, ho1, ho2⟩ hw hl

set_option maxRecDepth 100000 in
set_option maxHeartbeats 4000000 in
theorem k_law_10 {p : Program} {l : Launch} {e : Env} {R : Room} {s : State} {m : MethodId} {args : Array Value} {below : List Frame} {meth : Method} {c : Code} {H : Heap} {locs : List Loc} {cells slots : Nat} {Q : State → Prop} {ls : Array Slot} {g : zG} {A : Nat → Prop} {L : List Nat} {f : Nat → va_E} {am : Nat → Nat} {h o1 o2 b N : Nat} {σ : ZS} {xs : Nat → Int32} {i : Int32}
    (hx : p.tables.exec = Jvm.exec) (hb : c.code = cL_law) (hml : c.maxLocals = 9) (hown : s.vm.findClass RL = some m.cls) (hts : ∀ w ∈ wsL_law, w.before args s = true) (hl0 : l.stackTraces = false) (hw : zW g A s L f H locs) (hX : zX A s s.heap) (hXs : va_X b N xs s s.heap) (hbl : b < s.heap.size) (hbA : ¬ A b) (hRf : 20 ≤ R.frames) (hRl : 1000 ≤ R.locals) (hRc : cells + 60 ≤ R.cells) (hRs : slots + 1000 ≤ R.slots) (hJ : zLw g h am o1 o2 σ L f) (hix : ∀ j : Nat, j < 7 → vp_in (i + nI j) N) (hl : lv_has ls 9 [(0, .ref b), (1, .ref h), (2, .ref (am 0)), (3, .ref o1), (4, .ref o2), (5, .int i)])
    (hback : ∀ (σ1 : ZS) (L1 : List Nat) (f1 : Nat → va_E) (H1 : Heap) (locs1 : List Loc) (ls1 : Array Slot), zLw g h am o1 o2 σ1 L1 f1 → zW g A s L1 f1 H1 locs1 → lv_has ls1 9 [(0, .ref b), (1, .ref h), (2, .ref (am 0)), (3, .ref o1), (4, .ref o2), (5, .int i)] → W p l e R s m args below meth c H1 locs1 (cells + 60) (slots + 1000) Q (F0 m 2828 ls1 [])) : W p l e R s m args below meth c H locs cells slots Q (F0 m 869 ls []) := by
  obtain ⟨bs, th, F, D, hH, hE, h10, h20⟩ := hJ
  obtain ⟨ln, kd, hI⟩ := zHC_I hH
  obtain ⟨fs9, hcb⟩ := zHC_obj hH
  have hn1 := zMe_ne1 hE h10
  have hn2 := zMe_ne2 hE h20
  have hn12 := zo_ne h10 h20
  refine lv_aload_n hx hb dL_law_869 rfl (lv_at hl 1 rfl) ?_
  refine lv_aload_n hx hb dL_law_870 rfl (lv_at hl 0 rfl) ?_
  refine lv_iload hx hb dL_law_871 (lv_at hl 5 rfl) ?_
  refine lv_iconst (v := 1) hx hb dL_law_873 (by decide) ?_
  refine lv_iadd hx hb dL_law_874 ?_
  refine va_sld hx hb hXs hbl hbA hw.2.2.2.1 (hix 1 (by decide)) dL_law_875 ?_
  refine lv_aload_n hx hb dL_law_876 rfl (lv_at hl 3 rfl) ?_
  refine z_callSX (As := [.ref h, .int (xs (Int32.toNatClampNeg (i + 1))), .ref o1]) (rest := []) ⟨hx, hb, hml, hown, hts⟩ hw hX (c_L_hasLeft l hl0 g L f h (zPm am o1 o2) σ (xs (Int32.toNatClampNeg (i + 1))) o1 F hH h10 zPm_1) (vx_cwSW 3 hts gL_law_L_hasLeft rfl rfl rfl (by decide +kernel) ⟨Nat.le_trans (Nat.le_of_ble_eq_true rfl) hRf, Nat.le_trans (Nat.le_of_ble_eq_true rfl) hRl⟩) rfl hl.1 rfl (Nat.le_of_ble_eq_true rfl) dL_law_877 ⟨by omega, by omega⟩ (fun _ _ _ _ _ _ _ hp => False.elim hp) (fun r9 L1 f1 H locs hp hw => ?_)
  obtain ⟨rfl, hH1, ⟨F1, hF1, hv1⟩, hfr1⟩ := hp
  have hE1 := zMe_kept hE hH1 (fun k hk => hfr1 _ (zPm_m hk) (hn1 k hk))
  refine W.eq (g2 := F0 m 880 ls [.int (o_hasLeft σ (xs (Int32.toNatClampNeg (i + 1)))).1]) rfl ?_
  refine lv_istore (lv' := [(6, .int (o_hasLeft σ (xs (Int32.toNatClampNeg (i + 1)))).1), (0, .ref b), (1, .ref h), (2, .ref (am 0)), (3, .ref o1), (4, .ref o2), (5, .int i)]) hx hb dL_law_880 hl (by decide) rfl (fun ls hl => ?_)
  refine lv_aload_n hx hb dL_law_882 rfl (lv_at hl 3 rfl) ?_
  refine lv_aload_n hx hb dL_law_883 rfl (lv_at hl 1 rfl) ?_
  refine lv_iload hx hb dL_law_884 (lv_at hl 6 rfl) ?_
  refine lv_iconst (v := 1) hx hb dL_law_886 (by decide) ?_
  refine lv_iadd hx hb dL_law_887 ?_
  refine va_sld hx hb hXs hbl hbA hw.2.2.2.1 (hix 1 (by decide)) dL_law_888 ?_
  refine z_callV (As := [.int (xs (Int32.toNatClampNeg (i + 1)))]) (rest := []) ⟨hx, hb, hml, hown, hts⟩ hw hX (hE1.1 0 (by decide)) rfl (c_X2_hasLeft l g am L1 f1 σ bs th (xs (Int32.toNatClampNeg (i + 1))) ⟨hE1, fun _ _ => rfl⟩ hI) (cwV 1 hts gL_law_X2_hasLeft rfl rfl rfl (by decide +kernel) ⟨Nat.le_trans (Nat.le_of_ble_eq_true rfl) hRf, Nat.le_trans (Nat.le_of_ble_eq_true rfl) hRl⟩) rfl hl.1 rfl (Nat.le_of_ble_eq_true rfl) dL_law_889 ⟨by omega, by omega⟩ (fun _ _ _ _ _ _ _ hp => False.elim hp) (fun r9 L2 f2 H locs hp hw => ?_)
  obtain ⟨rfl, b9, bs9, rfl, hm9, hb9⟩ := hp
  have ho1 : zc L1 f2 o1 (.inl (g.2 1, 1, .inr (.inl F1))) := ⟨zHC_in hH1 zPm_1, (hm9.2 _ (fun k hk e => hn1 k hk e.symm)).trans hF1⟩
  have ho2 : zc L1 f2 o2 (.inl (g.2 3, 1, .inr (.inr (.inr (.inl D))))) := ⟨zHC_in hH1 zPm_2, (hm9.2 _ (fun k hk e => hn2 k hk e.symm)).trans ((hfr1 _ zPm_2 (Ne.symm hn12)).trans h20.2)⟩
  have hH2 := zHC_mod hH1 hm9.2
  refine W.eq (g2 := F0 m 892 ls [.int b9]) rfl ?_
  refine lv_istore (lv' := [(7, .int b9), (6, .int (o_hasLeft σ (xs (Int32.toNatClampNeg (i + 1)))).1), (0, .ref b), (1, .ref h), (2, .ref (am 0)), (3, .ref o1), (4, .ref o2), (5, .int i)]) hx hb dL_law_892 hl (by decide) rfl (fun ls hl => ?_)
  refine lv_aload_n hx hb dL_law_894 rfl (lv_at hl 4 rfl) ?_
  refine z_callV (As := []) (rest := []) ⟨hx, hb, hml, hown, hts⟩ hw hX (hm9.1.1 0 (by decide)) rfl (c_X2_thrown l g am L1 f2 (o_hasLeft σ (xs (Int32.toNatClampNeg (i + 1)))).2.2 bs9 (o_hasLeft σ (xs (Int32.toNatClampNeg (i + 1)))).1 hm9.rf) (cwV 0 hts gL_law_X2_thrown rfl rfl rfl (by decide +kernel) ⟨Nat.le_trans (Nat.le_of_ble_eq_true rfl) hRf, Nat.le_trans (Nat.le_of_ble_eq_true rfl) hRl⟩) rfl hl.1 rfl (Nat.le_of_ble_eq_true rfl) dL_law_895 ⟨by omega, by omega⟩ (fun _ _ _ _ _ _ _ hp => False.elim hp) (fun r9 L3 f3 H locs hp hw => ?_)
  obtain ⟨rfl, rfl, rfl⟩ := hp
  refine W.eq (g2 := F0 m 898 ls [.int (o_hasLeft σ (xs (Int32.toNatClampNeg (i + 1)))).1]) rfl ?_
  refine lv_iload hx hb dL_law_898 (lv_at hl 1 rfl) ?_
  refine lv_icmp_eq (tgt := 905) hx hb dL_law_900 (by decide) (fun _ => ?_) (fun c => absurd rfl c)
  refine lv_iload hx hb dL_law_905 (lv_at hl 1 rfl) ?_
  refine lv_if_ne (tgt := 929) hx hb dL_law_907 (by decide) (fun c_1 => ?_) (fun c_1 => ?_)
  · refine lv_goto (tgt := 2828) hx hb dL_law_929 (by decide) ?_
    refine W.widen (k := cells + 60) (n := slots + 1000) (by omega) (by omega) ?_
    have hl := lv_sub hl (l' := [(0, .ref b), (1, .ref h), (2, .ref (am 0)), (3, .ref o1), (4, .ref o2), (5, .int i)]) [2, 3, 4, 5, 6, 7] rfl
    exact hback _ _ _ _ _ _ ⟨_, _, _, _, hH2, hm9.1, ho1, ho2⟩ hw hl
  · refine lv_aload_n hx hb dL_law_910 rfl (lv_at hl 5 rfl) ?_
    refine lv_iconst (v := 0) hx hb dL_law_911 (by decide) ?_
    refine zr_lald hx hb hw ho1 (vp_in_iff.mpr (by decide)) dL_law_912 ?_
    refine lv_iload hx hb dL_law_913 (lv_at hl 0 rfl) ?_
    refine lv_if_eq (tgt := 922) hx hb dL_law_915 (by decide) (fun c_2 => ?_) (fun c_2 => ?_)
    · refine lv_lconst (v := 0) hx hb dL_law_922 (by decide) ?_
      refine W.lcmp hx hb dL_law_923 ?_
      have hq_3 : (lg_cmp (F1 (Int32.toNatClampNeg 0)) 0) = 0 := zcmp0.mpr ((hv1 c_1).trans (if_pos (by rw [← hb9 c_1]; exact c_2)))
      refine lv_if_eq (tgt := 929) hx hb dL_law_924 (by decide) (fun c_4 => ?_) (fun c_4 => absurd hq_3 c_4)
      refine lv_goto (tgt := 2828) hx hb dL_law_929 (by decide) ?_
      refine W.widen (k := cells + 60) (n := slots + 1000) (by omega) (by omega) ?_
      have hl := lv_sub hl (l' := [(0, .ref b), (1, .ref h), (2, .ref (am 0)), (3, .ref o1), (4, .ref o2), (5, .int i)]) [2, 3, 4, 5, 6, 7] rfl
      exact hback _ _ _ _ _ _ ⟨_, _, _, _, hH2, hm9.1, ho1, ho2⟩ hw hl
    · refine lv_lconst (v := 1) hx hb dL_law_918 (by decide) ?_
      refine lv_goto (tgt := 923) hx hb dL_law_919 (by decide) ?_
      refine W.lcmp hx hb dL_law_923 ?_
      have hq_5 : (lg_cmp (F1 (Int32.toNatClampNeg 0)) 1) = 0 := zcmp0.mpr ((hv1 c_1).trans (if_neg (by rw [← hb9 c_1]; exact c_2)))
      refine lv_if_eq (tgt := 929) hx hb dL_law_924 (by decide) (fun c_6 => ?_) (fun c_6 => absurd hq_5 c_6)
      refine lv_goto (tgt := 2828) hx hb dL_law_929 (by decide) ?_
      refine W.widen (k := cells + 60) (n := slots + 1000) (by omega) (by omega) ?_
      have hl := lv_sub hl (l' := [(0, .ref b), (1, .ref h), (2, .ref (am 0)), (3, .ref o1), (4, .ref o2), (5, .int i)]) [2, 3, 4, 5, 6, 7] rfl
      exact hback _ _ _ _ _ _ ⟨_, _, _, _, hH2, hm9.1, ho1, ho2⟩ hw hl

set_option maxRecDepth 100000 in
set_option maxHeartbeats 4000000 in
theorem k_law_11 {p : Program} {l : Launch} {e : Env} {R : Room} {s : State} {m : MethodId} {args : Array Value} {below : List Frame} {meth : Method} {c : Code} {H : Heap} {locs : List Loc} {cells slots : Nat} {Q : State → Prop} {ls : Array Slot} {g : zG} {A : Nat → Prop} {L : List Nat} {f : Nat → va_E} {am : Nat → Nat} {h o1 o2 b N : Nat} {σ : ZS} {xs : Nat → Int32} {i : Int32}
    (hx : p.tables.exec = Jvm.exec) (hb : c.code = cL_law) (hml : c.maxLocals = 9) (hown : s.vm.findClass RL = some m.cls) (hts : ∀ w ∈ wsL_law, w.before args s = true) (hl0 : l.stackTraces = false) (hw : zW g A s L f H locs) (hX : zX A s s.heap) (hXs : va_X b N xs s s.heap) (hbl : b < s.heap.size) (hbA : ¬ A b) (hRf : 20 ≤ R.frames) (hRl : 1000 ≤ R.locals) (hRc : cells + 60 ≤ R.cells) (hRs : slots + 1000 ≤ R.slots) (hJ : zLw g h am o1 o2 σ L f) (hix : ∀ j : Nat, j < 7 → vp_in (i + nI j) N) (hl : lv_has ls 9 [(0, .ref b), (1, .ref h), (2, .ref (am 0)), (3, .ref o1), (4, .ref o2), (5, .int i)])
    (hback : ∀ (σ1 : ZS) (L1 : List Nat) (f1 : Nat → va_E) (H1 : Heap) (locs1 : List Loc) (ls1 : Array Slot), zLw g h am o1 o2 σ1 L1 f1 → zW g A s L1 f1 H1 locs1 → lv_has ls1 9 [(0, .ref b), (1, .ref h), (2, .ref (am 0)), (3, .ref o1), (4, .ref o2), (5, .int i)] → W p l e R s m args below meth c H1 locs1 (cells + 60) (slots + 1000) Q (F0 m 2828 ls1 [])) : W p l e R s m args below meth c H locs cells slots Q (F0 m 932 ls []) := by
  obtain ⟨bs, th, F, D, hH, hE, h10, h20⟩ := hJ
  obtain ⟨ln, kd, hI⟩ := zHC_I hH
  obtain ⟨fs9, hcb⟩ := zHC_obj hH
  have hn1 := zMe_ne1 hE h10
  have hn2 := zMe_ne2 hE h20
  have hn12 := zo_ne h10 h20
  refine lv_aload_n hx hb dL_law_932 rfl (lv_at hl 1 rfl) ?_
  refine lv_aload_n hx hb dL_law_933 rfl (lv_at hl 0 rfl) ?_
  refine lv_iload hx hb dL_law_934 (lv_at hl 5 rfl) ?_
  refine lv_iconst (v := 1) hx hb dL_law_936 (by decide) ?_
  refine lv_iadd hx hb dL_law_937 ?_
  refine va_sld hx hb hXs hbl hbA hw.2.2.2.1 (hix 1 (by decide)) dL_law_938 ?_
  refine lv_aload_n hx hb dL_law_939 rfl (lv_at hl 3 rfl) ?_
  refine z_callSX (As := [.ref h, .int (xs (Int32.toNatClampNeg (i + 1))), .ref o1]) (rest := []) ⟨hx, hb, hml, hown, hts⟩ hw hX (c_L_isReadOnly l hl0 g L f h (zPm am o1 o2) σ (xs (Int32.toNatClampNeg (i + 1))) o1 F hH h10 zPm_1) (vx_cwSW 3 hts gL_law_L_isReadOnly rfl rfl rfl (by decide +kernel) ⟨Nat.le_trans (Nat.le_of_ble_eq_true rfl) hRf, Nat.le_trans (Nat.le_of_ble_eq_true rfl) hRl⟩) rfl hl.1 rfl (Nat.le_of_ble_eq_true rfl) dL_law_940 ⟨by omega, by omega⟩ (fun _ _ _ _ _ _ _ hp => False.elim hp) (fun r9 L1 f1 H locs hp hw => ?_)
  obtain ⟨rfl, hH1, ⟨F1, hF1, hv1⟩, hfr1⟩ := hp
  have hE1 := zMe_kept hE hH1 (fun k hk => hfr1 _ (zPm_m hk) (hn1 k hk))
  refine W.eq (g2 := F0 m 943 ls [.int (o_isReadOnly σ (xs (Int32.toNatClampNeg (i + 1)))).1]) rfl ?_
  refine lv_istore (lv' := [(6, .int (o_isReadOnly σ (xs (Int32.toNatClampNeg (i + 1)))).1), (0, .ref b), (1, .ref h), (2, .ref (am 0)), (3, .ref o1), (4, .ref o2), (5, .int i)]) hx hb dL_law_943 hl (by decide) rfl (fun ls hl => ?_)
  refine lv_aload_n hx hb dL_law_945 rfl (lv_at hl 3 rfl) ?_
  refine lv_aload_n hx hb dL_law_946 rfl (lv_at hl 1 rfl) ?_
  refine lv_iload hx hb dL_law_947 (lv_at hl 6 rfl) ?_
  refine lv_iconst (v := 1) hx hb dL_law_949 (by decide) ?_
  refine lv_iadd hx hb dL_law_950 ?_
  refine va_sld hx hb hXs hbl hbA hw.2.2.2.1 (hix 1 (by decide)) dL_law_951 ?_
  refine z_callV (As := [.int (xs (Int32.toNatClampNeg (i + 1)))]) (rest := []) ⟨hx, hb, hml, hown, hts⟩ hw hX (hE1.1 0 (by decide)) rfl (c_X2_isReadOnly l g am L1 f1 σ bs th (xs (Int32.toNatClampNeg (i + 1))) ⟨hE1, fun _ _ => rfl⟩ hI) (cwV 1 hts gL_law_X2_isReadOnly rfl rfl rfl (by decide +kernel) ⟨Nat.le_trans (Nat.le_of_ble_eq_true rfl) hRf, Nat.le_trans (Nat.le_of_ble_eq_true rfl) hRl⟩) rfl hl.1 rfl (Nat.le_of_ble_eq_true rfl) dL_law_952 ⟨by omega, by omega⟩ (fun _ _ _ _ _ _ _ hp => False.elim hp) (fun r9 L2 f2 H locs hp hw => ?_)
  obtain ⟨rfl, b9, bs9, rfl, hm9, hb9⟩ := hp
  have ho1 : zc L1 f2 o1 (.inl (g.2 1, 1, .inr (.inl F1))) := ⟨zHC_in hH1 zPm_1, (hm9.2 _ (fun k hk e => hn1 k hk e.symm)).trans hF1⟩
  have ho2 : zc L1 f2 o2 (.inl (g.2 3, 1, .inr (.inr (.inr (.inl D))))) := ⟨zHC_in hH1 zPm_2, (hm9.2 _ (fun k hk e => hn2 k hk e.symm)).trans ((hfr1 _ zPm_2 (Ne.symm hn12)).trans h20.2)⟩
  have hH2 := zHC_mod hH1 hm9.2
  refine W.eq (g2 := F0 m 955 ls [.int b9]) rfl ?_
  refine lv_istore (lv' := [(7, .int b9), (6, .int (o_isReadOnly σ (xs (Int32.toNatClampNeg (i + 1)))).1), (0, .ref b), (1, .ref h), (2, .ref (am 0)), (3, .ref o1), (4, .ref o2), (5, .int i)]) hx hb dL_law_955 hl (by decide) rfl (fun ls hl => ?_)
  refine lv_aload_n hx hb dL_law_957 rfl (lv_at hl 4 rfl) ?_
  refine z_callV (As := []) (rest := []) ⟨hx, hb, hml, hown, hts⟩ hw hX (hm9.1.1 0 (by decide)) rfl (c_X2_thrown l g am L1 f2 (o_isReadOnly σ (xs (Int32.toNatClampNeg (i + 1)))).2.2 bs9 (o_isReadOnly σ (xs (Int32.toNatClampNeg (i + 1)))).1 hm9.rf) (cwV 0 hts gL_law_X2_thrown rfl rfl rfl (by decide +kernel) ⟨Nat.le_trans (Nat.le_of_ble_eq_true rfl) hRf, Nat.le_trans (Nat.le_of_ble_eq_true rfl) hRl⟩) rfl hl.1 rfl (Nat.le_of_ble_eq_true rfl) dL_law_958 ⟨by omega, by omega⟩ (fun _ _ _ _ _ _ _ hp => False.elim hp) (fun r9 L3 f3 H locs hp hw => ?_)
  obtain ⟨rfl, rfl, rfl⟩ := hp
  refine W.eq (g2 := F0 m 961 ls [.int (o_isReadOnly σ (xs (Int32.toNatClampNeg (i + 1)))).1]) rfl ?_
  refine lv_iload hx hb dL_law_961 (lv_at hl 1 rfl) ?_
  refine lv_icmp_eq (tgt := 968) hx hb dL_law_963 (by decide) (fun _ => ?_) (fun c => absurd rfl c)
  refine lv_iload hx hb dL_law_968 (lv_at hl 1 rfl) ?_
  refine lv_if_ne (tgt := 992) hx hb dL_law_970 (by decide) (fun c_1 => ?_) (fun c_1 => ?_)
  · refine lv_goto (tgt := 2828) hx hb dL_law_992 (by decide) ?_
    refine W.widen (k := cells + 60) (n := slots + 1000) (by omega) (by omega) ?_
    have hl := lv_sub hl (l' := [(0, .ref b), (1, .ref h), (2, .ref (am 0)), (3, .ref o1), (4, .ref o2), (5, .int i)]) [2, 3, 4, 5, 6, 7] rfl
    exact hback _ _ _ _ _ _ ⟨_, _, _, _, hH2, hm9.1, ho1, ho2⟩ hw hl
  · refine lv_aload_n hx hb dL_law_973 rfl (lv_at hl 5 rfl) ?_
    refine lv_iconst (v := 0) hx hb dL_law_974 (by decide) ?_
    refine zr_lald hx hb hw ho1 (vp_in_iff.mpr (by decide)) dL_law_975 ?_
    refine lv_iload hx hb dL_law_976 (lv_at hl 0 rfl) ?_
    refine lv_if_eq (tgt := 985) hx hb dL_law_978 (by decide) (fun c_2 => ?_) (fun c_2 => ?_)
    · refine lv_lconst (v := 0) hx hb dL_law_985 (by decide) ?_
      refine W.lcmp hx hb dL_law_986 ?_
      have hq_3 : (lg_cmp (F1 (Int32.toNatClampNeg 0)) 0) = 0 := zcmp0.mpr ((hv1 c_1).trans (if_pos (by rw [← hb9 c_1]; exact c_2)))
      refine lv_if_eq (tgt := 992) hx hb dL_law_987 (by decide) (fun c_4 => ?_) (fun c_4 => absurd hq_3 c_4)
      refine lv_goto (tgt := 2828) hx hb dL_law_992 (by decide) ?_
      refine W.widen (k := cells + 60) (n := slots + 1000) (by omega) (by omega) ?_
      have hl := lv_sub hl (l' := [(0, .ref b), (1, .ref h), (2, .ref (am 0)), (3, .ref o1), (4, .ref o2), (5, .int i)]) [2, 3, 4, 5, 6, 7] rfl
      exact hback _ _ _ _ _ _ ⟨_, _, _, _, hH2, hm9.1, ho1, ho2⟩ hw hl
    · refine lv_lconst (v := 1) hx hb dL_law_981 (by decide) ?_
      refine lv_goto (tgt := 986) hx hb dL_law_982 (by decide) ?_
      refine W.lcmp hx hb dL_law_986 ?_
      have hq_5 : (lg_cmp (F1 (Int32.toNatClampNeg 0)) 1) = 0 := zcmp0.mpr ((hv1 c_1).trans (if_neg (by rw [← hb9 c_1]; exact c_2)))
      refine lv_if_eq (tgt := 992) hx hb dL_law_987 (by decide) (fun c_6 => ?_) (fun c_6 => absurd hq_5 c_6)
      refine lv_goto (tgt := 2828) hx hb dL_law_992 (by decide) ?_
      refine W.widen (k := cells + 60) (n := slots + 1000) (by omega) (by omega) ?_
      have hl := lv_sub hl (l' := [(0, .ref b), (1, .ref h), (2, .ref (am 0)), (3, .ref o1), (4, .ref o2), (5, .int i)]) [2, 3, 4, 5, 6, 7] rfl
      exact hback _ _ _ _ _ _ ⟨_, _, _, _, hH2, hm9.1, ho1, ho2⟩ hw hl

set_option maxRecDepth 100000 in
set_option maxHeartbeats 4000000 in
theorem k_law_12 {p : Program} {l : Launch} {e : Env} {R : Room} {s : State} {m : MethodId} {args : Array Value} {below : List Frame} {meth : Method} {c : Code} {H : Heap} {locs : List Loc} {cells slots : Nat} {Q : State → Prop} {ls : Array Slot} {g : zG} {A : Nat → Prop} {L : List Nat} {f : Nat → va_E} {am : Nat → Nat} {h o1 o2 b N : Nat} {σ : ZS} {xs : Nat → Int32} {i : Int32}
    (hx : p.tables.exec = Jvm.exec) (hb : c.code = cL_law) (hml : c.maxLocals = 9) (hown : s.vm.findClass RL = some m.cls) (hts : ∀ w ∈ wsL_law, w.before args s = true) (hl0 : l.stackTraces = false) (hw : zW g A s L f H locs) (hX : zX A s s.heap) (hXs : va_X b N xs s s.heap) (hbl : b < s.heap.size) (hbA : ¬ A b) (hRf : 20 ≤ R.frames) (hRl : 1000 ≤ R.locals) (hRc : cells + 60 ≤ R.cells) (hRs : slots + 1000 ≤ R.slots) (hJ : zLw g h am o1 o2 σ L f) (hix : ∀ j : Nat, j < 7 → vp_in (i + nI j) N) (hl : lv_has ls 9 [(0, .ref b), (1, .ref h), (2, .ref (am 0)), (3, .ref o1), (4, .ref o2), (5, .int i)])
    (hback : ∀ (σ1 : ZS) (L1 : List Nat) (f1 : Nat → va_E) (H1 : Heap) (locs1 : List Loc) (ls1 : Array Slot), zLw g h am o1 o2 σ1 L1 f1 → zW g A s L1 f1 H1 locs1 → lv_has ls1 9 [(0, .ref b), (1, .ref h), (2, .ref (am 0)), (3, .ref o1), (4, .ref o2), (5, .int i)] → W p l e R s m args below meth c H1 locs1 (cells + 60) (slots + 1000) Q (F0 m 2828 ls1 [])) : W p l e R s m args below meth c H locs cells slots Q (F0 m 995 ls []) := by
  obtain ⟨bs, th, F, D, hH, hE, h10, h20⟩ := hJ
  obtain ⟨ln, kd, hI⟩ := zHC_I hH
  obtain ⟨fs9, hcb⟩ := zHC_obj hH
  have hn1 := zMe_ne1 hE h10
  have hn2 := zMe_ne2 hE h20
  have hn12 := zo_ne h10 h20
  refine lv_aload_n hx hb dL_law_995 rfl (lv_at hl 1 rfl) ?_
  refine lv_aload_n hx hb dL_law_996 rfl (lv_at hl 0 rfl) ?_
  refine lv_iload hx hb dL_law_997 (lv_at hl 5 rfl) ?_
  refine lv_iconst (v := 1) hx hb dL_law_999 (by decide) ?_
  refine lv_iadd hx hb dL_law_1000 ?_
  refine va_sld hx hb hXs hbl hbA hw.2.2.2.1 (hix 1 (by decide)) dL_law_1001 ?_
  refine lv_aload_n hx hb dL_law_1002 rfl (lv_at hl 0 rfl) ?_
  refine lv_iload hx hb dL_law_1003 (lv_at hl 5 rfl) ?_
  refine lv_iconst (v := 2) hx hb dL_law_1005 (by decide) ?_
  refine lv_iadd hx hb dL_law_1006 ?_
  refine va_sld hx hb hXs hbl hbA hw.2.2.2.1 (hix 2 (by decide)) dL_law_1007 ?_
  refine lv_aload_n hx hb dL_law_1008 rfl (lv_at hl 3 rfl) ?_
  refine z_callSX (As := [.ref h, .int (xs (Int32.toNatClampNeg (i + 1))), .int (xs (Int32.toNatClampNeg (i + 2))), .ref o1]) (rest := []) ⟨hx, hb, hml, hown, hts⟩ hw hX (c_L_placeAt l hl0 g L f h (zPm am o1 o2) σ (xs (Int32.toNatClampNeg (i + 1))) (xs (Int32.toNatClampNeg (i + 2))) o1 F hH h10 zPm_1) (vx_cwSW 4 hts gL_law_L_placeAt rfl rfl rfl (by decide +kernel) ⟨Nat.le_trans (Nat.le_of_ble_eq_true rfl) hRf, Nat.le_trans (Nat.le_of_ble_eq_true rfl) hRl⟩) rfl hl.1 rfl (Nat.le_of_ble_eq_true rfl) dL_law_1009 ⟨by omega, by omega⟩ (fun _ _ _ _ _ _ _ hp => False.elim hp) (fun r9 L1 f1 H locs hp hw => ?_)
  obtain ⟨rfl, hH1, ⟨F1, hF1, hv1⟩, hfr1⟩ := hp
  have hE1 := zMe_kept hE hH1 (fun k hk => hfr1 _ (zPm_m hk) (hn1 k hk))
  refine W.eq (g2 := F0 m 1012 ls [.int (o_placeAt σ (xs (Int32.toNatClampNeg (i + 1))) (xs (Int32.toNatClampNeg (i + 2)))).1]) rfl ?_
  refine lv_istore (lv' := [(6, .int (o_placeAt σ (xs (Int32.toNatClampNeg (i + 1))) (xs (Int32.toNatClampNeg (i + 2)))).1), (0, .ref b), (1, .ref h), (2, .ref (am 0)), (3, .ref o1), (4, .ref o2), (5, .int i)]) hx hb dL_law_1012 hl (by decide) rfl (fun ls hl => ?_)
  refine lv_aload_n hx hb dL_law_1014 rfl (lv_at hl 3 rfl) ?_
  refine lv_aload_n hx hb dL_law_1015 rfl (lv_at hl 1 rfl) ?_
  refine lv_iload hx hb dL_law_1016 (lv_at hl 6 rfl) ?_
  refine lv_iconst (v := 1) hx hb dL_law_1018 (by decide) ?_
  refine lv_iadd hx hb dL_law_1019 ?_
  refine va_sld hx hb hXs hbl hbA hw.2.2.2.1 (hix 1 (by decide)) dL_law_1020 ?_
  refine lv_aload_n hx hb dL_law_1021 rfl (lv_at hl 1 rfl) ?_
  refine lv_iload hx hb dL_law_1022 (lv_at hl 6 rfl) ?_
  refine lv_iconst (v := 2) hx hb dL_law_1024 (by decide) ?_
  refine lv_iadd hx hb dL_law_1025 ?_
  refine va_sld hx hb hXs hbl hbA hw.2.2.2.1 (hix 2 (by decide)) dL_law_1026 ?_
  refine z_callV (As := [.int (xs (Int32.toNatClampNeg (i + 1))), .int (xs (Int32.toNatClampNeg (i + 2)))]) (rest := []) ⟨hx, hb, hml, hown, hts⟩ hw hX (hE1.1 0 (by decide)) rfl (c_X2_placeAt l g am L1 f1 σ bs th (xs (Int32.toNatClampNeg (i + 1))) (xs (Int32.toNatClampNeg (i + 2))) ⟨hE1, fun _ _ => rfl⟩ hI) (cwV 2 hts gL_law_X2_placeAt rfl rfl rfl (by decide +kernel) ⟨Nat.le_trans (Nat.le_of_ble_eq_true rfl) hRf, Nat.le_trans (Nat.le_of_ble_eq_true rfl) hRl⟩) rfl hl.1 rfl (Nat.le_of_ble_eq_true rfl) dL_law_1027 ⟨by omega, by omega⟩ (fun _ _ _ _ _ _ _ hp => False.elim hp) (fun r9 L2 f2 H locs hp hw => ?_)
  obtain ⟨rfl, b9, bs9, rfl, hm9, hb9⟩ := hp
  have ho1 : zc L1 f2 o1 (.inl (g.2 1, 1, .inr (.inl F1))) := ⟨zHC_in hH1 zPm_1, (hm9.2 _ (fun k hk e => hn1 k hk e.symm)).trans hF1⟩
  have ho2 : zc L1 f2 o2 (.inl (g.2 3, 1, .inr (.inr (.inr (.inl D))))) := ⟨zHC_in hH1 zPm_2, (hm9.2 _ (fun k hk e => hn2 k hk e.symm)).trans ((hfr1 _ zPm_2 (Ne.symm hn12)).trans h20.2)⟩
  have hH2 := zHC_mod hH1 hm9.2
  refine W.eq (g2 := F0 m 1030 ls [.int b9]) rfl ?_
  refine lv_istore (lv' := [(7, .int b9), (6, .int (o_placeAt σ (xs (Int32.toNatClampNeg (i + 1))) (xs (Int32.toNatClampNeg (i + 2)))).1), (0, .ref b), (1, .ref h), (2, .ref (am 0)), (3, .ref o1), (4, .ref o2), (5, .int i)]) hx hb dL_law_1030 hl (by decide) rfl (fun ls hl => ?_)
  refine lv_aload_n hx hb dL_law_1032 rfl (lv_at hl 4 rfl) ?_
  refine z_callV (As := []) (rest := []) ⟨hx, hb, hml, hown, hts⟩ hw hX (hm9.1.1 0 (by decide)) rfl (c_X2_thrown l g am L1 f2 (o_placeAt σ (xs (Int32.toNatClampNeg (i + 1))) (xs (Int32.toNatClampNeg (i + 2)))).2.2 bs9 (o_placeAt σ (xs (Int32.toNatClampNeg (i + 1))) (xs (Int32.toNatClampNeg (i + 2)))).1 hm9.rf) (cwV 0 hts gL_law_X2_thrown rfl rfl rfl (by decide +kernel) ⟨Nat.le_trans (Nat.le_of_ble_eq_true rfl) hRf, Nat.le_trans (Nat.le_of_ble_eq_true rfl) hRl⟩) rfl hl.1 rfl (Nat.le_of_ble_eq_true rfl) dL_law_1033 ⟨by omega, by omega⟩ (fun _ _ _ _ _ _ _ hp => False.elim hp) (fun r9 L3 f3 H locs hp hw => ?_)
  obtain ⟨rfl, rfl, rfl⟩ := hp
  refine W.eq (g2 := F0 m 1036 ls [.int (o_placeAt σ (xs (Int32.toNatClampNeg (i + 1))) (xs (Int32.toNatClampNeg (i + 2)))).1]) rfl ?_
  refine lv_iload hx hb dL_law_1036 (lv_at hl 1 rfl) ?_
  refine lv_icmp_eq (tgt := 1043) hx hb dL_law_1038 (by decide) (fun _ => ?_) (fun c => absurd rfl c)
  refine lv_iload hx hb dL_law_1043 (lv_at hl 1 rfl) ?_
  refine lv_if_ne (tgt := 1060) hx hb dL_law_1045 (by decide) (fun c_1 => ?_) (fun c_1 => ?_)
  · refine lv_goto (tgt := 2828) hx hb dL_law_1060 (by decide) ?_
    refine W.widen (k := cells + 60) (n := slots + 1000) (by omega) (by omega) ?_
    have hl := lv_sub hl (l' := [(0, .ref b), (1, .ref h), (2, .ref (am 0)), (3, .ref o1), (4, .ref o2), (5, .int i)]) [2, 3, 4, 5, 6, 7] rfl
    exact hback _ _ _ _ _ _ ⟨_, _, _, _, hH2, hm9.1, ho1, ho2⟩ hw hl
  · refine lv_aload_n hx hb dL_law_1048 rfl (lv_at hl 5 rfl) ?_
    refine lv_iconst (v := 0) hx hb dL_law_1049 (by decide) ?_
    refine zr_lald hx hb hw ho1 (vp_in_iff.mpr (by decide)) dL_law_1050 ?_
    refine lv_iload hx hb dL_law_1051 (lv_at hl 0 rfl) ?_
    refine lv_i2l (v := b9.toInt64) hx hb dL_law_1053 rfl ?_
    refine W.lcmp hx hb dL_law_1054 ?_
    have hq_2 : (lg_cmp (F1 (Int32.toNatClampNeg 0)) b9.toInt64) = 0 := zcmp0.mpr (by rw [hb9 c_1]; exact hv1 c_1)
    refine lv_if_eq (tgt := 1060) hx hb dL_law_1055 (by decide) (fun c_3 => ?_) (fun c_3 => absurd hq_2 c_3)
    refine lv_goto (tgt := 2828) hx hb dL_law_1060 (by decide) ?_
    refine W.widen (k := cells + 60) (n := slots + 1000) (by omega) (by omega) ?_
    have hl := lv_sub hl (l' := [(0, .ref b), (1, .ref h), (2, .ref (am 0)), (3, .ref o1), (4, .ref o2), (5, .int i)]) [2, 3, 4, 5, 6, 7] rfl
    exact hback _ _ _ _ _ _ ⟨_, _, _, _, hH2, hm9.1, ho1, ho2⟩ hw hl

set_option maxRecDepth 100000 in
set_option maxHeartbeats 4000000 in
theorem k_law_13 {p : Program} {l : Launch} {e : Env} {R : Room} {s : State} {m : MethodId} {args : Array Value} {below : List Frame} {meth : Method} {c : Code} {H : Heap} {locs : List Loc} {cells slots : Nat} {Q : State → Prop} {ls : Array Slot} {g : zG} {A : Nat → Prop} {L : List Nat} {f : Nat → va_E} {am : Nat → Nat} {h o1 o2 b N : Nat} {σ : ZS} {xs : Nat → Int32} {i : Int32}
    (hx : p.tables.exec = Jvm.exec) (hb : c.code = cL_law) (hml : c.maxLocals = 9) (hown : s.vm.findClass RL = some m.cls) (hts : ∀ w ∈ wsL_law, w.before args s = true) (hl0 : l.stackTraces = false) (hw : zW g A s L f H locs) (hX : zX A s s.heap) (hXs : va_X b N xs s s.heap) (hbl : b < s.heap.size) (hbA : ¬ A b) (hRf : 20 ≤ R.frames) (hRl : 1000 ≤ R.locals) (hRc : cells + 60 ≤ R.cells) (hRs : slots + 1000 ≤ R.slots) (hJ : zLw g h am o1 o2 σ L f) (hix : ∀ j : Nat, j < 7 → vp_in (i + nI j) N) (hl : lv_has ls 9 [(0, .ref b), (1, .ref h), (2, .ref (am 0)), (3, .ref o1), (4, .ref o2), (5, .int i)])
    (hback : ∀ (σ1 : ZS) (L1 : List Nat) (f1 : Nat → va_E) (H1 : Heap) (locs1 : List Loc) (ls1 : Array Slot), zLw g h am o1 o2 σ1 L1 f1 → zW g A s L1 f1 H1 locs1 → lv_has ls1 9 [(0, .ref b), (1, .ref h), (2, .ref (am 0)), (3, .ref o1), (4, .ref o2), (5, .int i)] → W p l e R s m args below meth c H1 locs1 (cells + 60) (slots + 1000) Q (F0 m 2828 ls1 [])) : W p l e R s m args below meth c H locs cells slots Q (F0 m 1063 ls []) := by
  obtain ⟨bs, th, F, D, hH, hE, h10, h20⟩ := hJ
  obtain ⟨ln, kd, hI⟩ := zHC_I hH
  obtain ⟨fs9, hcb⟩ := zHC_obj hH
  have hn1 := zMe_ne1 hE h10
  have hn2 := zMe_ne2 hE h20
  have hn12 := zo_ne h10 h20
  refine lv_aload_n hx hb dL_law_1063 rfl (lv_at hl 1 rfl) ?_
  refine lv_aload_n hx hb dL_law_1064 rfl (lv_at hl 0 rfl) ?_
  refine lv_iload hx hb dL_law_1065 (lv_at hl 5 rfl) ?_
  refine lv_iconst (v := 1) hx hb dL_law_1067 (by decide) ?_
  refine lv_iadd hx hb dL_law_1068 ?_
  refine va_sld hx hb hXs hbl hbA hw.2.2.2.1 (hix 1 (by decide)) dL_law_1069 ?_
  refine lv_aload_n hx hb dL_law_1070 rfl (lv_at hl 0 rfl) ?_
  refine lv_iload hx hb dL_law_1071 (lv_at hl 5 rfl) ?_
  refine lv_iconst (v := 2) hx hb dL_law_1073 (by decide) ?_
  refine lv_iadd hx hb dL_law_1074 ?_
  refine va_sld hx hb hXs hbl hbA hw.2.2.2.1 (hix 2 (by decide)) dL_law_1075 ?_
  refine lv_aload_n hx hb dL_law_1076 rfl (lv_at hl 3 rfl) ?_
  refine z_callSX (As := [.ref h, .int (xs (Int32.toNatClampNeg (i + 1))), .int (xs (Int32.toNatClampNeg (i + 2))), .ref o1]) (rest := []) ⟨hx, hb, hml, hown, hts⟩ hw hX (c_L_endAt l hl0 g L f h (zPm am o1 o2) σ (xs (Int32.toNatClampNeg (i + 1))) (xs (Int32.toNatClampNeg (i + 2))) o1 F hH h10 zPm_1) (vx_cwSW 4 hts gL_law_L_endAt rfl rfl rfl (by decide +kernel) ⟨Nat.le_trans (Nat.le_of_ble_eq_true rfl) hRf, Nat.le_trans (Nat.le_of_ble_eq_true rfl) hRl⟩) rfl hl.1 rfl (Nat.le_of_ble_eq_true rfl) dL_law_1077 ⟨by omega, by omega⟩ (fun _ _ _ _ _ _ _ hp => False.elim hp) (fun r9 L1 f1 H locs hp hw => ?_)
  obtain ⟨rfl, hH1, ⟨F1, hF1, hv1⟩, hfr1⟩ := hp
  have hE1 := zMe_kept hE hH1 (fun k hk => hfr1 _ (zPm_m hk) (hn1 k hk))
  refine W.eq (g2 := F0 m 1080 ls [.int (o_endAt σ (xs (Int32.toNatClampNeg (i + 1))) (xs (Int32.toNatClampNeg (i + 2)))).1]) rfl ?_
  refine lv_istore (lv' := [(6, .int (o_endAt σ (xs (Int32.toNatClampNeg (i + 1))) (xs (Int32.toNatClampNeg (i + 2)))).1), (0, .ref b), (1, .ref h), (2, .ref (am 0)), (3, .ref o1), (4, .ref o2), (5, .int i)]) hx hb dL_law_1080 hl (by decide) rfl (fun ls hl => ?_)
  refine lv_aload_n hx hb dL_law_1082 rfl (lv_at hl 3 rfl) ?_
  refine lv_aload_n hx hb dL_law_1083 rfl (lv_at hl 1 rfl) ?_
  refine lv_iload hx hb dL_law_1084 (lv_at hl 6 rfl) ?_
  refine lv_iconst (v := 1) hx hb dL_law_1086 (by decide) ?_
  refine lv_iadd hx hb dL_law_1087 ?_
  refine va_sld hx hb hXs hbl hbA hw.2.2.2.1 (hix 1 (by decide)) dL_law_1088 ?_
  refine lv_aload_n hx hb dL_law_1089 rfl (lv_at hl 1 rfl) ?_
  refine lv_iload hx hb dL_law_1090 (lv_at hl 6 rfl) ?_
  refine lv_iconst (v := 2) hx hb dL_law_1092 (by decide) ?_
  refine lv_iadd hx hb dL_law_1093 ?_
  refine va_sld hx hb hXs hbl hbA hw.2.2.2.1 (hix 2 (by decide)) dL_law_1094 ?_
  refine z_callV (As := [.int (xs (Int32.toNatClampNeg (i + 1))), .int (xs (Int32.toNatClampNeg (i + 2)))]) (rest := []) ⟨hx, hb, hml, hown, hts⟩ hw hX (hE1.1 0 (by decide)) rfl (c_X2_endAt l g am L1 f1 σ bs th (xs (Int32.toNatClampNeg (i + 1))) (xs (Int32.toNatClampNeg (i + 2))) ⟨hE1, fun _ _ => rfl⟩ hI) (cwV 2 hts gL_law_X2_endAt rfl rfl rfl (by decide +kernel) ⟨Nat.le_trans (Nat.le_of_ble_eq_true rfl) hRf, Nat.le_trans (Nat.le_of_ble_eq_true rfl) hRl⟩) rfl hl.1 rfl (Nat.le_of_ble_eq_true rfl) dL_law_1095 ⟨by omega, by omega⟩ (fun _ _ _ _ _ _ _ hp => False.elim hp) (fun r9 L2 f2 H locs hp hw => ?_)
  obtain ⟨rfl, b9, bs9, rfl, hm9, hb9⟩ := hp
  have ho1 : zc L1 f2 o1 (.inl (g.2 1, 1, .inr (.inl F1))) := ⟨zHC_in hH1 zPm_1, (hm9.2 _ (fun k hk e => hn1 k hk e.symm)).trans hF1⟩
  have ho2 : zc L1 f2 o2 (.inl (g.2 3, 1, .inr (.inr (.inr (.inl D))))) := ⟨zHC_in hH1 zPm_2, (hm9.2 _ (fun k hk e => hn2 k hk e.symm)).trans ((hfr1 _ zPm_2 (Ne.symm hn12)).trans h20.2)⟩
  have hH2 := zHC_mod hH1 hm9.2
  refine W.eq (g2 := F0 m 1098 ls [.int b9]) rfl ?_
  refine lv_istore (lv' := [(7, .int b9), (6, .int (o_endAt σ (xs (Int32.toNatClampNeg (i + 1))) (xs (Int32.toNatClampNeg (i + 2)))).1), (0, .ref b), (1, .ref h), (2, .ref (am 0)), (3, .ref o1), (4, .ref o2), (5, .int i)]) hx hb dL_law_1098 hl (by decide) rfl (fun ls hl => ?_)
  refine lv_aload_n hx hb dL_law_1100 rfl (lv_at hl 4 rfl) ?_
  refine z_callV (As := []) (rest := []) ⟨hx, hb, hml, hown, hts⟩ hw hX (hm9.1.1 0 (by decide)) rfl (c_X2_thrown l g am L1 f2 (o_endAt σ (xs (Int32.toNatClampNeg (i + 1))) (xs (Int32.toNatClampNeg (i + 2)))).2.2 bs9 (o_endAt σ (xs (Int32.toNatClampNeg (i + 1))) (xs (Int32.toNatClampNeg (i + 2)))).1 hm9.rf) (cwV 0 hts gL_law_X2_thrown rfl rfl rfl (by decide +kernel) ⟨Nat.le_trans (Nat.le_of_ble_eq_true rfl) hRf, Nat.le_trans (Nat.le_of_ble_eq_true rfl) hRl⟩) rfl hl.1 rfl (Nat.le_of_ble_eq_true rfl) dL_law_1101 ⟨by omega, by omega⟩ (fun _ _ _ _ _ _ _ hp => False.elim hp) (fun r9 L3 f3 H locs hp hw => ?_)
  obtain ⟨rfl, rfl, rfl⟩ := hp
  refine W.eq (g2 := F0 m 1104 ls [.int (o_endAt σ (xs (Int32.toNatClampNeg (i + 1))) (xs (Int32.toNatClampNeg (i + 2)))).1]) rfl ?_
  refine lv_iload hx hb dL_law_1104 (lv_at hl 1 rfl) ?_
  refine lv_icmp_eq (tgt := 1111) hx hb dL_law_1106 (by decide) (fun _ => ?_) (fun c => absurd rfl c)
  refine lv_iload hx hb dL_law_1111 (lv_at hl 1 rfl) ?_
  refine lv_if_ne (tgt := 1128) hx hb dL_law_1113 (by decide) (fun c_1 => ?_) (fun c_1 => ?_)
  · refine lv_goto (tgt := 2828) hx hb dL_law_1128 (by decide) ?_
    refine W.widen (k := cells + 60) (n := slots + 1000) (by omega) (by omega) ?_
    have hl := lv_sub hl (l' := [(0, .ref b), (1, .ref h), (2, .ref (am 0)), (3, .ref o1), (4, .ref o2), (5, .int i)]) [2, 3, 4, 5, 6, 7] rfl
    exact hback _ _ _ _ _ _ ⟨_, _, _, _, hH2, hm9.1, ho1, ho2⟩ hw hl
  · refine lv_aload_n hx hb dL_law_1116 rfl (lv_at hl 5 rfl) ?_
    refine lv_iconst (v := 0) hx hb dL_law_1117 (by decide) ?_
    refine zr_lald hx hb hw ho1 (vp_in_iff.mpr (by decide)) dL_law_1118 ?_
    refine lv_iload hx hb dL_law_1119 (lv_at hl 0 rfl) ?_
    refine lv_i2l (v := b9.toInt64) hx hb dL_law_1121 rfl ?_
    refine W.lcmp hx hb dL_law_1122 ?_
    have hq_2 : (lg_cmp (F1 (Int32.toNatClampNeg 0)) b9.toInt64) = 0 := zcmp0.mpr (by rw [hb9 c_1]; exact hv1 c_1)
    refine lv_if_eq (tgt := 1128) hx hb dL_law_1123 (by decide) (fun c_3 => ?_) (fun c_3 => absurd hq_2 c_3)
    refine lv_goto (tgt := 2828) hx hb dL_law_1128 (by decide) ?_
    refine W.widen (k := cells + 60) (n := slots + 1000) (by omega) (by omega) ?_
    have hl := lv_sub hl (l' := [(0, .ref b), (1, .ref h), (2, .ref (am 0)), (3, .ref o1), (4, .ref o2), (5, .int i)]) [2, 3, 4, 5, 6, 7] rfl
    exact hback _ _ _ _ _ _ ⟨_, _, _, _, hH2, hm9.1, ho1, ho2⟩ hw hl

set_option maxRecDepth 100000 in
set_option maxHeartbeats 4000000 in
theorem k_law_14 {p : Program} {l : Launch} {e : Env} {R : Room} {s : State} {m : MethodId} {args : Array Value} {below : List Frame} {meth : Method} {c : Code} {H : Heap} {locs : List Loc} {cells slots : Nat} {Q : State → Prop} {ls : Array Slot} {g : zG} {A : Nat → Prop} {L : List Nat} {f : Nat → va_E} {am : Nat → Nat} {h o1 o2 b N : Nat} {σ : ZS} {xs : Nat → Int32} {i : Int32}
    (hx : p.tables.exec = Jvm.exec) (hb : c.code = cL_law) (hml : c.maxLocals = 9) (hown : s.vm.findClass RL = some m.cls) (hts : ∀ w ∈ wsL_law, w.before args s = true) (hl0 : l.stackTraces = false) (hw : zW g A s L f H locs) (hX : zX A s s.heap) (hXs : va_X b N xs s s.heap) (hbl : b < s.heap.size) (hbA : ¬ A b) (hRf : 20 ≤ R.frames) (hRl : 1000 ≤ R.locals) (hRc : cells + 60 ≤ R.cells) (hRs : slots + 1000 ≤ R.slots) (hJ : zLw g h am o1 o2 σ L f) (hix : ∀ j : Nat, j < 7 → vp_in (i + nI j) N) (hl : lv_has ls 9 [(0, .ref b), (1, .ref h), (2, .ref (am 0)), (3, .ref o1), (4, .ref o2), (5, .int i)])
    (hback : ∀ (σ1 : ZS) (L1 : List Nat) (f1 : Nat → va_E) (H1 : Heap) (locs1 : List Loc) (ls1 : Array Slot), zLw g h am o1 o2 σ1 L1 f1 → zW g A s L1 f1 H1 locs1 → lv_has ls1 9 [(0, .ref b), (1, .ref h), (2, .ref (am 0)), (3, .ref o1), (4, .ref o2), (5, .int i)] → W p l e R s m args below meth c H1 locs1 (cells + 60) (slots + 1000) Q (F0 m 2828 ls1 [])) : W p l e R s m args below meth c H locs cells slots Q (F0 m 1131 ls []) := by
  obtain ⟨bs, th, F, D, hH, hE, h10, h20⟩ := hJ
  obtain ⟨ln, kd, hI⟩ := zHC_I hH
  obtain ⟨fs9, hcb⟩ := zHC_obj hH
  have hn1 := zMe_ne1 hE h10
  have hn2 := zMe_ne2 hE h20
  have hn12 := zo_ne h10 h20
  refine lv_aload_n hx hb dL_law_1131 rfl (lv_at hl 1 rfl) ?_
  refine lv_aload_n hx hb dL_law_1132 rfl (lv_at hl 0 rfl) ?_
  refine lv_iload hx hb dL_law_1133 (lv_at hl 5 rfl) ?_
  refine lv_iconst (v := 1) hx hb dL_law_1135 (by decide) ?_
  refine lv_iadd hx hb dL_law_1136 ?_
  refine va_sld hx hb hXs hbl hbA hw.2.2.2.1 (hix 1 (by decide)) dL_law_1137 ?_
  refine lv_aload_n hx hb dL_law_1138 rfl (lv_at hl 3 rfl) ?_
  refine z_callSX (As := [.ref h, .int (xs (Int32.toNatClampNeg (i + 1))), .ref o1]) (rest := []) ⟨hx, hb, hml, hown, hts⟩ hw hX (c_L_mark l hl0 g L f h (zPm am o1 o2) σ (xs (Int32.toNatClampNeg (i + 1))) o1 F hH h10 zPm_1) (vx_cwSW 3 hts gL_law_L_mark rfl rfl rfl (by decide +kernel) ⟨Nat.le_trans (Nat.le_of_ble_eq_true rfl) hRf, Nat.le_trans (Nat.le_of_ble_eq_true rfl) hRl⟩) rfl hl.1 rfl (Nat.le_of_ble_eq_true rfl) dL_law_1139 ⟨by omega, by omega⟩ (fun _ _ _ _ _ _ _ hp => False.elim hp) (fun r9 L1 f1 H locs hp hw => ?_)
  obtain ⟨rfl, hH1, ⟨F1, hF1, hv1⟩, hfr1⟩ := hp
  have hE1 := zMe_kept hE hH1 (fun k hk => hfr1 _ (zPm_m hk) (hn1 k hk))
  refine W.eq (g2 := F0 m 1142 ls [.int (o_mark σ (xs (Int32.toNatClampNeg (i + 1)))).1]) rfl ?_
  refine lv_istore (lv' := [(6, .int (o_mark σ (xs (Int32.toNatClampNeg (i + 1)))).1), (0, .ref b), (1, .ref h), (2, .ref (am 0)), (3, .ref o1), (4, .ref o2), (5, .int i)]) hx hb dL_law_1142 hl (by decide) rfl (fun ls hl => ?_)
  refine lv_aload_n hx hb dL_law_1144 rfl (lv_at hl 3 rfl) ?_
  refine lv_aload_n hx hb dL_law_1145 rfl (lv_at hl 1 rfl) ?_
  refine lv_iload hx hb dL_law_1146 (lv_at hl 6 rfl) ?_
  refine lv_iconst (v := 1) hx hb dL_law_1148 (by decide) ?_
  refine lv_iadd hx hb dL_law_1149 ?_
  refine va_sld hx hb hXs hbl hbA hw.2.2.2.1 (hix 1 (by decide)) dL_law_1150 ?_
  refine z_callV (As := [.int (xs (Int32.toNatClampNeg (i + 1)))]) (rest := []) ⟨hx, hb, hml, hown, hts⟩ hw hX (hE1.1 0 (by decide)) rfl (c_X2_mark l g am L1 f1 σ bs th (xs (Int32.toNatClampNeg (i + 1))) ⟨hE1, fun _ _ => rfl⟩ hI) (cwV 1 hts gL_law_X2_mark rfl rfl rfl (by decide +kernel) ⟨Nat.le_trans (Nat.le_of_ble_eq_true rfl) hRf, Nat.le_trans (Nat.le_of_ble_eq_true rfl) hRl⟩) rfl hl.1 rfl (Nat.le_of_ble_eq_true rfl) dL_law_1151 ⟨by omega, by omega⟩ (fun _ _ _ _ _ _ _ hp => False.elim hp) (fun r9 L2 f2 H locs hp hw => ?_)
  obtain ⟨rfl, b9, bs9, rfl, hm9, hb9⟩ := hp
  have ho1 : zc L1 f2 o1 (.inl (g.2 1, 1, .inr (.inl F1))) := ⟨zHC_in hH1 zPm_1, (hm9.2 _ (fun k hk e => hn1 k hk e.symm)).trans hF1⟩
  have ho2 : zc L1 f2 o2 (.inl (g.2 3, 1, .inr (.inr (.inr (.inl D))))) := ⟨zHC_in hH1 zPm_2, (hm9.2 _ (fun k hk e => hn2 k hk e.symm)).trans ((hfr1 _ zPm_2 (Ne.symm hn12)).trans h20.2)⟩
  have hH2 := zHC_mod hH1 hm9.2
  refine W.eq (g2 := F0 m 1154 ls [.int b9]) rfl ?_
  refine lv_istore (lv' := [(7, .int b9), (6, .int (o_mark σ (xs (Int32.toNatClampNeg (i + 1)))).1), (0, .ref b), (1, .ref h), (2, .ref (am 0)), (3, .ref o1), (4, .ref o2), (5, .int i)]) hx hb dL_law_1154 hl (by decide) rfl (fun ls hl => ?_)
  refine lv_aload_n hx hb dL_law_1156 rfl (lv_at hl 4 rfl) ?_
  refine z_callV (As := []) (rest := []) ⟨hx, hb, hml, hown, hts⟩ hw hX (hm9.1.1 0 (by decide)) rfl (c_X2_thrown l g am L1 f2 (o_mark σ (xs (Int32.toNatClampNeg (i + 1)))).2.2 bs9 (o_mark σ (xs (Int32.toNatClampNeg (i + 1)))).1 hm9.rf) (cwV 0 hts gL_law_X2_thrown rfl rfl rfl (by decide +kernel) ⟨Nat.le_trans (Nat.le_of_ble_eq_true rfl) hRf, Nat.le_trans (Nat.le_of_ble_eq_true rfl) hRl⟩) rfl hl.1 rfl (Nat.le_of_ble_eq_true rfl) dL_law_1157 ⟨by omega, by omega⟩ (fun _ _ _ _ _ _ _ hp => False.elim hp) (fun r9 L3 f3 H locs hp hw => ?_)
  obtain ⟨rfl, rfl, rfl⟩ := hp
  refine W.eq (g2 := F0 m 1160 ls [.int (o_mark σ (xs (Int32.toNatClampNeg (i + 1)))).1]) rfl ?_
  refine lv_iload hx hb dL_law_1160 (lv_at hl 1 rfl) ?_
  refine lv_icmp_eq (tgt := 1167) hx hb dL_law_1162 (by decide) (fun _ => ?_) (fun c => absurd rfl c)
  refine lv_iload hx hb dL_law_1167 (lv_at hl 1 rfl) ?_
  refine lv_if_ne (tgt := 1184) hx hb dL_law_1169 (by decide) (fun c_1 => ?_) (fun c_1 => ?_)
  · refine lv_goto (tgt := 2828) hx hb dL_law_1184 (by decide) ?_
    refine W.widen (k := cells + 60) (n := slots + 1000) (by omega) (by omega) ?_
    have hl := lv_sub hl (l' := [(0, .ref b), (1, .ref h), (2, .ref (am 0)), (3, .ref o1), (4, .ref o2), (5, .int i)]) [2, 3, 4, 5, 6, 7] rfl
    exact hback _ _ _ _ _ _ ⟨_, _, _, _, hH2, hm9.1, ho1, ho2⟩ hw hl
  · refine lv_aload_n hx hb dL_law_1172 rfl (lv_at hl 5 rfl) ?_
    refine lv_iconst (v := 0) hx hb dL_law_1173 (by decide) ?_
    refine zr_lald hx hb hw ho1 (vp_in_iff.mpr (by decide)) dL_law_1174 ?_
    refine lv_iload hx hb dL_law_1175 (lv_at hl 0 rfl) ?_
    refine lv_i2l (v := b9.toInt64) hx hb dL_law_1177 rfl ?_
    refine W.lcmp hx hb dL_law_1178 ?_
    have hq_2 : (lg_cmp (F1 (Int32.toNatClampNeg 0)) b9.toInt64) = 0 := zcmp0.mpr (by rw [hb9 c_1]; exact hv1 c_1)
    refine lv_if_eq (tgt := 1184) hx hb dL_law_1179 (by decide) (fun c_3 => ?_) (fun c_3 => absurd hq_2 c_3)
    refine lv_goto (tgt := 2828) hx hb dL_law_1184 (by decide) ?_
    refine W.widen (k := cells + 60) (n := slots + 1000) (by omega) (by omega) ?_
    have hl := lv_sub hl (l' := [(0, .ref b), (1, .ref h), (2, .ref (am 0)), (3, .ref o1), (4, .ref o2), (5, .int i)]) [2, 3, 4, 5, 6, 7] rfl
    exact hback _ _ _ _ _ _ ⟨_, _, _, _, hH2, hm9.1, ho1, ho2⟩ hw hl

set_option maxRecDepth 100000 in
set_option maxHeartbeats 4000000 in
theorem k_law_15 {p : Program} {l : Launch} {e : Env} {R : Room} {s : State} {m : MethodId} {args : Array Value} {below : List Frame} {meth : Method} {c : Code} {H : Heap} {locs : List Loc} {cells slots : Nat} {Q : State → Prop} {ls : Array Slot} {g : zG} {A : Nat → Prop} {L : List Nat} {f : Nat → va_E} {am : Nat → Nat} {h o1 o2 b N : Nat} {σ : ZS} {xs : Nat → Int32} {i : Int32}
    (hx : p.tables.exec = Jvm.exec) (hb : c.code = cL_law) (hml : c.maxLocals = 9) (hown : s.vm.findClass RL = some m.cls) (hts : ∀ w ∈ wsL_law, w.before args s = true) (hl0 : l.stackTraces = false) (hw : zW g A s L f H locs) (hX : zX A s s.heap) (hXs : va_X b N xs s s.heap) (hbl : b < s.heap.size) (hbA : ¬ A b) (hRf : 20 ≤ R.frames) (hRl : 1000 ≤ R.locals) (hRc : cells + 60 ≤ R.cells) (hRs : slots + 1000 ≤ R.slots) (hJ : zLw g h am o1 o2 σ L f) (hix : ∀ j : Nat, j < 7 → vp_in (i + nI j) N) (hl : lv_has ls 9 [(0, .ref b), (1, .ref h), (2, .ref (am 0)), (3, .ref o1), (4, .ref o2), (5, .int i)])
    (hback : ∀ (σ1 : ZS) (L1 : List Nat) (f1 : Nat → va_E) (H1 : Heap) (locs1 : List Loc) (ls1 : Array Slot), zLw g h am o1 o2 σ1 L1 f1 → zW g A s L1 f1 H1 locs1 → lv_has ls1 9 [(0, .ref b), (1, .ref h), (2, .ref (am 0)), (3, .ref o1), (4, .ref o2), (5, .int i)] → W p l e R s m args below meth c H1 locs1 (cells + 60) (slots + 1000) Q (F0 m 2828 ls1 [])) : W p l e R s m args below meth c H locs cells slots Q (F0 m 1187 ls []) := by
  obtain ⟨bs, th, F, D, hH, hE, h10, h20⟩ := hJ
  obtain ⟨ln, kd, hI⟩ := zHC_I hH
  obtain ⟨fs9, hcb⟩ := zHC_obj hH
  have hn1 := zMe_ne1 hE h10
  have hn2 := zMe_ne2 hE h20
  have hn12 := zo_ne h10 h20
  refine lv_aload_n hx hb dL_law_1187 rfl (lv_at hl 1 rfl) ?_
  refine lv_aload_n hx hb dL_law_1188 rfl (lv_at hl 0 rfl) ?_
  refine lv_iload hx hb dL_law_1189 (lv_at hl 5 rfl) ?_
  refine lv_iconst (v := 1) hx hb dL_law_1191 (by decide) ?_
  refine lv_iadd hx hb dL_law_1192 ?_
  refine va_sld hx hb hXs hbl hbA hw.2.2.2.1 (hix 1 (by decide)) dL_law_1193 ?_
  refine lv_aload_n hx hb dL_law_1194 rfl (lv_at hl 3 rfl) ?_
  refine z_callSX (As := [.ref h, .int (xs (Int32.toNatClampNeg (i + 1))), .ref o1]) (rest := []) ⟨hx, hb, hml, hown, hts⟩ hw hX (c_L_back l hl0 g L f h (zPm am o1 o2) σ (xs (Int32.toNatClampNeg (i + 1))) o1 F hH h10 zPm_1) (vx_cwSW 3 hts gL_law_L_back rfl rfl rfl (by decide +kernel) ⟨Nat.le_trans (Nat.le_of_ble_eq_true rfl) hRf, Nat.le_trans (Nat.le_of_ble_eq_true rfl) hRl⟩) rfl hl.1 rfl (Nat.le_of_ble_eq_true rfl) dL_law_1195 ⟨by omega, by omega⟩ (fun _ _ _ _ _ _ _ hp => False.elim hp) (fun r9 L1 f1 H locs hp hw => ?_)
  obtain ⟨rfl, hH1, ⟨F1, hF1, hv1⟩, hfr1⟩ := hp
  have hE1 := zMe_kept hE hH1 (fun k hk => hfr1 _ (zPm_m hk) (hn1 k hk))
  refine W.eq (g2 := F0 m 1198 ls [.int (o_back σ (xs (Int32.toNatClampNeg (i + 1)))).1]) rfl ?_
  refine lv_istore (lv' := [(6, .int (o_back σ (xs (Int32.toNatClampNeg (i + 1)))).1), (0, .ref b), (1, .ref h), (2, .ref (am 0)), (3, .ref o1), (4, .ref o2), (5, .int i)]) hx hb dL_law_1198 hl (by decide) rfl (fun ls hl => ?_)
  refine lv_aload_n hx hb dL_law_1200 rfl (lv_at hl 3 rfl) ?_
  refine lv_aload_n hx hb dL_law_1201 rfl (lv_at hl 1 rfl) ?_
  refine lv_iload hx hb dL_law_1202 (lv_at hl 6 rfl) ?_
  refine lv_iconst (v := 1) hx hb dL_law_1204 (by decide) ?_
  refine lv_iadd hx hb dL_law_1205 ?_
  refine va_sld hx hb hXs hbl hbA hw.2.2.2.1 (hix 1 (by decide)) dL_law_1206 ?_
  refine z_callV (As := [.int (xs (Int32.toNatClampNeg (i + 1)))]) (rest := []) ⟨hx, hb, hml, hown, hts⟩ hw hX (hE1.1 0 (by decide)) rfl (c_X2_back l g am L1 f1 σ bs th (xs (Int32.toNatClampNeg (i + 1))) ⟨hE1, fun _ _ => rfl⟩ hI) (cwV 1 hts gL_law_X2_back rfl rfl rfl (by decide +kernel) ⟨Nat.le_trans (Nat.le_of_ble_eq_true rfl) hRf, Nat.le_trans (Nat.le_of_ble_eq_true rfl) hRl⟩) rfl hl.1 rfl (Nat.le_of_ble_eq_true rfl) dL_law_1207 ⟨by omega, by omega⟩ (fun _ _ _ _ _ _ _ hp => False.elim hp) (fun r9 L2 f2 H locs hp hw => ?_)
  obtain ⟨rfl, b9, bs9, rfl, hm9, hb9⟩ := hp
  have ho1 : zc L1 f2 o1 (.inl (g.2 1, 1, .inr (.inl F1))) := ⟨zHC_in hH1 zPm_1, (hm9.2 _ (fun k hk e => hn1 k hk e.symm)).trans hF1⟩
  have ho2 : zc L1 f2 o2 (.inl (g.2 3, 1, .inr (.inr (.inr (.inl D))))) := ⟨zHC_in hH1 zPm_2, (hm9.2 _ (fun k hk e => hn2 k hk e.symm)).trans ((hfr1 _ zPm_2 (Ne.symm hn12)).trans h20.2)⟩
  have hH2 := zHC_mod hH1 hm9.2
  refine W.eq (g2 := F0 m 1210 ls [.int b9]) rfl ?_
  refine lv_istore (lv' := [(7, .int b9), (6, .int (o_back σ (xs (Int32.toNatClampNeg (i + 1)))).1), (0, .ref b), (1, .ref h), (2, .ref (am 0)), (3, .ref o1), (4, .ref o2), (5, .int i)]) hx hb dL_law_1210 hl (by decide) rfl (fun ls hl => ?_)
  refine lv_aload_n hx hb dL_law_1212 rfl (lv_at hl 4 rfl) ?_
  refine z_callV (As := []) (rest := []) ⟨hx, hb, hml, hown, hts⟩ hw hX (hm9.1.1 0 (by decide)) rfl (c_X2_thrown l g am L1 f2 (o_back σ (xs (Int32.toNatClampNeg (i + 1)))).2.2 bs9 (o_back σ (xs (Int32.toNatClampNeg (i + 1)))).1 hm9.rf) (cwV 0 hts gL_law_X2_thrown rfl rfl rfl (by decide +kernel) ⟨Nat.le_trans (Nat.le_of_ble_eq_true rfl) hRf, Nat.le_trans (Nat.le_of_ble_eq_true rfl) hRl⟩) rfl hl.1 rfl (Nat.le_of_ble_eq_true rfl) dL_law_1213 ⟨by omega, by omega⟩ (fun _ _ _ _ _ _ _ hp => False.elim hp) (fun r9 L3 f3 H locs hp hw => ?_)
  obtain ⟨rfl, rfl, rfl⟩ := hp
  refine W.eq (g2 := F0 m 1216 ls [.int (o_back σ (xs (Int32.toNatClampNeg (i + 1)))).1]) rfl ?_
  refine lv_iload hx hb dL_law_1216 (lv_at hl 1 rfl) ?_
  refine lv_icmp_eq (tgt := 1223) hx hb dL_law_1218 (by decide) (fun _ => ?_) (fun c => absurd rfl c)
  refine lv_iload hx hb dL_law_1223 (lv_at hl 1 rfl) ?_
  refine lv_if_ne (tgt := 1240) hx hb dL_law_1225 (by decide) (fun c_1 => ?_) (fun c_1 => ?_)
  · refine lv_goto (tgt := 2828) hx hb dL_law_1240 (by decide) ?_
    refine W.widen (k := cells + 60) (n := slots + 1000) (by omega) (by omega) ?_
    have hl := lv_sub hl (l' := [(0, .ref b), (1, .ref h), (2, .ref (am 0)), (3, .ref o1), (4, .ref o2), (5, .int i)]) [2, 3, 4, 5, 6, 7] rfl
    exact hback _ _ _ _ _ _ ⟨_, _, _, _, hH2, hm9.1, ho1, ho2⟩ hw hl
  · refine lv_aload_n hx hb dL_law_1228 rfl (lv_at hl 5 rfl) ?_
    refine lv_iconst (v := 0) hx hb dL_law_1229 (by decide) ?_
    refine zr_lald hx hb hw ho1 (vp_in_iff.mpr (by decide)) dL_law_1230 ?_
    refine lv_iload hx hb dL_law_1231 (lv_at hl 0 rfl) ?_
    refine lv_i2l (v := b9.toInt64) hx hb dL_law_1233 rfl ?_
    refine W.lcmp hx hb dL_law_1234 ?_
    have hq_2 : (lg_cmp (F1 (Int32.toNatClampNeg 0)) b9.toInt64) = 0 := zcmp0.mpr (by rw [hb9 c_1]; exact hv1 c_1)
    refine lv_if_eq (tgt := 1240) hx hb dL_law_1235 (by decide) (fun c_3 => ?_) (fun c_3 => absurd hq_2 c_3)
    refine lv_goto (tgt := 2828) hx hb dL_law_1240 (by decide) ?_
    refine W.widen (k := cells + 60) (n := slots + 1000) (by omega) (by omega) ?_
    have hl := lv_sub hl (l' := [(0, .ref b), (1, .ref h), (2, .ref (am 0)), (3, .ref o1), (4, .ref o2), (5, .int i)]) [2, 3, 4, 5, 6, 7] rfl
    exact hback _ _ _ _ _ _ ⟨_, _, _, _, hH2, hm9.1, ho1, ho2⟩ hw hl

set_option maxRecDepth 100000 in
set_option maxHeartbeats 4000000 in
theorem k_law_16 {p : Program} {l : Launch} {e : Env} {R : Room} {s : State} {m : MethodId} {args : Array Value} {below : List Frame} {meth : Method} {c : Code} {H : Heap} {locs : List Loc} {cells slots : Nat} {Q : State → Prop} {ls : Array Slot} {g : zG} {A : Nat → Prop} {L : List Nat} {f : Nat → va_E} {am : Nat → Nat} {h o1 o2 b N : Nat} {σ : ZS} {xs : Nat → Int32} {i : Int32}
    (hx : p.tables.exec = Jvm.exec) (hb : c.code = cL_law) (hml : c.maxLocals = 9) (hown : s.vm.findClass RL = some m.cls) (hts : ∀ w ∈ wsL_law, w.before args s = true) (hl0 : l.stackTraces = false) (hw : zW g A s L f H locs) (hX : zX A s s.heap) (hXs : va_X b N xs s s.heap) (hbl : b < s.heap.size) (hbA : ¬ A b) (hRf : 20 ≤ R.frames) (hRl : 1000 ≤ R.locals) (hRc : cells + 60 ≤ R.cells) (hRs : slots + 1000 ≤ R.slots) (hJ : zLw g h am o1 o2 σ L f) (hix : ∀ j : Nat, j < 7 → vp_in (i + nI j) N) (hl : lv_has ls 9 [(0, .ref b), (1, .ref h), (2, .ref (am 0)), (3, .ref o1), (4, .ref o2), (5, .int i)])
    (hback : ∀ (σ1 : ZS) (L1 : List Nat) (f1 : Nat → va_E) (H1 : Heap) (locs1 : List Loc) (ls1 : Array Slot), zLw g h am o1 o2 σ1 L1 f1 → zW g A s L1 f1 H1 locs1 → lv_has ls1 9 [(0, .ref b), (1, .ref h), (2, .ref (am 0)), (3, .ref o1), (4, .ref o2), (5, .int i)] → W p l e R s m args below meth c H1 locs1 (cells + 60) (slots + 1000) Q (F0 m 2828 ls1 [])) : W p l e R s m args below meth c H locs cells slots Q (F0 m 1243 ls []) := by
  obtain ⟨bs, th, F, D, hH, hE, h10, h20⟩ := hJ
  obtain ⟨ln, kd, hI⟩ := zHC_I hH
  obtain ⟨fs9, hcb⟩ := zHC_obj hH
  have hn1 := zMe_ne1 hE h10
  have hn2 := zMe_ne2 hE h20
  have hn12 := zo_ne h10 h20
  refine lv_aload_n hx hb dL_law_1243 rfl (lv_at hl 1 rfl) ?_
  refine lv_aload_n hx hb dL_law_1244 rfl (lv_at hl 0 rfl) ?_
  refine lv_iload hx hb dL_law_1245 (lv_at hl 5 rfl) ?_
  refine lv_iconst (v := 1) hx hb dL_law_1247 (by decide) ?_
  refine lv_iadd hx hb dL_law_1248 ?_
  refine va_sld hx hb hXs hbl hbA hw.2.2.2.1 (hix 1 (by decide)) dL_law_1249 ?_
  refine lv_aload_n hx hb dL_law_1250 rfl (lv_at hl 3 rfl) ?_
  refine z_callSX (As := [.ref h, .int (xs (Int32.toNatClampNeg (i + 1))), .ref o1]) (rest := []) ⟨hx, hb, hml, hown, hts⟩ hw hX (c_L_clear l hl0 g L f h (zPm am o1 o2) σ (xs (Int32.toNatClampNeg (i + 1))) o1 F hH h10 zPm_1) (vx_cwSW 3 hts gL_law_L_clear rfl rfl rfl (by decide +kernel) ⟨Nat.le_trans (Nat.le_of_ble_eq_true rfl) hRf, Nat.le_trans (Nat.le_of_ble_eq_true rfl) hRl⟩) rfl hl.1 rfl (Nat.le_of_ble_eq_true rfl) dL_law_1251 ⟨by omega, by omega⟩ (fun _ _ _ _ _ _ _ hp => False.elim hp) (fun r9 L1 f1 H locs hp hw => ?_)
  obtain ⟨rfl, hH1, ⟨F1, hF1, hv1⟩, hfr1⟩ := hp
  have hE1 := zMe_kept hE hH1 (fun k hk => hfr1 _ (zPm_m hk) (hn1 k hk))
  refine W.eq (g2 := F0 m 1254 ls [.int (o_clear σ (xs (Int32.toNatClampNeg (i + 1)))).1]) rfl ?_
  refine lv_istore (lv' := [(6, .int (o_clear σ (xs (Int32.toNatClampNeg (i + 1)))).1), (0, .ref b), (1, .ref h), (2, .ref (am 0)), (3, .ref o1), (4, .ref o2), (5, .int i)]) hx hb dL_law_1254 hl (by decide) rfl (fun ls hl => ?_)
  refine lv_aload_n hx hb dL_law_1256 rfl (lv_at hl 3 rfl) ?_
  refine lv_aload_n hx hb dL_law_1257 rfl (lv_at hl 1 rfl) ?_
  refine lv_iload hx hb dL_law_1258 (lv_at hl 6 rfl) ?_
  refine lv_iconst (v := 1) hx hb dL_law_1260 (by decide) ?_
  refine lv_iadd hx hb dL_law_1261 ?_
  refine va_sld hx hb hXs hbl hbA hw.2.2.2.1 (hix 1 (by decide)) dL_law_1262 ?_
  refine z_callV (As := [.int (xs (Int32.toNatClampNeg (i + 1)))]) (rest := []) ⟨hx, hb, hml, hown, hts⟩ hw hX (hE1.1 0 (by decide)) rfl (c_X2_clear l g am L1 f1 σ bs th (xs (Int32.toNatClampNeg (i + 1))) ⟨hE1, fun _ _ => rfl⟩ hI) (cwV 1 hts gL_law_X2_clear rfl rfl rfl (by decide +kernel) ⟨Nat.le_trans (Nat.le_of_ble_eq_true rfl) hRf, Nat.le_trans (Nat.le_of_ble_eq_true rfl) hRl⟩) rfl hl.1 rfl (Nat.le_of_ble_eq_true rfl) dL_law_1263 ⟨by omega, by omega⟩ (fun _ _ _ _ _ _ _ hp => False.elim hp) (fun r9 L2 f2 H locs hp hw => ?_)
  obtain ⟨rfl, b9, bs9, rfl, hm9, hb9⟩ := hp
  have ho1 : zc L1 f2 o1 (.inl (g.2 1, 1, .inr (.inl F1))) := ⟨zHC_in hH1 zPm_1, (hm9.2 _ (fun k hk e => hn1 k hk e.symm)).trans hF1⟩
  have ho2 : zc L1 f2 o2 (.inl (g.2 3, 1, .inr (.inr (.inr (.inl D))))) := ⟨zHC_in hH1 zPm_2, (hm9.2 _ (fun k hk e => hn2 k hk e.symm)).trans ((hfr1 _ zPm_2 (Ne.symm hn12)).trans h20.2)⟩
  have hH2 := zHC_mod hH1 hm9.2
  refine W.eq (g2 := F0 m 1266 ls [.int b9]) rfl ?_
  refine lv_istore (lv' := [(7, .int b9), (6, .int (o_clear σ (xs (Int32.toNatClampNeg (i + 1)))).1), (0, .ref b), (1, .ref h), (2, .ref (am 0)), (3, .ref o1), (4, .ref o2), (5, .int i)]) hx hb dL_law_1266 hl (by decide) rfl (fun ls hl => ?_)
  refine lv_aload_n hx hb dL_law_1268 rfl (lv_at hl 4 rfl) ?_
  refine z_callV (As := []) (rest := []) ⟨hx, hb, hml, hown, hts⟩ hw hX (hm9.1.1 0 (by decide)) rfl (c_X2_thrown l g am L1 f2 (o_clear σ (xs (Int32.toNatClampNeg (i + 1)))).2.2 bs9 (o_clear σ (xs (Int32.toNatClampNeg (i + 1)))).1 hm9.rf) (cwV 0 hts gL_law_X2_thrown rfl rfl rfl (by decide +kernel) ⟨Nat.le_trans (Nat.le_of_ble_eq_true rfl) hRf, Nat.le_trans (Nat.le_of_ble_eq_true rfl) hRl⟩) rfl hl.1 rfl (Nat.le_of_ble_eq_true rfl) dL_law_1269 ⟨by omega, by omega⟩ (fun _ _ _ _ _ _ _ hp => False.elim hp) (fun r9 L3 f3 H locs hp hw => ?_)
  obtain ⟨rfl, rfl, rfl⟩ := hp
  refine W.eq (g2 := F0 m 1272 ls [.int (o_clear σ (xs (Int32.toNatClampNeg (i + 1)))).1]) rfl ?_
  refine lv_iload hx hb dL_law_1272 (lv_at hl 1 rfl) ?_
  refine lv_icmp_eq (tgt := 1279) hx hb dL_law_1274 (by decide) (fun _ => ?_) (fun c => absurd rfl c)
  refine lv_iload hx hb dL_law_1279 (lv_at hl 1 rfl) ?_
  refine lv_if_ne (tgt := 1296) hx hb dL_law_1281 (by decide) (fun c_1 => ?_) (fun c_1 => ?_)
  · refine lv_goto (tgt := 2828) hx hb dL_law_1296 (by decide) ?_
    refine W.widen (k := cells + 60) (n := slots + 1000) (by omega) (by omega) ?_
    have hl := lv_sub hl (l' := [(0, .ref b), (1, .ref h), (2, .ref (am 0)), (3, .ref o1), (4, .ref o2), (5, .int i)]) [2, 3, 4, 5, 6, 7] rfl
    exact hback _ _ _ _ _ _ ⟨_, _, _, _, hH2, hm9.1, ho1, ho2⟩ hw hl
  · refine lv_aload_n hx hb dL_law_1284 rfl (lv_at hl 5 rfl) ?_
    refine lv_iconst (v := 0) hx hb dL_law_1285 (by decide) ?_
    refine zr_lald hx hb hw ho1 (vp_in_iff.mpr (by decide)) dL_law_1286 ?_
    refine lv_iload hx hb dL_law_1287 (lv_at hl 0 rfl) ?_
    refine lv_i2l (v := b9.toInt64) hx hb dL_law_1289 rfl ?_
    refine W.lcmp hx hb dL_law_1290 ?_
    have hq_2 : (lg_cmp (F1 (Int32.toNatClampNeg 0)) b9.toInt64) = 0 := zcmp0.mpr (by rw [hb9 c_1]; exact hv1 c_1)
    refine lv_if_eq (tgt := 1296) hx hb dL_law_1291 (by decide) (fun c_3 => ?_) (fun c_3 => absurd hq_2 c_3)
    refine lv_goto (tgt := 2828) hx hb dL_law_1296 (by decide) ?_
    refine W.widen (k := cells + 60) (n := slots + 1000) (by omega) (by omega) ?_
    have hl := lv_sub hl (l' := [(0, .ref b), (1, .ref h), (2, .ref (am 0)), (3, .ref o1), (4, .ref o2), (5, .int i)]) [2, 3, 4, 5, 6, 7] rfl
    exact hback _ _ _ _ _ _ ⟨_, _, _, _, hH2, hm9.1, ho1, ho2⟩ hw hl

set_option maxRecDepth 100000 in
set_option maxHeartbeats 4000000 in
theorem k_law_17 {p : Program} {l : Launch} {e : Env} {R : Room} {s : State} {m : MethodId} {args : Array Value} {below : List Frame} {meth : Method} {c : Code} {H : Heap} {locs : List Loc} {cells slots : Nat} {Q : State → Prop} {ls : Array Slot} {g : zG} {A : Nat → Prop} {L : List Nat} {f : Nat → va_E} {am : Nat → Nat} {h o1 o2 b N : Nat} {σ : ZS} {xs : Nat → Int32} {i : Int32}
    (hx : p.tables.exec = Jvm.exec) (hb : c.code = cL_law) (hml : c.maxLocals = 9) (hown : s.vm.findClass RL = some m.cls) (hts : ∀ w ∈ wsL_law, w.before args s = true) (hl0 : l.stackTraces = false) (hw : zW g A s L f H locs) (hX : zX A s s.heap) (hXs : va_X b N xs s s.heap) (hbl : b < s.heap.size) (hbA : ¬ A b) (hRf : 20 ≤ R.frames) (hRl : 1000 ≤ R.locals) (hRc : cells + 60 ≤ R.cells) (hRs : slots + 1000 ≤ R.slots) (hJ : zLw g h am o1 o2 σ L f) (hix : ∀ j : Nat, j < 7 → vp_in (i + nI j) N) (hl : lv_has ls 9 [(0, .ref b), (1, .ref h), (2, .ref (am 0)), (3, .ref o1), (4, .ref o2), (5, .int i)])
    (hback : ∀ (σ1 : ZS) (L1 : List Nat) (f1 : Nat → va_E) (H1 : Heap) (locs1 : List Loc) (ls1 : Array Slot), zLw g h am o1 o2 σ1 L1 f1 → zW g A s L1 f1 H1 locs1 → lv_has ls1 9 [(0, .ref b), (1, .ref h), (2, .ref (am 0)), (3, .ref o1), (4, .ref o2), (5, .int i)] → W p l e R s m args below meth c H1 locs1 (cells + 60) (slots + 1000) Q (F0 m 2828 ls1 [])) : W p l e R s m args below meth c H locs cells slots Q (F0 m 1299 ls []) := by
  obtain ⟨bs, th, F, D, hH, hE, h10, h20⟩ := hJ
  obtain ⟨ln, kd, hI⟩ := zHC_I hH
  obtain ⟨fs9, hcb⟩ := zHC_obj hH
  have hn1 := zMe_ne1 hE h10
  have hn2 := zMe_ne2 hE h20
  have hn12 := zo_ne h10 h20
  refine lv_aload_n hx hb dL_law_1299 rfl (lv_at hl 1 rfl) ?_
  refine lv_aload_n hx hb dL_law_1300 rfl (lv_at hl 0 rfl) ?_
  refine lv_iload hx hb dL_law_1301 (lv_at hl 5 rfl) ?_
  refine lv_iconst (v := 1) hx hb dL_law_1303 (by decide) ?_
  refine lv_iadd hx hb dL_law_1304 ?_
  refine va_sld hx hb hXs hbl hbA hw.2.2.2.1 (hix 1 (by decide)) dL_law_1305 ?_
  refine lv_aload_n hx hb dL_law_1306 rfl (lv_at hl 3 rfl) ?_
  refine z_callSX (As := [.ref h, .int (xs (Int32.toNatClampNeg (i + 1))), .ref o1]) (rest := []) ⟨hx, hb, hml, hown, hts⟩ hw hX (c_L_flip l hl0 g L f h (zPm am o1 o2) σ (xs (Int32.toNatClampNeg (i + 1))) o1 F hH h10 zPm_1) (vx_cwSW 3 hts gL_law_L_flip rfl rfl rfl (by decide +kernel) ⟨Nat.le_trans (Nat.le_of_ble_eq_true rfl) hRf, Nat.le_trans (Nat.le_of_ble_eq_true rfl) hRl⟩) rfl hl.1 rfl (Nat.le_of_ble_eq_true rfl) dL_law_1307 ⟨by omega, by omega⟩ (fun _ _ _ _ _ _ _ hp => False.elim hp) (fun r9 L1 f1 H locs hp hw => ?_)
  obtain ⟨rfl, hH1, ⟨F1, hF1, hv1⟩, hfr1⟩ := hp
  have hE1 := zMe_kept hE hH1 (fun k hk => hfr1 _ (zPm_m hk) (hn1 k hk))
  refine W.eq (g2 := F0 m 1310 ls [.int (o_flip σ (xs (Int32.toNatClampNeg (i + 1)))).1]) rfl ?_
  refine lv_istore (lv' := [(6, .int (o_flip σ (xs (Int32.toNatClampNeg (i + 1)))).1), (0, .ref b), (1, .ref h), (2, .ref (am 0)), (3, .ref o1), (4, .ref o2), (5, .int i)]) hx hb dL_law_1310 hl (by decide) rfl (fun ls hl => ?_)
  refine lv_aload_n hx hb dL_law_1312 rfl (lv_at hl 3 rfl) ?_
  refine lv_aload_n hx hb dL_law_1313 rfl (lv_at hl 1 rfl) ?_
  refine lv_iload hx hb dL_law_1314 (lv_at hl 6 rfl) ?_
  refine lv_iconst (v := 1) hx hb dL_law_1316 (by decide) ?_
  refine lv_iadd hx hb dL_law_1317 ?_
  refine va_sld hx hb hXs hbl hbA hw.2.2.2.1 (hix 1 (by decide)) dL_law_1318 ?_
  refine z_callV (As := [.int (xs (Int32.toNatClampNeg (i + 1)))]) (rest := []) ⟨hx, hb, hml, hown, hts⟩ hw hX (hE1.1 0 (by decide)) rfl (c_X2_flip l g am L1 f1 σ bs th (xs (Int32.toNatClampNeg (i + 1))) ⟨hE1, fun _ _ => rfl⟩ hI) (cwV 1 hts gL_law_X2_flip rfl rfl rfl (by decide +kernel) ⟨Nat.le_trans (Nat.le_of_ble_eq_true rfl) hRf, Nat.le_trans (Nat.le_of_ble_eq_true rfl) hRl⟩) rfl hl.1 rfl (Nat.le_of_ble_eq_true rfl) dL_law_1319 ⟨by omega, by omega⟩ (fun _ _ _ _ _ _ _ hp => False.elim hp) (fun r9 L2 f2 H locs hp hw => ?_)
  obtain ⟨rfl, b9, bs9, rfl, hm9, hb9⟩ := hp
  have ho1 : zc L1 f2 o1 (.inl (g.2 1, 1, .inr (.inl F1))) := ⟨zHC_in hH1 zPm_1, (hm9.2 _ (fun k hk e => hn1 k hk e.symm)).trans hF1⟩
  have ho2 : zc L1 f2 o2 (.inl (g.2 3, 1, .inr (.inr (.inr (.inl D))))) := ⟨zHC_in hH1 zPm_2, (hm9.2 _ (fun k hk e => hn2 k hk e.symm)).trans ((hfr1 _ zPm_2 (Ne.symm hn12)).trans h20.2)⟩
  have hH2 := zHC_mod hH1 hm9.2
  refine W.eq (g2 := F0 m 1322 ls [.int b9]) rfl ?_
  refine lv_istore (lv' := [(7, .int b9), (6, .int (o_flip σ (xs (Int32.toNatClampNeg (i + 1)))).1), (0, .ref b), (1, .ref h), (2, .ref (am 0)), (3, .ref o1), (4, .ref o2), (5, .int i)]) hx hb dL_law_1322 hl (by decide) rfl (fun ls hl => ?_)
  refine lv_aload_n hx hb dL_law_1324 rfl (lv_at hl 4 rfl) ?_
  refine z_callV (As := []) (rest := []) ⟨hx, hb, hml, hown, hts⟩ hw hX (hm9.1.1 0 (by decide)) rfl (c_X2_thrown l g am L1 f2 (o_flip σ (xs (Int32.toNatClampNeg (i + 1)))).2.2 bs9 (o_flip σ (xs (Int32.toNatClampNeg (i + 1)))).1 hm9.rf) (cwV 0 hts gL_law_X2_thrown rfl rfl rfl (by decide +kernel) ⟨Nat.le_trans (Nat.le_of_ble_eq_true rfl) hRf, Nat.le_trans (Nat.le_of_ble_eq_true rfl) hRl⟩) rfl hl.1 rfl (Nat.le_of_ble_eq_true rfl) dL_law_1325 ⟨by omega, by omega⟩ (fun _ _ _ _ _ _ _ hp => False.elim hp) (fun r9 L3 f3 H locs hp hw => ?_)
  obtain ⟨rfl, rfl, rfl⟩ := hp
  refine W.eq (g2 := F0 m 1328 ls [.int (o_flip σ (xs (Int32.toNatClampNeg (i + 1)))).1]) rfl ?_
  refine lv_iload hx hb dL_law_1328 (lv_at hl 1 rfl) ?_
  refine lv_icmp_eq (tgt := 1335) hx hb dL_law_1330 (by decide) (fun _ => ?_) (fun c => absurd rfl c)
  refine lv_iload hx hb dL_law_1335 (lv_at hl 1 rfl) ?_
  refine lv_if_ne (tgt := 1352) hx hb dL_law_1337 (by decide) (fun c_1 => ?_) (fun c_1 => ?_)
  · refine lv_goto (tgt := 2828) hx hb dL_law_1352 (by decide) ?_
    refine W.widen (k := cells + 60) (n := slots + 1000) (by omega) (by omega) ?_
    have hl := lv_sub hl (l' := [(0, .ref b), (1, .ref h), (2, .ref (am 0)), (3, .ref o1), (4, .ref o2), (5, .int i)]) [2, 3, 4, 5, 6, 7] rfl
    exact hback _ _ _ _ _ _ ⟨_, _, _, _, hH2, hm9.1, ho1, ho2⟩ hw hl
  · refine lv_aload_n hx hb dL_law_1340 rfl (lv_at hl 5 rfl) ?_
    refine lv_iconst (v := 0) hx hb dL_law_1341 (by decide) ?_
    refine zr_lald hx hb hw ho1 (vp_in_iff.mpr (by decide)) dL_law_1342 ?_
    refine lv_iload hx hb dL_law_1343 (lv_at hl 0 rfl) ?_
    refine lv_i2l (v := b9.toInt64) hx hb dL_law_1345 rfl ?_
    refine W.lcmp hx hb dL_law_1346 ?_
    have hq_2 : (lg_cmp (F1 (Int32.toNatClampNeg 0)) b9.toInt64) = 0 := zcmp0.mpr (by rw [hb9 c_1]; exact hv1 c_1)
    refine lv_if_eq (tgt := 1352) hx hb dL_law_1347 (by decide) (fun c_3 => ?_) (fun c_3 => absurd hq_2 c_3)
    refine lv_goto (tgt := 2828) hx hb dL_law_1352 (by decide) ?_
    refine W.widen (k := cells + 60) (n := slots + 1000) (by omega) (by omega) ?_
    have hl := lv_sub hl (l' := [(0, .ref b), (1, .ref h), (2, .ref (am 0)), (3, .ref o1), (4, .ref o2), (5, .int i)]) [2, 3, 4, 5, 6, 7] rfl
    exact hback _ _ _ _ _ _ ⟨_, _, _, _, hH2, hm9.1, ho1, ho2⟩ hw hl

set_option maxRecDepth 100000 in
set_option maxHeartbeats 4000000 in
theorem k_law_18 {p : Program} {l : Launch} {e : Env} {R : Room} {s : State} {m : MethodId} {args : Array Value} {below : List Frame} {meth : Method} {c : Code} {H : Heap} {locs : List Loc} {cells slots : Nat} {Q : State → Prop} {ls : Array Slot} {g : zG} {A : Nat → Prop} {L : List Nat} {f : Nat → va_E} {am : Nat → Nat} {h o1 o2 b N : Nat} {σ : ZS} {xs : Nat → Int32} {i : Int32}
    (hx : p.tables.exec = Jvm.exec) (hb : c.code = cL_law) (hml : c.maxLocals = 9) (hown : s.vm.findClass RL = some m.cls) (hts : ∀ w ∈ wsL_law, w.before args s = true) (hl0 : l.stackTraces = false) (hw : zW g A s L f H locs) (hX : zX A s s.heap) (hXs : va_X b N xs s s.heap) (hbl : b < s.heap.size) (hbA : ¬ A b) (hRf : 20 ≤ R.frames) (hRl : 1000 ≤ R.locals) (hRc : cells + 60 ≤ R.cells) (hRs : slots + 1000 ≤ R.slots) (hJ : zLw g h am o1 o2 σ L f) (hix : ∀ j : Nat, j < 7 → vp_in (i + nI j) N) (hl : lv_has ls 9 [(0, .ref b), (1, .ref h), (2, .ref (am 0)), (3, .ref o1), (4, .ref o2), (5, .int i)])
    (hback : ∀ (σ1 : ZS) (L1 : List Nat) (f1 : Nat → va_E) (H1 : Heap) (locs1 : List Loc) (ls1 : Array Slot), zLw g h am o1 o2 σ1 L1 f1 → zW g A s L1 f1 H1 locs1 → lv_has ls1 9 [(0, .ref b), (1, .ref h), (2, .ref (am 0)), (3, .ref o1), (4, .ref o2), (5, .int i)] → W p l e R s m args below meth c H1 locs1 (cells + 60) (slots + 1000) Q (F0 m 2828 ls1 [])) : W p l e R s m args below meth c H locs cells slots Q (F0 m 1355 ls []) := by
  obtain ⟨bs, th, F, D, hH, hE, h10, h20⟩ := hJ
  obtain ⟨ln, kd, hI⟩ := zHC_I hH
  obtain ⟨fs9, hcb⟩ := zHC_obj hH
  have hn1 := zMe_ne1 hE h10
  have hn2 := zMe_ne2 hE h20
  have hn12 := zo_ne h10 h20
  refine lv_aload_n hx hb dL_law_1355 rfl (lv_at hl 1 rfl) ?_
  refine lv_aload_n hx hb dL_law_1356 rfl (lv_at hl 0 rfl) ?_
  refine lv_iload hx hb dL_law_1357 (lv_at hl 5 rfl) ?_
  refine lv_iconst (v := 1) hx hb dL_law_1359 (by decide) ?_
  refine lv_iadd hx hb dL_law_1360 ?_
  refine va_sld hx hb hXs hbl hbA hw.2.2.2.1 (hix 1 (by decide)) dL_law_1361 ?_
  refine lv_aload_n hx hb dL_law_1362 rfl (lv_at hl 3 rfl) ?_
  refine z_callSX (As := [.ref h, .int (xs (Int32.toNatClampNeg (i + 1))), .ref o1]) (rest := []) ⟨hx, hb, hml, hown, hts⟩ hw hX (c_L_rewind l hl0 g L f h (zPm am o1 o2) σ (xs (Int32.toNatClampNeg (i + 1))) o1 F hH h10 zPm_1) (vx_cwSW 3 hts gL_law_L_rewind rfl rfl rfl (by decide +kernel) ⟨Nat.le_trans (Nat.le_of_ble_eq_true rfl) hRf, Nat.le_trans (Nat.le_of_ble_eq_true rfl) hRl⟩) rfl hl.1 rfl (Nat.le_of_ble_eq_true rfl) dL_law_1363 ⟨by omega, by omega⟩ (fun _ _ _ _ _ _ _ hp => False.elim hp) (fun r9 L1 f1 H locs hp hw => ?_)
  obtain ⟨rfl, hH1, ⟨F1, hF1, hv1⟩, hfr1⟩ := hp
  have hE1 := zMe_kept hE hH1 (fun k hk => hfr1 _ (zPm_m hk) (hn1 k hk))
  refine W.eq (g2 := F0 m 1366 ls [.int (o_rewind σ (xs (Int32.toNatClampNeg (i + 1)))).1]) rfl ?_
  refine lv_istore (lv' := [(6, .int (o_rewind σ (xs (Int32.toNatClampNeg (i + 1)))).1), (0, .ref b), (1, .ref h), (2, .ref (am 0)), (3, .ref o1), (4, .ref o2), (5, .int i)]) hx hb dL_law_1366 hl (by decide) rfl (fun ls hl => ?_)
  refine lv_aload_n hx hb dL_law_1368 rfl (lv_at hl 3 rfl) ?_
  refine lv_aload_n hx hb dL_law_1369 rfl (lv_at hl 1 rfl) ?_
  refine lv_iload hx hb dL_law_1370 (lv_at hl 6 rfl) ?_
  refine lv_iconst (v := 1) hx hb dL_law_1372 (by decide) ?_
  refine lv_iadd hx hb dL_law_1373 ?_
  refine va_sld hx hb hXs hbl hbA hw.2.2.2.1 (hix 1 (by decide)) dL_law_1374 ?_
  refine z_callV (As := [.int (xs (Int32.toNatClampNeg (i + 1)))]) (rest := []) ⟨hx, hb, hml, hown, hts⟩ hw hX (hE1.1 0 (by decide)) rfl (c_X2_rewind l g am L1 f1 σ bs th (xs (Int32.toNatClampNeg (i + 1))) ⟨hE1, fun _ _ => rfl⟩ hI) (cwV 1 hts gL_law_X2_rewind rfl rfl rfl (by decide +kernel) ⟨Nat.le_trans (Nat.le_of_ble_eq_true rfl) hRf, Nat.le_trans (Nat.le_of_ble_eq_true rfl) hRl⟩) rfl hl.1 rfl (Nat.le_of_ble_eq_true rfl) dL_law_1375 ⟨by omega, by omega⟩ (fun _ _ _ _ _ _ _ hp => False.elim hp) (fun r9 L2 f2 H locs hp hw => ?_)
  obtain ⟨rfl, b9, bs9, rfl, hm9, hb9⟩ := hp
  have ho1 : zc L1 f2 o1 (.inl (g.2 1, 1, .inr (.inl F1))) := ⟨zHC_in hH1 zPm_1, (hm9.2 _ (fun k hk e => hn1 k hk e.symm)).trans hF1⟩
  have ho2 : zc L1 f2 o2 (.inl (g.2 3, 1, .inr (.inr (.inr (.inl D))))) := ⟨zHC_in hH1 zPm_2, (hm9.2 _ (fun k hk e => hn2 k hk e.symm)).trans ((hfr1 _ zPm_2 (Ne.symm hn12)).trans h20.2)⟩
  have hH2 := zHC_mod hH1 hm9.2
  refine W.eq (g2 := F0 m 1378 ls [.int b9]) rfl ?_
  refine lv_istore (lv' := [(7, .int b9), (6, .int (o_rewind σ (xs (Int32.toNatClampNeg (i + 1)))).1), (0, .ref b), (1, .ref h), (2, .ref (am 0)), (3, .ref o1), (4, .ref o2), (5, .int i)]) hx hb dL_law_1378 hl (by decide) rfl (fun ls hl => ?_)
  refine lv_aload_n hx hb dL_law_1380 rfl (lv_at hl 4 rfl) ?_
  refine z_callV (As := []) (rest := []) ⟨hx, hb, hml, hown, hts⟩ hw hX (hm9.1.1 0 (by decide)) rfl (c_X2_thrown l g am L1 f2 (o_rewind σ (xs (Int32.toNatClampNeg (i + 1)))).2.2 bs9 (o_rewind σ (xs (Int32.toNatClampNeg (i + 1)))).1 hm9.rf) (cwV 0 hts gL_law_X2_thrown rfl rfl rfl (by decide +kernel) ⟨Nat.le_trans (Nat.le_of_ble_eq_true rfl) hRf, Nat.le_trans (Nat.le_of_ble_eq_true rfl) hRl⟩) rfl hl.1 rfl (Nat.le_of_ble_eq_true rfl) dL_law_1381 ⟨by omega, by omega⟩ (fun _ _ _ _ _ _ _ hp => False.elim hp) (fun r9 L3 f3 H locs hp hw => ?_)
  obtain ⟨rfl, rfl, rfl⟩ := hp
  refine W.eq (g2 := F0 m 1384 ls [.int (o_rewind σ (xs (Int32.toNatClampNeg (i + 1)))).1]) rfl ?_
  refine lv_iload hx hb dL_law_1384 (lv_at hl 1 rfl) ?_
  refine lv_icmp_eq (tgt := 1391) hx hb dL_law_1386 (by decide) (fun _ => ?_) (fun c => absurd rfl c)
  refine lv_iload hx hb dL_law_1391 (lv_at hl 1 rfl) ?_
  refine lv_if_ne (tgt := 1408) hx hb dL_law_1393 (by decide) (fun c_1 => ?_) (fun c_1 => ?_)
  · refine lv_goto (tgt := 2828) hx hb dL_law_1408 (by decide) ?_
    refine W.widen (k := cells + 60) (n := slots + 1000) (by omega) (by omega) ?_
    have hl := lv_sub hl (l' := [(0, .ref b), (1, .ref h), (2, .ref (am 0)), (3, .ref o1), (4, .ref o2), (5, .int i)]) [2, 3, 4, 5, 6, 7] rfl
    exact hback _ _ _ _ _ _ ⟨_, _, _, _, hH2, hm9.1, ho1, ho2⟩ hw hl
  · refine lv_aload_n hx hb dL_law_1396 rfl (lv_at hl 5 rfl) ?_
    refine lv_iconst (v := 0) hx hb dL_law_1397 (by decide) ?_
    refine zr_lald hx hb hw ho1 (vp_in_iff.mpr (by decide)) dL_law_1398 ?_
    refine lv_iload hx hb dL_law_1399 (lv_at hl 0 rfl) ?_
    refine lv_i2l (v := b9.toInt64) hx hb dL_law_1401 rfl ?_
    refine W.lcmp hx hb dL_law_1402 ?_
    have hq_2 : (lg_cmp (F1 (Int32.toNatClampNeg 0)) b9.toInt64) = 0 := zcmp0.mpr (by rw [hb9 c_1]; exact hv1 c_1)
    refine lv_if_eq (tgt := 1408) hx hb dL_law_1403 (by decide) (fun c_3 => ?_) (fun c_3 => absurd hq_2 c_3)
    refine lv_goto (tgt := 2828) hx hb dL_law_1408 (by decide) ?_
    refine W.widen (k := cells + 60) (n := slots + 1000) (by omega) (by omega) ?_
    have hl := lv_sub hl (l' := [(0, .ref b), (1, .ref h), (2, .ref (am 0)), (3, .ref o1), (4, .ref o2), (5, .int i)]) [2, 3, 4, 5, 6, 7] rfl
    exact hback _ _ _ _ _ _ ⟨_, _, _, _, hH2, hm9.1, ho1, ho2⟩ hw hl

set_option maxRecDepth 100000 in
set_option maxHeartbeats 4000000 in
theorem k_law_19 {p : Program} {l : Launch} {e : Env} {R : Room} {s : State} {m : MethodId} {args : Array Value} {below : List Frame} {meth : Method} {c : Code} {H : Heap} {locs : List Loc} {cells slots : Nat} {Q : State → Prop} {ls : Array Slot} {g : zG} {A : Nat → Prop} {L : List Nat} {f : Nat → va_E} {am : Nat → Nat} {h o1 o2 b N : Nat} {σ : ZS} {xs : Nat → Int32} {i : Int32}
    (hx : p.tables.exec = Jvm.exec) (hb : c.code = cL_law) (hml : c.maxLocals = 9) (hown : s.vm.findClass RL = some m.cls) (hts : ∀ w ∈ wsL_law, w.before args s = true) (hl0 : l.stackTraces = false) (hw : zW g A s L f H locs) (hX : zX A s s.heap) (hXs : va_X b N xs s s.heap) (hbl : b < s.heap.size) (hbA : ¬ A b) (hRf : 20 ≤ R.frames) (hRl : 1000 ≤ R.locals) (hRc : cells + 60 ≤ R.cells) (hRs : slots + 1000 ≤ R.slots) (hJ : zLw g h am o1 o2 σ L f) (hix : ∀ j : Nat, j < 7 → vp_in (i + nI j) N) (hl : lv_has ls 9 [(0, .ref b), (1, .ref h), (2, .ref (am 0)), (3, .ref o1), (4, .ref o2), (5, .int i)])
    (hback : ∀ (σ1 : ZS) (L1 : List Nat) (f1 : Nat → va_E) (H1 : Heap) (locs1 : List Loc) (ls1 : Array Slot), zLw g h am o1 o2 σ1 L1 f1 → zW g A s L1 f1 H1 locs1 → lv_has ls1 9 [(0, .ref b), (1, .ref h), (2, .ref (am 0)), (3, .ref o1), (4, .ref o2), (5, .int i)] → W p l e R s m args below meth c H1 locs1 (cells + 60) (slots + 1000) Q (F0 m 2828 ls1 [])) : W p l e R s m args below meth c H locs cells slots Q (F0 m 1411 ls []) := by
  obtain ⟨bs, th, F, D, hH, hE, h10, h20⟩ := hJ
  obtain ⟨ln, kd, hI⟩ := zHC_I hH
  obtain ⟨fs9, hcb⟩ := zHC_obj hH
  have hn1 := zMe_ne1 hE h10
  have hn2 := zMe_ne2 hE h20
  have hn12 := zo_ne h10 h20
  refine lv_aload_n hx hb dL_law_1411 rfl (lv_at hl 1 rfl) ?_
  refine lv_aload_n hx hb dL_law_1412 rfl (lv_at hl 0 rfl) ?_
  refine lv_iload hx hb dL_law_1413 (lv_at hl 5 rfl) ?_
  refine lv_iconst (v := 1) hx hb dL_law_1415 (by decide) ?_
  refine lv_iadd hx hb dL_law_1416 ?_
  refine va_sld hx hb hXs hbl hbA hw.2.2.2.1 (hix 1 (by decide)) dL_law_1417 ?_
  refine lv_aload_n hx hb dL_law_1418 rfl (lv_at hl 3 rfl) ?_
  refine z_callSX (As := [.ref h, .int (xs (Int32.toNatClampNeg (i + 1))), .ref o1]) (rest := []) ⟨hx, hb, hml, hown, hts⟩ hw hX (c_L_compact l hl0 g L f h (zPm am o1 o2) σ (xs (Int32.toNatClampNeg (i + 1))) o1 F hH h10 zPm_1) (vx_cwSW 3 hts gL_law_L_compact rfl rfl rfl (by decide +kernel) ⟨Nat.le_trans (Nat.le_of_ble_eq_true rfl) hRf, Nat.le_trans (Nat.le_of_ble_eq_true rfl) hRl⟩) rfl hl.1 rfl (Nat.le_of_ble_eq_true rfl) dL_law_1419 ⟨by omega, by omega⟩ (fun _ _ _ _ _ _ _ hp => False.elim hp) (fun r9 L1 f1 H locs hp hw => ?_)
  obtain ⟨rfl, hH1, ⟨F1, hF1, hv1⟩, hfr1⟩ := hp
  have hE1 := zMe_kept hE hH1 (fun k hk => hfr1 _ (zPm_m hk) (hn1 k hk))
  refine W.eq (g2 := F0 m 1422 ls [.int (o_compact σ (xs (Int32.toNatClampNeg (i + 1)))).1]) rfl ?_
  refine lv_istore (lv' := [(6, .int (o_compact σ (xs (Int32.toNatClampNeg (i + 1)))).1), (0, .ref b), (1, .ref h), (2, .ref (am 0)), (3, .ref o1), (4, .ref o2), (5, .int i)]) hx hb dL_law_1422 hl (by decide) rfl (fun ls hl => ?_)
  refine lv_aload_n hx hb dL_law_1424 rfl (lv_at hl 3 rfl) ?_
  refine lv_aload_n hx hb dL_law_1425 rfl (lv_at hl 1 rfl) ?_
  refine lv_iload hx hb dL_law_1426 (lv_at hl 6 rfl) ?_
  refine lv_iconst (v := 1) hx hb dL_law_1428 (by decide) ?_
  refine lv_iadd hx hb dL_law_1429 ?_
  refine va_sld hx hb hXs hbl hbA hw.2.2.2.1 (hix 1 (by decide)) dL_law_1430 ?_
  refine z_callV (As := [.int (xs (Int32.toNatClampNeg (i + 1)))]) (rest := []) ⟨hx, hb, hml, hown, hts⟩ hw hX (hE1.1 0 (by decide)) rfl (c_X2_compact l g am L1 f1 σ bs th (xs (Int32.toNatClampNeg (i + 1))) ⟨hE1, fun _ _ => rfl⟩ hI) (cwV 1 hts gL_law_X2_compact rfl rfl rfl (by decide +kernel) ⟨Nat.le_trans (Nat.le_of_ble_eq_true rfl) hRf, Nat.le_trans (Nat.le_of_ble_eq_true rfl) hRl⟩) rfl hl.1 rfl (Nat.le_of_ble_eq_true rfl) dL_law_1431 ⟨by omega, by omega⟩ (fun _ _ _ _ _ _ _ hp => False.elim hp) (fun r9 L2 f2 H locs hp hw => ?_)
  obtain ⟨rfl, b9, bs9, rfl, hm9, hb9⟩ := hp
  have ho1 : zc L1 f2 o1 (.inl (g.2 1, 1, .inr (.inl F1))) := ⟨zHC_in hH1 zPm_1, (hm9.2 _ (fun k hk e => hn1 k hk e.symm)).trans hF1⟩
  have ho2 : zc L1 f2 o2 (.inl (g.2 3, 1, .inr (.inr (.inr (.inl D))))) := ⟨zHC_in hH1 zPm_2, (hm9.2 _ (fun k hk e => hn2 k hk e.symm)).trans ((hfr1 _ zPm_2 (Ne.symm hn12)).trans h20.2)⟩
  have hH2 := zHC_mod hH1 hm9.2
  refine W.eq (g2 := F0 m 1434 ls [.int b9]) rfl ?_
  refine lv_istore (lv' := [(7, .int b9), (6, .int (o_compact σ (xs (Int32.toNatClampNeg (i + 1)))).1), (0, .ref b), (1, .ref h), (2, .ref (am 0)), (3, .ref o1), (4, .ref o2), (5, .int i)]) hx hb dL_law_1434 hl (by decide) rfl (fun ls hl => ?_)
  refine lv_aload_n hx hb dL_law_1436 rfl (lv_at hl 4 rfl) ?_
  refine z_callV (As := []) (rest := []) ⟨hx, hb, hml, hown, hts⟩ hw hX (hm9.1.1 0 (by decide)) rfl (c_X2_thrown l g am L1 f2 (o_compact σ (xs (Int32.toNatClampNeg (i + 1)))).2.2 bs9 (o_compact σ (xs (Int32.toNatClampNeg (i + 1)))).1 hm9.rf) (cwV 0 hts gL_law_X2_thrown rfl rfl rfl (by decide +kernel) ⟨Nat.le_trans (Nat.le_of_ble_eq_true rfl) hRf, Nat.le_trans (Nat.le_of_ble_eq_true rfl) hRl⟩) rfl hl.1 rfl (Nat.le_of_ble_eq_true rfl) dL_law_1437 ⟨by omega, by omega⟩ (fun _ _ _ _ _ _ _ hp => False.elim hp) (fun r9 L3 f3 H locs hp hw => ?_)
  obtain ⟨rfl, rfl, rfl⟩ := hp
  refine W.eq (g2 := F0 m 1440 ls [.int (o_compact σ (xs (Int32.toNatClampNeg (i + 1)))).1]) rfl ?_
  refine lv_iload hx hb dL_law_1440 (lv_at hl 1 rfl) ?_
  refine lv_icmp_eq (tgt := 1447) hx hb dL_law_1442 (by decide) (fun _ => ?_) (fun c => absurd rfl c)
  refine lv_iload hx hb dL_law_1447 (lv_at hl 1 rfl) ?_
  refine lv_if_ne (tgt := 1464) hx hb dL_law_1449 (by decide) (fun c_1 => ?_) (fun c_1 => ?_)
  · refine lv_goto (tgt := 2828) hx hb dL_law_1464 (by decide) ?_
    refine W.widen (k := cells + 60) (n := slots + 1000) (by omega) (by omega) ?_
    have hl := lv_sub hl (l' := [(0, .ref b), (1, .ref h), (2, .ref (am 0)), (3, .ref o1), (4, .ref o2), (5, .int i)]) [2, 3, 4, 5, 6, 7] rfl
    exact hback _ _ _ _ _ _ ⟨_, _, _, _, hH2, hm9.1, ho1, ho2⟩ hw hl
  · refine lv_aload_n hx hb dL_law_1452 rfl (lv_at hl 5 rfl) ?_
    refine lv_iconst (v := 0) hx hb dL_law_1453 (by decide) ?_
    refine zr_lald hx hb hw ho1 (vp_in_iff.mpr (by decide)) dL_law_1454 ?_
    refine lv_iload hx hb dL_law_1455 (lv_at hl 0 rfl) ?_
    refine lv_i2l (v := b9.toInt64) hx hb dL_law_1457 rfl ?_
    refine W.lcmp hx hb dL_law_1458 ?_
    have hq_2 : (lg_cmp (F1 (Int32.toNatClampNeg 0)) b9.toInt64) = 0 := zcmp0.mpr (by rw [hb9 c_1]; exact hv1 c_1)
    refine lv_if_eq (tgt := 1464) hx hb dL_law_1459 (by decide) (fun c_3 => ?_) (fun c_3 => absurd hq_2 c_3)
    refine lv_goto (tgt := 2828) hx hb dL_law_1464 (by decide) ?_
    refine W.widen (k := cells + 60) (n := slots + 1000) (by omega) (by omega) ?_
    have hl := lv_sub hl (l' := [(0, .ref b), (1, .ref h), (2, .ref (am 0)), (3, .ref o1), (4, .ref o2), (5, .int i)]) [2, 3, 4, 5, 6, 7] rfl
    exact hback _ _ _ _ _ _ ⟨_, _, _, _, hH2, hm9.1, ho1, ho2⟩ hw hl
