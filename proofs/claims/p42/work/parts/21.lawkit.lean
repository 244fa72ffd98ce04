/-! THE LAW'S METHODS: contracts that speak of the script too (it lies outside the pool) -/
def zPreL (b n : Nat) (xs : Nat → Int32) (g : zG) (av : List Value) (L : List Nat) (f : Nat → va_E) (sz : Nat) : Array Value → State → Prop :=
  fun a U => zPre g av L f sz a U ∧ va_X b n xs U U.heap ∧ b < U.heap.size ∧ ¬ va_A (va_pl L f) sz b
theorem zPreL.blind {b n : Nat} {xs : Nat → Int32} {g : zG} {av : List Value} {L : List Nat} {f : Nat → va_E} {sz : Nat} : FrameBlind (zPreL b n xs g av L f sz) := by
  intro a U g9 mk q
  exact ⟨zPre.blind a U g9 mk q.1, va_X.moved (u := U) (U := U.calling g9 mk a) (Vm.Alike.refl U.vm) q.2.1, q.2.2.1, q.2.2.2⟩
def zCL (l : Launch) (y : MethodName) (ws : List Cond) (rm : Room) (mc ms : Nat) (g : zG) (b n : Nat) (xs : Nat → Int32) (av : List Value) (L : List Nat) (f : Nat → va_E) (post : Option Value → List Nat → (Nat → va_E) → Prop) (px : String → List Nat → (Nat → va_E) → Prop) : Prop :=
  ∀ sz : Nat, vx_Met l y ws rm (zPreL b n xs g av L f sz) (zQ g (va_A (va_pl L f) sz) post) (zXC g (va_A (va_pl L f) sz) px) mc ms (va_A (va_pl L f) sz)
/-- the law's object, that has drawn no more than T times, and the house that holds σ -/
def zLs (T : Nat) (g : zG) (b a h : Nat) (σ : ZS) (L : List Nat) (f : Nat → va_E) : Prop := ∃ (t : Nat) (k1 : Int32), t ≤ T ∧ zc L f a (.inr (2, [.ref b, .int (nI t), .int k1, .ref h])) ∧ zHC g h (fun q => q = a) σ L f
section Z20h
variable {g : zG} {h : Nat} {P : Nat → Prop} {σ : ZS} {L : List Nat} {f f1 : Nat → va_E}
theorem zHC_fr (H : zHC g h P σ L f) (e : ∀ b, ¬ P b → f1 b = f b) : zHC g h P σ L f1 := by
  obtain ⟨ah, G, Rw, rs, wn, ad, ln, kd, ct, h0, hE, hG, hRw, hrd, hw, hdd, hin, hP, hPL, hI⟩ := H
  refine ⟨ah, G, Rw, rs, wn, ad, ln, kd, ct, h0, ⟨fun k hk => ⟨(hE.1 k hk).1, (e _ (hP k hk)).trans (hE.1 k hk).2⟩, hE.2⟩, hG, hRw, hrd, hw, fun d hd hl => ?_, hin, hP, hPL, hI⟩
  obtain ⟨a1, a2, a3⟩ := hdd d hd hl
  exact ⟨⟨a1.1, (e _ a3).trans a1.2⟩, a2, a3⟩
theorem zHC_in (H : zHC g h P σ L f) {b : Nat} (hb : P b) : b ∈ L := by
  obtain ⟨ah, G, Rw, rs, wn, ad, ln, kd, ct, h0, hE, hG, hRw, hrd, hw, hdd, hin, hP, hPL, hI⟩ := H
  exact hPL b hb
theorem zHC_I (H : zHC g h P σ L f) : ∃ (ln : Nat → Nat) (kd : Nat → Int32), zI σ ln kd := by
  obtain ⟨ah, G, Rw, rs, wn, ad, ln, kd, ct, h0, HR⟩ := H
  exact ⟨ln, kd, HR.I⟩
theorem zHC_obj (H : zHC g h P σ L f) : ∃ fs, zc L f h (.inr (1, fs)) := by
  obtain ⟨ah, G, Rw, rs, wn, ad, ln, kd, ct, rfl, HR⟩ := H
  exact ⟨_, HR.1.1 0 (by decide)⟩
variable {b a T : Nat}
theorem zs_H (h0 : zLs T g b a h σ L f) : zHC g h (fun q => q = a) σ L f := by
  obtain ⟨t, k1, -, -, hH⟩ := h0
  exact hH
theorem zs_I (h0 : zLs T g b a h σ L f) : ∃ (ln : Nat → Nat) (kd : Nat → Int32), zI σ ln kd := zHC_I (zs_H h0)
theorem zLs.cell (h0 : zLs T g b a h σ L f) : ∃ fs, zc L f a (.inr (2, fs)) := by
  obtain ⟨t, k1, -, hc, -⟩ := h0
  exact ⟨_, hc⟩
theorem zLs.le {T1 : Nat} (h0 : zLs T g b a h σ L f) (hT : T ≤ T1) : zLs T1 g b a h σ L f := by
  obtain ⟨t, k1, ht, hc, hH⟩ := h0
  exact ⟨t, k1, Nat.le_trans ht hT, hc, hH⟩
/-- the law's own cell anew -/
theorem zs_mk {t : Nat} {k1 : Int32} {e0 : va_E} (hc : zc L f a e0) (hH : zHC g h (fun q => q = a) σ L f) (hu : va_up f a (.inr (2, [.ref b, .int (nI t), .int k1, .ref h])) = f1) (ht : t ≤ T) : zLs T g b a h σ L f1 := by
  subst hu
  exact ⟨t, k1, ht, zc.up hc.1, zHC_fr hH (fun q hq => va_up_ne _ _ hq)⟩
/-- what is taken out of a number from 0 on by % -/
theorem z_mod (x : Int32) {m9 : Nat} (h0 : 0 < m9) (h1 : m9 < 2 ^ 31) : ∃ j, j < m9 ∧ (x &&& 2147483647) - (x &&& 2147483647) / nI m9 * nI m9 = nI j := by
  obtain ⟨j, hj, e⟩ := pk_andE x 31 (m := 2147483647) (by decide)
  rw [e]
  exact ⟨j % m9, Nat.mod_lt _ h0, pk_rem hj h0 h1⟩
end Z20h
section Z21
variable {p : Program} {l : Launch} {e : Env} {R : Room} {s : State} {m : MethodId} {args : Array Value} {below : List Frame} {meth : Method} {c : Code} {H : Heap} {locs : List Loc} {cells slots : Nat} {Q : State → Prop}
variable {cc : ByteArray} {pc : Nat} {ls : Array Slot} {rest : List Value} {g : zG} {A : Nat → Prop} {L : List Nat} {f f0 : Nat → va_E} {b n : Nat} {xs : Nat → Int32}
theorem z_preL {av : List Value} (hw : zW g A s L f H locs) (hX : zX A s s.heap) (hXs : va_X b n xs s s.heap) (hbl : b < s.heap.size) (hbA : ¬ A b) : PreS s H (zPreL b n xs g av L f H.size) av := by
  refine ⟨zPreL.blind, fun U hU hW => ?_⟩
  have h0 := (z_pre (av := av) hw hX).2 U hU hW
  subst hU
  exact ⟨h0, va_X.kept (va_X.moved hW.alike hXs) (hw.2.2.2.1.2.1 b hbl hbA), Nat.lt_of_lt_of_le hbl hw.2.2.2.1.1, fun h => hbA (hw.free _ h)⟩
/-- a contract's walk begins, over the script -/
theorem z_ofWL {y : MethodName} {ws ws' : List Cond} {rm : Room} {mc ms maxL : Nat} {av : List Value} {post : Option Value → List Nat → (Nat → va_E) → Prop} {px : String → List Nat → (Nat → va_E) → Prop} {ret : Option FieldType}
    (hy : plainName y.cls = true) (hw : ws = Cond.code y cc maxL ret :: ws') (hlen : (lg_sl av).length ≤ maxL)
    (body : ∀ (p : Program) (e : Env) (s : State) (m : MethodId) (args : Array Value) (below : List Frame) (meth : Method) (c : Code) (ls : Array Slot) (A : Nat → Prop),
      p.tables.exec = Jvm.exec → c.code = cc → meth.sig.returnType = ret → (∀ w ∈ ws, w.before args s = true) → s.vm.findClass y.cls = some m.cls → meth.locks = false → c.maxLocals = maxL → (∀ x ∈ c.exceptionTable.toList, False) →
      zW g A s L f s.heap [] → zX A s s.heap → va_X b n xs s s.heap → b < s.heap.size → ¬ A b → lv_has ls maxL (lv_args 0 av) → W p l e rm s m args below meth c s.heap [] 0 0 (vx_MQ below (zQ g A post) (zXC g A px) args s mc ms A) (F0 m 0 ls [])) : zCL l y ws rm mc ms g b n xs av L f post px := by
  intro sz
  refine vx_ofW (cc := cc) (maxL := maxL) (ret := ret) hy hw ?_
  intro p e s m args below meth c s₁ B hml htab hv
  obtain ⟨⟨rfl, hsz, hP, hK, hD0, hX⟩, hXs, hbl, hbA⟩ := hv
  have hts := atoms_spec (ws := ws) B.pre
  have hown : s.vm.findClass y.cls = some m.cls := findClass_of_methodNamed B.named
  subst hsz
  have hD := hD0.self (sz := s.heap.size)
  generalize hAe : va_A (va_pl L f) s.heap.size = A at hD hX hbA ⊢
  have hA : ∀ q : Nat, s.heap.size ≤ q → A q := fun q h => by rw [← hAe]; exact Or.inr h
  rw [lg_entry_eq]
  exact body p e s m av.toArray below meth c _ A B.exec B.bytes B.returns hts hown B.notSynchronized hml htab ⟨hK, hP, hD, va_S.rf, hA⟩ hX hXs hbl hbA (lv_entry av hlen)
theorem z_ofWH {y : MethodName} {ws ws' : List Cond} {rm : Room} {mc ms maxL : Nat} {av : List Value} {post : Option Value → List Nat → (Nat → va_E) → Prop} {px : String → List Nat → (Nat → va_E) → Prop} {ret : Option FieldType} {hh : List (Nat × Nat × Nat × Nat)}
    (hy : plainName y.cls = true) (hw : ws = Cond.codeWith y cc maxL ret hh :: ws') (hlen : (lg_sl av).length ≤ maxL)
    (body : ∀ (p : Program) (e : Env) (s : State) (m : MethodId) (args : Array Value) (below : List Frame) (meth : Method) (c : Code) (ls : Array Slot) (A : Nat → Prop),
      p.tables.exec = Jvm.exec → c.code = cc → meth.sig.returnType = ret → (∀ w ∈ ws, w.before args s = true) → s.vm.findClass y.cls = some m.cls → meth.locks = false → c.maxLocals = maxL → c.exceptionTable.toList = tableOf hh →
      zW g A s L f s.heap [] → zX A s s.heap → lv_has ls maxL (lv_args 0 av) → W p l e rm s m args below meth c s.heap [] 0 0 (vx_MQ below (zQ g A post) (zXC g A px) args s mc ms A) (F0 m 0 ls [])) : zC l y ws rm mc ms g av L f post px := by
  intro sz
  refine vx_ofWH (cc := cc) (maxL := maxL) (ret := ret) (hh := hh) hy hw ?_
  intro p e s m args below meth c s₁ B hml hv
  obtain ⟨rfl, hsz, hP, hK, hD0, hX⟩ := hv
  have hts := atoms_spec (ws := ws) B.pre
  have htab := vx_table (x := y) B (hts _ (by rw [hw]; exact List.mem_cons_self))
  have hown : s.vm.findClass y.cls = some m.cls := findClass_of_methodNamed B.named
  subst hsz
  have hD := hD0.self (sz := s.heap.size)
  generalize hAe : va_A (va_pl L f) s.heap.size = A at hD hX ⊢
  have hA : ∀ q : Nat, s.heap.size ≤ q → A q := fun q h => by rw [← hAe]; exact Or.inr h
  rw [lg_entry_eq]
  exact body p e s m av.toArray below meth c _ A B.exec B.bytes B.returns hts hown B.notSynchronized hml htab ⟨hK, hP, hD, va_S.rf, hA⟩ hX (lv_entry av hlen)
-- THE LAW'S OBJECT
variable {a h T : Nat} {σ : ZS}
theorem zs_x {index : Nat} {Ts : List Cond} (hx : p.tables.exec = Jvm.exec) (hb : c.code = cc) (hts : ∀ w ∈ Ts, w.before args s = true) (hin : ∀ w ∈ wsL0, w ∈ Ts) (hown : s.vm.findClass RL = some m.cls) (hw : zW g A s L f H locs) (hS : zLs T g b a h σ L f) (hlink : Cond.fieldLink RL index (TL 3).1 (TL 3).2.1 (TL 3).2.2.1 ∈ Ts) (hdg : decode cc pc = .ok (.getfield index, 3))
    (kk : W p l e R s m args below meth c H locs cells slots Q (F0 m (pc + 3) ls (.ref h :: rest))) : W p l e R s m args below meth c H locs cells slots Q (F0 m pc ls (.ref a :: rest)) := by
  obtain ⟨t, k1, ht, hc, -⟩ := hS
  exact zr_get (C := RL) (T := TL) (N := 4) (ci := 2) hx hb hts hin hown hw hc rfl 3 (by decide) hlink rfl hdg kk
theorem zl_get {index : Nat} {Ts : List Cond} {X : List Value} {v : Value} (hx : p.tables.exec = Jvm.exec) (hb : c.code = cc) (hts : ∀ w ∈ Ts, w.before args s = true) (hin : ∀ w ∈ wsL0, w ∈ Ts) (hown : s.vm.findClass RL = some m.cls) (hw : zW g A s L f H locs) (hL : a ∈ L) (hu : va_up f0 a (.inr (2, X)) = f) (k : Nat) (hk : k < 4) (hlink : Cond.fieldLink RL index (TL k).1 (TL k).2.1 (TL k).2.2.1 ∈ Ts) (hv : X[k]? = some v) (hdg : decode cc pc = .ok (.getfield index, 3))
    (kk : W p l e R s m args below meth c H locs cells slots Q (F0 m (pc + 3) ls (v :: rest))) : W p l e R s m args below meth c H locs cells slots Q (F0 m pc ls (.ref a :: rest)) :=
  zr_get (C := RL) (T := TL) (N := 4) (ci := 2) hx hb hts hin hown hw (zu_c hL hu) rfl k hk hlink hv hdg kk
theorem zl_put {index : Nat} {Ts : List Cond} {X : List Value} (X1 : List Value) {v : Value} {ty : FieldType} (hx : p.tables.exec = Jvm.exec) (hb : c.code = cc) (hts : ∀ w ∈ Ts, w.before args s = true) (hin : ∀ w ∈ wsL0, w ∈ Ts) (hown : s.vm.findClass RL = some m.cls) (hw : zW g A s L f H locs) (hL : a ∈ L) (hu : va_up f0 a (.inr (2, X)) = f) (hlen : X.length = 4) (k : Nat) (hk : k < 4) (hlink : Cond.fieldLink RL index (TL k).1 (TL k).2.1 (TL k).2.2.1 ∈ Ts) (hfin : (TL k).2.2.2 = false) (hty1 : tyL k = ty) (hn : narrow ty v = v) (hfit : fits ty v = true) (hset : X.set k v = X1) (hdg : decode cc pc = .ok (.putfield index, 3))
    (kk : ∀ (f1 : Nat → va_E) (H1 : Heap) (locs1 : List Loc), va_up f0 a (.inr (2, X1)) = f1 → zW g A s L f1 H1 locs1 → W p l e R s m args below meth c H1 locs1 cells slots Q (F0 m (pc + 3) ls rest)) : W p l e R s m args below meth c H locs cells slots Q (F0 m pc ls (v :: .ref a :: rest)) := by
  refine zr_put (C := RL) (T := TL) (N := 4) (ci := 2) hx hb hts hin tyL tyL_ok nmL hown hw (zu_c hL hu) rfl k hk hlink hfin hty1 hn hfit (by omega) hdg (fun H1 locs1 hw1 => kk _ H1 locs1 ?_ hw1)
  rw [hset, ← hu, zu_up]
-- CALLS
variable {mC sC : Nat} {post : Option Value → List Nat → (Nat → va_E) → Prop} {px : String → List Nat → (Nat → va_E) → Prop} {st0 : List Value}
variable {y : MethodName} {bytes : ByteArray} {maxL nL n9 index : Nat} {ret : Option FieldType} {ws : List Cond} {rm : Room} {Ts : List Cond} {own C : String} {As : List Value}
theorem z_callSL (F : CallFix p m c cc nL s args Ts own) (hw : zW g A s L f H locs) (hX : zX A s s.heap) (hXs : va_X b n xs s s.heap) (hbl : b < s.heap.size) (hbA : ¬ A b) (hM : zCL l y ws rm mC sC g b n xs As L f post zNo) (cw : CallB R s args own index y bytes maxL ret ws rm mC sC n9 ∧ (Cond.static y).before args s = true)
    (hn : As.length = n9) (hsize : ls.size = nL) (hstack : st0 = As.reverse ++ rest) (hR : (rest.map fun v => v.category).sum ≤ 8) (hdg : decode cc pc = .ok (.invokestatic index, 3)) (hf : cells + mC ≤ R.cells ∧ slots + sC ≤ R.slots)
    (kk : ∀ (r : Option Value) (L1 : List Nat) (f1 : Nat → va_E) (H1 : Heap) (locs1 : List Loc), post r L1 f1 → zW g A s L1 f1 H1 locs1 → W p l e R s m args below meth c H1 locs1 (cells + mC) (slots + sC) Q (F0 m (pc + 3) ls (r.toList ++ rest))) : W p l e R s m args below meth c H locs cells slots Q (F0 m pc ls st0) :=
  z_go hw (vx_runS F (hM H.size) cw (z_preL hw hX hXs hbl hbA) rfl hn hsize hstack (lv_room hR) hdg hf) (fun _ _ _ _ _ _ _ hp => False.elim hp) kk
theorem z_callVL (F : CallFix p m c cc nL s args Ts own) (hw : zW g A s L f H locs) (hX : zX A s s.heap) (hXs : va_X b n xs s s.heap) (hbl : b < s.heap.size) (hbA : ¬ A b) {ci N : Nat} {T : u_T} {fs : List Value} (hcb : zc L f a (.inr (ci, fs))) (hcl : zCl[ci]? = some (C, T, N)) (hM : zCL l y ws rm mC sC g b n xs (.ref a :: As) L f post zNo) (cw : CallW R s args own C index y bytes maxL ret ws rm mC sC n9)
    (hn : As.length = n9) (hsize : ls.size = nL) (hstack : st0 = As.reverse ++ .ref a :: rest) (hR : (rest.map fun v => v.category).sum ≤ 8) (hdg : decode cc pc = .ok (.invokevirtual index, 3)) (hf : cells + mC ≤ R.cells ∧ slots + sC ≤ R.slots)
    (kk : ∀ (r : Option Value) (L1 : List Nat) (f1 : Nat → va_E) (H1 : Heap) (locs1 : List Loc), post r L1 f1 → zW g A s L1 f1 H1 locs1 → W p l e R s m args below meth c H1 locs1 (cells + mC) (slots + sC) Q (F0 m (pc + 3) ls (r.toList ++ rest))) : W p l e R s m args below meth c H locs cells slots Q (F0 m pc ls st0) := by
  obtain ⟨k0, hk0⟩ := hcb.get
  have hp := z_preL (av := .ref a :: As) hw hX hXs hbl hbA
  exact z_go hw (vx_runV F (hM H.size) cw ⟨hp.1, va_recv hw.1 hw.2.1 hcl hk0, hp.2⟩ rfl hn hsize hstack (lv_room hR) hdg hf) (fun _ _ _ _ _ _ _ hp => False.elim hp) kk
theorem z_callVX {hh : List (Nat × Nat × Nat × Nat)} (F : CallFix p m c cc nL s args Ts own) (hw : zW g A s L f H locs) (hX : zX A s s.heap) {ci N : Nat} {T : u_T} {fs : List Value} (hcb : zc L f a (.inr (ci, fs))) (hcl : zCl[ci]? = some (C, T, N)) (hM : zC l y ws rm mC sC g (.ref a :: As) L f post zNo) (cw : vx_CVW R s args own C index y bytes maxL ret hh ws rm mC sC n9)
    (hn : As.length = n9) (hsize : ls.size = nL) (hstack : st0 = As.reverse ++ .ref a :: rest) (hR : (rest.map fun v => v.category).sum ≤ 8) (hdg : decode cc pc = .ok (.invokevirtual index, 3)) (hf : cells + mC ≤ R.cells ∧ slots + sC ≤ R.slots)
    (kk : ∀ (r : Option Value) (L1 : List Nat) (f1 : Nat → va_E) (H1 : Heap) (locs1 : List Loc), post r L1 f1 → zW g A s L1 f1 H1 locs1 → W p l e R s m args below meth c H1 locs1 (cells + mC) (slots + sC) Q (F0 m (pc + 3) ls (r.toList ++ rest))) : W p l e R s m args below meth c H locs cells slots Q (F0 m pc ls st0) := by
  obtain ⟨k0, hk0⟩ := hcb.get
  have hp := z_pre (av := .ref a :: As) hw hX
  exact z_go hw (vx_runVX F (hM H.size) cw ⟨hp.1, va_recv hw.1 hw.2.1 hcl hk0, hp.2⟩ rfl hn hsize hstack (lv_room hR) hdg hf) (fun _ _ _ _ _ _ _ hp => False.elim hp) kk
/-- a call of the house whose answer is known -/
theorem zs_call {α : Type} (V : α → Value) {o : Int32 × α × ZS} {v : α} {σ1 : ZS} {es : List String} (ho : o = (0, v, σ1)) (F : CallFix p m c cc nL s args Ts own) (hw : zW g A s L f H locs) (hX : zX A s s.heap) (hS : zLs T g b a h σ L f)
    (hM : zC l y ws rm mC sC g (.ref h :: As) L f (fun r L1 f1 => o.1 = 0 ∧ some (V o.2.1) = r ∧ zHC g h (fun q => q = a) o.2.2 L1 f1 ∧ ∀ q, q = a → f1 q = f q) (fun E L1 f1 => zXe es o.1 E ∧ L = L1 ∧ f = f1 ∧ o.2.2 = σ)) (hes : es.length < 100) (cw : CallW R s args own RX1 index y bytes maxL ret ws rm mC sC n9)
    (hn : As.length = n9) (hsize : ls.size = nL) (hstack : st0 = As.reverse ++ .ref h :: rest) (hR : (rest.map fun v => v.category).sum ≤ 8) (hdg : decode cc pc = .ok (.invokevirtual index, 3)) (hf : cells + mC ≤ R.cells ∧ slots + sC ≤ R.slots)
    (kk : ∀ (L1 : List Nat) (f1 : Nat → va_E) (H1 : Heap) (locs1 : List Loc), zLs T g b a h σ1 L1 f1 → zW g A s L1 f1 H1 locs1 → W p l e R s m args below meth c H1 locs1 (cells + mC) (slots + sC) Q (F0 m (pc + 3) ls (V v :: rest))) : W p l e R s m args below meth c H locs cells slots Q (F0 m pc ls st0) := by
  subst ho
  obtain ⟨t, k1, ht, hc, hH⟩ := hS
  obtain ⟨fs9, hcb⟩ := zHC_obj hH
  refine z_callV F hw hX hcb rfl hM cw hn hsize hstack hR hdg hf (fun E ce q9 L9 f9 H locs hp hw hce hcv hcl => ?_) (fun r L9 f9 H locs hp hw => ?_)
  · obtain ⟨⟨j, hj, hk⟩, -⟩ := hp
    have hj2 : j < es.length := (List.getElem?_eq_some_iff.mp hj).1
    exact absurd hk.symm (nI_ne0 (by omega) (by omega))
  · obtain ⟨-, rfl, hH1, hfr⟩ := hp
    refine W.eq (g2 := F0 m (pc + 3) ls (V v :: rest)) rfl ?_
    exact kk L9 f9 H locs ⟨t, k1, ht, ⟨zHC_in hH1 rfl, (hfr a rfl).trans hc.2⟩, hH1⟩ hw
/-- a call of the house that can't throw -/
theorem zs_callN {α : Type} (V : α → Value) {o : Int32 × α × ZS} {v : α} {σ1 : ZS} (ho : o = (0, v, σ1)) (F : CallFix p m c cc nL s args Ts own) (hw : zW g A s L f H locs) (hX : zX A s s.heap) (hS : zLs T g b a h σ L f)
    (hM : zC l y ws rm mC sC g (.ref h :: As) L f (fun r L1 f1 => o.1 = 0 ∧ some (V o.2.1) = r ∧ zHC g h (fun q => q = a) o.2.2 L1 f1 ∧ ∀ q, q = a → f1 q = f q) zNo) (cw : CallW R s args own RX1 index y bytes maxL ret ws rm mC sC n9)
    (hn : As.length = n9) (hsize : ls.size = nL) (hstack : st0 = As.reverse ++ .ref h :: rest) (hR : (rest.map fun v => v.category).sum ≤ 8) (hdg : decode cc pc = .ok (.invokevirtual index, 3)) (hf : cells + mC ≤ R.cells ∧ slots + sC ≤ R.slots)
    (kk : ∀ (L1 : List Nat) (f1 : Nat → va_E) (H1 : Heap) (locs1 : List Loc), zLs T g b a h σ1 L1 f1 → zW g A s L1 f1 H1 locs1 → W p l e R s m args below meth c H1 locs1 (cells + mC) (slots + sC) Q (F0 m (pc + 3) ls (V v :: rest))) : W p l e R s m args below meth c H locs cells slots Q (F0 m pc ls st0) := by
  subst ho
  obtain ⟨t, k1, ht, hc, hH⟩ := hS
  obtain ⟨fs9, hcb⟩ := zHC_obj hH
  refine z_callV F hw hX hcb rfl hM cw hn hsize hstack hR hdg hf (fun _ _ _ _ _ _ _ hp => False.elim hp) (fun r L9 f9 H locs hp hw => ?_)
  obtain ⟨-, rfl, hH1, hfr⟩ := hp
  refine W.eq (g2 := F0 m (pc + 3) ls (V v :: rest)) rfl ?_
  exact kk L9 f9 H locs ⟨t, k1, ht, ⟨zHC_in hH1 rfl, (hfr a rfl).trans hc.2⟩, hH1⟩ hw
end Z21
