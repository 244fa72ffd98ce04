/-! ===== BEGIN a constructor that throws (launches without stack traces) ===== -/
section VXIA
variable {p : Program} {l : Launch} {e : Env} {R : Room} {s : State} {m : MethodId} {args : Array Value} {below : List Frame} {meth : Method} {c : Code} {T : State} {locs : List Loc} {cells slots : Nat}
theorem vx_callI (X : Stand p l e R s m args below meth c T locs cells slots) (hexec : p.tables.exec = Jvm.exec) {own : String} {index : Nat} {y : MethodName} {bytes : ByteArray} {maxL : Nat}
    (hown : s.vm.findClass own = some m.cls) (hy1 : y.name = "<init>") (hlink : (Cond.methodLink own index y).before args s = true) (hinst : (Cond.instanceMethod y).before args s = true)
    (hcode : (Cond.code y bytes maxL none).before args s = true) (hy : y.cls ≠ "java/lang/invoke/MethodHandle" ∧ y.cls ≠ "java/lang/invoke/VarHandle")
    {W9 : Nat} {Pre : Pt → Array Value → Prop} {Post : Pt → Array Value → Option Value → Pt → Prop} {PostX : Pt → Array Value → Addr → Pt → Prop} (hK : vx_Back l R p e below s args y 3 W9 Pre Post PostX)
    {g : JFrame} (hg : g.method = m) (hsize : g.locals.size = c.maxLocals) {a : Addr} {argsL rest : List Value} (hlen : ∀ sig, parseMethodDescriptor y.desc = some sig → argsL.length = sig.parameters.length)
    (hstack : g.stack = argsL.reverse ++ .ref a :: rest) (hW : 2 * g.monitorRoom + (rest.map fun v => v.category).sum ≤ W9) (hdg : decode c.code g.pc = .ok (.invokespecial index, 3))
    (hpre : ∀ vm₁, s.WarmedH vm₁ → Pre ⟨T.setVm vm₁, locs, cells, slots⟩ (Value.ref a :: argsL).toArray) :
    (∃ (v : Option Value) (vm₁ : Vm) (B : Pt), s.WarmedH vm₁ ∧ Stand p l e R s m args below meth c B.U B.locs B.cells B.slots ∧ Post ⟨T.setVm vm₁, locs, cells, slots⟩ (Value.ref a :: argsL).toArray v B ∧
      ∀ target, Steps p.tables e below (B.U.setTop { g with pc := g.pc + 3, stack := v.toList ++ rest }) target → Steps p.tables e below (T.setTop g) target) ∨
    (∃ (q : Addr) (vm₁ : Vm) (B : Pt), s.WarmedH vm₁ ∧ Stand p l e R s m args below meth c B.U B.locs B.cells B.slots ∧ PostX ⟨T.setVm vm₁, locs, cells, slots⟩ (Value.ref a :: argsL).toArray q B ∧
      Steps p.tables e below (T.setTop g) ((B.U.setTop { g with stack := rest }).pushFrame (.throwing q))) := by
  subst hg
  have hpl : e.platform.magicAccessors = ({} : Platform).magicAccessors := by rw [X.admits.platform]
  obtain ⟨mk, methM, cM, kP, vm₁, hnamed, hmethM, hcodeM, -, hlocalsM, -, hkP, -, hW₁, hstep₁⟩ := Steps.initColdArgs (e := e) X.here hexec X.warmed hpl hown hy1 hy hlink hinst hcode (f := g) rfl hlen hstack hdg
  have X₁ := X.noted hW₁
  rcases hK g.method meth c ⟨T.setVm vm₁, locs, cells, slots⟩ { g with stack := rest } (.invokespecial index) mk (Value.ref a :: argsL).toArray X₁ rfl hsize hdg hW (X₁.named hnamed) (hpre vm₁ X₁.warmed) with ⟨v, B, X', hpost, hsteps⟩ | ⟨q, B, X', hpost, hsteps⟩
  · exact Or.inl ⟨v, vm₁, B, X₁.warmed, X', hpost, fun target h => hstep₁ _ fun acts => by rw [doInvoke_state]; exact hsteps.trans h⟩
  · exact Or.inr ⟨q, vm₁, B, X₁.warmed, X', hpost, hstep₁ _ fun acts => by rw [doInvoke_state]; exact hsteps⟩
end VXIA
section VXIB
variable {p : Program} {l : Launch} {e : Env} {R : Room} {s : State} {m : MethodId} {args : Array Value} {below : List Frame} {meth : Method} {c : Code} {H : Heap} {locs : List Loc} {cells slots : Nat}
variable {y : MethodName} {bytes cc : ByteArray} {maxL nL mc ms n index : Nat} {ret : Option FieldType} {ws : List Cond} {rm : Room} {Pc : Array Value → State → Prop} {Qc : Array Value → State → Outcome → State → Prop} {XC : String → State → State → Prop} {free : Addr → Prop} {Ts : List Cond} {own C : String} {b : Addr} {As rest : List Value} {g : JFrame}
theorem vx_runI (S : CallFix p m c cc nL s args Ts own) (hM : vx_Met l y ws rm Pc Qc XC mc ms free) (cw : CallB R s args own index y bytes maxL none ws rm mc ms n ∧ y.name = "<init>" ∧ (Cond.instanceMethod y).before args s = true) (hp : PreS s H Pc (.ref b :: As))
    (hg : g.method = m) (hn : As.length = n) (hsize : g.locals.size = nL) (hstack : g.stack = As.reverse ++ .ref b :: rest) (hW : 2 * g.monitorRoom + (rest.map fun v => v.category).sum ≤ 8) (hdg : decode cc g.pc = .ok (.invokespecial index, 3)) (hf : cells + mc ≤ R.cells ∧ slots + ms ≤ R.slots) :
    vx_Run p l e R s m args below meth c H locs cells slots mc ms g rest (Qc (Value.ref b :: As).toArray) XC free := by
  have hK : vx_Back l R p e below s args y 3 8 (PreOf R mc ms Pc) (PostOf Qc mc ms free) (vx_Post XC mc ms free) := vx_callBack cw.1 hM hp.1
  obtain ⟨⟨-, -, -, -, -, -, hcode, -, hy, hlen, hl⟩, hy1, hin⟩ := cw
  obtain ⟨hx, hb, hml, ho, -⟩ := S
  have hPc := hp.2
  intro T hT X
  rcases vx_callI X hx (bytes := bytes) (maxL := maxL) ho hy1 hl hin hcode hy hK hg (hsize.trans hml.symm) (a := b) (argsL := As) (rest := rest) (fun sig h => hn.trans (hlen sig h)) hstack hW (by rw [hb]; exact hdg)
    (fun vm₁ hW₁ => ⟨hf.1, hf.2, hPc (T.setVm vm₁) hT hW₁⟩) with ⟨v, vm₁, ⟨U', l2, c2, s2⟩, hW₁, X', ⟨g', mk, t, L, e1, e2, hq, h1, hL, h2, h3⟩, st⟩ | ⟨q, vm₁, ⟨U', l2, c2, s2⟩, hW₁, X', ⟨g', mk, t, L, E, ce, e1, e2, hq, hce, hcv, hcl, h1, hL, h2, h3⟩, st⟩
  · dsimp only [Pt.U, Pt.locs, Pt.cells, Pt.slots] at X' e1 e2 h1 h2 h3 st
    subst h1; subst h2; subst h3
    exact Or.inl ⟨v, (T.setVm vm₁).calling g' mk (Value.ref b :: As).toArray, t, U', L, hT, X', hL, e1, e2, hq, st⟩
  · dsimp only [Pt.U, Pt.locs, Pt.cells, Pt.slots] at X' e1 e2 h1 h2 h3 st hcl
    subst h1; subst h2; subst h3
    exact Or.inr ⟨q, (T.setVm vm₁).calling g' mk (Value.ref b :: As).toArray, t, U', L, E, ce, hT, X', hL, e1, e2, hq, hce, hcv, vx_cls hW₁ hcl, st⟩
end VXIB
/-! ===== END ===== -/
/-! ===== BEGIN a private method of a nest mate that may throw (follows va_callVN, va_callSN, va_runVN, va_runSN) ===== -/
section
variable {p : Program} {l : Launch} {e : Env} {R : Room} {s : State} {m : MethodId} {args : Array Value} {below : List Frame} {meth : Method} {c : Code} {H : Heap} {locs : List Loc} {cells slots : Nat}
variable {T : State}
theorem vx_callVN (X : Stand p l e R s m args below meth c T locs cells slots) (hexec : p.tables.exec = Jvm.exec) {own C : String} {index : Nat} {host : String} {y : MethodName} {bytes : ByteArray} {maxL : Nat} {ret : Option FieldType}
    (hown : s.vm.findClass own = some m.cls) (hlink : (Cond.methodLinkNest own index y host).before args s = true) (hinst : (Cond.instanceMethod y).before args s = true) (hsel : (Cond.selects C y y).before args s = true)
    (hcode : (Cond.code y bytes maxL ret).before args s = true) (hy : y.cls ≠ "java/lang/invoke/MethodHandle" ∧ y.cls ≠ "java/lang/invoke/VarHandle")
    {W : Nat} {Pre : Pt → Array Value → Prop} {Post : Pt → Array Value → Option Value → Pt → Prop} {PostX : Pt → Array Value → Addr → Pt → Prop} (hK : vx_Back l R p e below s args y 3 W Pre Post PostX)
    {b : Addr} {cellB : Cell} (hcell : T.heap[b]? = some cellB) (hobj : cellB.vm.isStatics = false) (hcls : s.vm.findClass C = some cellB.cls)
    {g : JFrame} (hg : g.method = m) (hsize : g.locals.size = c.maxLocals) {argsL rest : List Value} (hlen : ∀ sig, parseMethodDescriptor y.desc = some sig → argsL.length = sig.parameters.length)
    (hstack : g.stack = argsL.reverse ++ .ref b :: rest) (hW : 2 * g.monitorRoom + (rest.map fun v => v.category).sum ≤ W) (hdg : decode c.code g.pc = .ok (.invokevirtual index, 3))
    (hpre : ∀ vm₁, s.WarmedH vm₁ → Pre ⟨T.setVm vm₁, locs, cells, slots⟩ (Value.ref b :: argsL).toArray) :
    (∃ (v : Option Value) (vm₁ : Vm) (B : Pt), s.WarmedH vm₁ ∧ Stand p l e R s m args below meth c B.U B.locs B.cells B.slots ∧ Post ⟨T.setVm vm₁, locs, cells, slots⟩ (Value.ref b :: argsL).toArray v B ∧
      ∀ target, Steps p.tables e below (B.U.setTop { g with pc := g.pc + 3, stack := v.toList ++ rest }) target → Steps p.tables e below (T.setTop g) target) ∨
    (∃ (q : Addr) (vm₁ : Vm) (B : Pt), s.WarmedH vm₁ ∧ Stand p l e R s m args below meth c B.U B.locs B.cells B.slots ∧ PostX ⟨T.setVm vm₁, locs, cells, slots⟩ (Value.ref b :: argsL).toArray q B ∧
      Steps p.tables e below (T.setTop g) ((B.U.setTop { g with stack := rest }).pushFrame (.throwing q))) := by
  obtain ⟨mk, methM, hnamed, hmethM, hstM, habM⟩ := Cond.instanceMethod_spec hinst
  obtain ⟨methM', cM, hmethM', -, -, -, -, -, -, hsigM⟩ := Cond.code_spec hnamed hcode
  cases hmethM.symm.trans hmethM'
  obtain ⟨c2, r2, m2, q1, q2, q3, q4, kP, hkP, hkPi⟩ := Cond.selects_spec hsel
  cases hcls.symm.trans q1
  cases (State.methodFound?_of_named hnamed hy).symm.trans q2
  cases hnamed.symm.trans q3
  have hselP : selectMethod e.platform s.vm cellB.cls mk = .method mk := by rw [Launch.admits_selectMethod X.admits]; exact q4
  obtain ⟨vm₁, X₁, hstep₁⟩ := X.invokevirtualNest hexec hown hlink hnamed hmethM hstM hkP hkPi hy (a := b) (cell := cellB) hcell
    (fun z h => by rw [h] at hobj; cases hobj) hselP hmethM habM hkP hkPi (g := g) hg (argsL := argsL) (rest := rest) (hlen _ hsigM) hstack hdg
  rcases hK m meth c ⟨T.setVm vm₁, locs, cells, slots⟩ { g with stack := rest } (.invokevirtual index) mk (Value.ref b :: argsL).toArray X₁ hg hsize hdg hW (X₁.named hnamed) (hpre vm₁ X₁.warmed) with ⟨v, B, X', hpost, hsteps⟩ | ⟨q, B, X', hpost, hsteps⟩
  · exact Or.inl ⟨v, vm₁, B, X₁.warmed, X', hpost, fun target h => hstep₁ _ fun acts => by rw [doInvoke_state]; exact hsteps.trans h⟩
  · exact Or.inr ⟨q, vm₁, B, X₁.warmed, X', hpost, hstep₁ _ fun acts => by rw [doInvoke_state]; exact hsteps⟩
theorem vx_callSN (X : Stand p l e R s m args below meth c T locs cells slots) (hexec : p.tables.exec = Jvm.exec) {own : String} {index : Nat} {host : String} {y : MethodName} {bytes : ByteArray} {maxL : Nat} {ret : Option FieldType}
    (hown : s.vm.findClass own = some m.cls) (hlink : (Cond.methodLinkNest own index y host).before args s = true) (hstat : (Cond.static y).before args s = true) (hinit : (Cond.initialized y.cls).before args s = true)
    (hcode : (Cond.code y bytes maxL ret).before args s = true) (hy : y.cls ≠ "java/lang/invoke/MethodHandle" ∧ y.cls ≠ "java/lang/invoke/VarHandle")
    {W : Nat} {Pre : Pt → Array Value → Prop} {Post : Pt → Array Value → Option Value → Pt → Prop} {PostX : Pt → Array Value → Addr → Pt → Prop} (hK : vx_Back l R p e below s args y 3 W Pre Post PostX)
    {g : JFrame} (hg : g.method = m) (hsize : g.locals.size = c.maxLocals) {argsL rest : List Value} (hlen : ∀ sig, parseMethodDescriptor y.desc = some sig → argsL.length = sig.parameters.length)
    (hstack : g.stack = argsL.reverse ++ rest) (hW : 2 * g.monitorRoom + (rest.map fun v => v.category).sum ≤ W) (hdg : decode c.code g.pc = .ok (.invokestatic index, 3))
    (hpre : ∀ vm₁, s.WarmedH vm₁ → Pre ⟨T.setVm vm₁, locs, cells, slots⟩ argsL.toArray) :
    (∃ (v : Option Value) (vm₁ : Vm) (B : Pt), s.WarmedH vm₁ ∧ Stand p l e R s m args below meth c B.U B.locs B.cells B.slots ∧ Post ⟨T.setVm vm₁, locs, cells, slots⟩ argsL.toArray v B ∧
      ∀ target, Steps p.tables e below (B.U.setTop { g with pc := g.pc + 3, stack := v.toList ++ rest }) target → Steps p.tables e below (T.setTop g) target) ∨
    (∃ (q : Addr) (vm₁ : Vm) (B : Pt), s.WarmedH vm₁ ∧ Stand p l e R s m args below meth c B.U B.locs B.cells B.slots ∧ PostX ⟨T.setVm vm₁, locs, cells, slots⟩ argsL.toArray q B ∧
      Steps p.tables e below (T.setTop g) ((B.U.setTop { g with stack := rest }).pushFrame (.throwing q))) := by
  obtain ⟨mk, hnamed⟩ := Cond.code_named hcode
  obtain ⟨methM, cM, hmethM, -, -, -, -, -, -, hsigM⟩ := Cond.code_spec hnamed hcode
  have hstatic : methM.isStatic = true := Cond.static_spec hnamed hmethM hstat
  obtain ⟨kP, hkP, -⟩ := className_of_methodNamed hnamed
  have hinitP : kP.init = .initialized := Cond.initialized_spec (findClass_of_methodNamed hnamed) hkP hinit
  obtain ⟨vm₁, X₁, hstep₁⟩ := X.invokestaticNest hexec hown hlink hnamed hmethM hstatic hkP hinitP hy (g := g) hg (argsL := argsL) (rest := rest) (hlen _ hsigM) hstack hdg
  rcases hK m meth c ⟨T.setVm vm₁, locs, cells, slots⟩ { g with stack := rest } (.invokestatic index) mk argsL.toArray X₁ hg hsize hdg hW (X₁.named hnamed) (hpre vm₁ X₁.warmed) with ⟨v, B, X', hpost, hsteps⟩ | ⟨q, B, X', hpost, hsteps⟩
  · exact Or.inl ⟨v, vm₁, B, X₁.warmed, X', hpost, fun target h => hstep₁ _ fun acts => by rw [doInvoke_state]; exact hsteps.trans h⟩
  · exact Or.inr ⟨q, vm₁, B, X₁.warmed, X', hpost, hstep₁ _ fun acts => by rw [doInvoke_state]; exact hsteps⟩
theorem vx_runVN {y : MethodName} {bytes cc : ByteArray} {maxL nL mc ms n index : Nat} {ret : Option FieldType} {ws : List Cond} {rm : Room} {Pc : Array Value → State → Prop} {Qc : Array Value → State → Outcome → State → Prop} {XC : String → State → State → Prop} {free : Addr → Prop} {Ts : List Cond} {own C host : String} {b : Addr} {As rest : List Value} {g : JFrame}
    (S : CallFix p m c cc nL s args Ts own) (hM : vx_Met l y ws rm Pc Qc XC mc ms free) (cw : va_CN R s args own index y host bytes maxL ret ws rm mc ms n ∧ (Cond.instanceMethod y).before args s = true ∧ (Cond.selects C y y).before args s = true) (hp : PreV s H C b Pc As)
    (hg : g.method = m) (hn : As.length = n) (hsize : g.locals.size = nL) (hstack : g.stack = As.reverse ++ .ref b :: rest) (hW : 2 * g.monitorRoom + (rest.map fun v => v.category).sum ≤ 8) (hdg : decode cc g.pc = .ok (.invokevirtual index, 3)) (hf : cells + mc ≤ R.cells ∧ slots + ms ≤ R.slots) :
    vx_Run p l e R s m args below meth c H locs cells slots mc ms g rest (Qc (Value.ref b :: As).toArray) XC free := by
  obtain ⟨⟨⟨hrc, hrs, hfr, hlo, hws, hcw⟩, hcode, hini, hy, hlen, hl⟩, hx1, hx2⟩ := cw
  have hK : vx_Back l R p e below s args y 3 8 (PreOf R mc ms Pc) (PostOf Qc mc ms free) (vx_Post XC mc ms free) := vx_back (bytes := bytes) (maxL := maxL) (ret := ret) hM hp.1 hrc hrs hfr hlo hws hcw (fun a' U hW => word_at hW (Or.inl (by first | rfl | simp [Cond.onTables, Cond.keeps, Cond.steady])) hini)
  obtain ⟨hx, hb, hml, ho, -⟩ := S
  obtain ⟨-, ⟨cellB, hcB, hoB, hclB⟩, hPc⟩ := hp
  intro T hT X
  rcases vx_callVN X hx (C := C) (bytes := bytes) (maxL := maxL) (ret := ret) ho hl hx1 hx2 hcode hy hK (by rw [hT]; exact hcB) hoB hclB hg (hsize.trans hml.symm) (argsL := As) (rest := rest) (fun sig h => hn.trans (hlen sig h)) hstack hW (by rw [hb]; exact hdg)
    (fun vm₁ hW₁ => ⟨hf.1, hf.2, hPc (T.setVm vm₁) hT hW₁⟩) with ⟨v, vm₁, ⟨U', l2, c2, s2⟩, hW₁, X', ⟨g', mk, t, L, e1, e2, hq, h1, hL, h2, h3⟩, st⟩ | ⟨q, vm₁, ⟨U', l2, c2, s2⟩, hW₁, X', ⟨g', mk, t, L, E, ce, e1, e2, hq, hce, hcv, hcl, h1, hL, h2, h3⟩, st⟩
  · dsimp only [Pt.U, Pt.locs, Pt.cells, Pt.slots] at X' e1 e2 h1 h2 h3 st
    subst h1; subst h2; subst h3
    exact Or.inl ⟨v, (T.setVm vm₁).calling g' mk (Value.ref b :: As).toArray, t, U', L, hT, X', hL, e1, e2, hq, st⟩
  · dsimp only [Pt.U, Pt.locs, Pt.cells, Pt.slots] at X' e1 e2 h1 h2 h3 st hcl
    subst h1; subst h2; subst h3
    exact Or.inr ⟨q, (T.setVm vm₁).calling g' mk (Value.ref b :: As).toArray, t, U', L, E, ce, hT, X', hL, e1, e2, hq, hce, hcv, vx_cls hW₁ hcl, st⟩
theorem vx_runSN {y : MethodName} {bytes cc : ByteArray} {maxL nL mc ms n index : Nat} {ret : Option FieldType} {ws : List Cond} {rm : Room} {Pc : Array Value → State → Prop} {Qc : Array Value → State → Outcome → State → Prop} {XC : String → State → State → Prop} {free : Addr → Prop} {Ts : List Cond} {own host : String} {As rest : List Value} {g : JFrame}
    (S : CallFix p m c cc nL s args Ts own) (hM : vx_Met l y ws rm Pc Qc XC mc ms free) (cw : va_CN R s args own index y host bytes maxL ret ws rm mc ms n ∧ (Cond.static y).before args s = true ∧ True) (hp : PreS s H Pc As)
    (hg : g.method = m) (hn : As.length = n) (hsize : g.locals.size = nL) (hstack : g.stack = As.reverse ++ rest) (hW : 2 * g.monitorRoom + (rest.map fun v => v.category).sum ≤ 8) (hdg : decode cc g.pc = .ok (.invokestatic index, 3)) (hf : cells + mc ≤ R.cells ∧ slots + ms ≤ R.slots) :
    vx_Run p l e R s m args below meth c H locs cells slots mc ms g rest (Qc As.toArray) XC free := by
  obtain ⟨⟨⟨hrc, hrs, hfr, hlo, hws, hcw⟩, hcode, hini, hy, hlen, hl⟩, hx1, hx2⟩ := cw
  have hK : vx_Back l R p e below s args y 3 8 (PreOf R mc ms Pc) (PostOf Qc mc ms free) (vx_Post XC mc ms free) := vx_back (bytes := bytes) (maxL := maxL) (ret := ret) hM hp.1 hrc hrs hfr hlo hws hcw (fun a' U hW => word_at hW (Or.inl (by first | rfl | simp [Cond.onTables, Cond.keeps, Cond.steady])) hini)
  obtain ⟨hx, hb, hml, ho, -⟩ := S
  have hPc := hp.2
  intro T hT X
  rcases vx_callSN X hx (bytes := bytes) (maxL := maxL) (ret := ret) ho hl hx1 hini hcode hy hK hg (hsize.trans hml.symm) (argsL := As) (rest := rest) (fun sig h => hn.trans (hlen sig h)) hstack hW (by rw [hb]; exact hdg)
    (fun vm₁ hW₁ => ⟨hf.1, hf.2, hPc (T.setVm vm₁) hT hW₁⟩) with ⟨v, vm₁, ⟨U', l2, c2, s2⟩, hW₁, X', ⟨g', mk, t, L, e1, e2, hq, h1, hL, h2, h3⟩, st⟩ | ⟨q, vm₁, ⟨U', l2, c2, s2⟩, hW₁, X', ⟨g', mk, t, L, E, ce, e1, e2, hq, hce, hcv, hcl, h1, hL, h2, h3⟩, st⟩
  · dsimp only [Pt.U, Pt.locs, Pt.cells, Pt.slots] at X' e1 e2 h1 h2 h3 st
    subst h1; subst h2; subst h3
    exact Or.inl ⟨v, (T.setVm vm₁).calling g' mk As.toArray, t, U', L, hT, X', hL, e1, e2, hq, st⟩
  · dsimp only [Pt.U, Pt.locs, Pt.cells, Pt.slots] at X' e1 e2 h1 h2 h3 st hcl
    subst h1; subst h2; subst h3
    exact Or.inr ⟨q, (T.setVm vm₁).calling g' mk As.toArray, t, U', L, E, ce, hT, X', hL, e1, e2, hq, hce, hcv, vx_cls hW₁ hcl, st⟩
end
/-! ===== END ===== -/
/-! THE POOL: every object and array of the run lies in one pool: addresses L, what lies at each f. A contract speaks of the whole pool. -/
abbrev zCl : List vw_C := [(RX0, TX0, 8), (RX1, TX1, 4), (RL, TL, 4)]
abbrev zG : Type := va_G × (Nat → ClassId)
abbrev zTy (g : zG) : List (ClassId × FieldType) := [(g.2 1, .long), (g.2 1, .long), (g.2 1, .long), (g.2 1, .long), (g.2 4, .object RX0), (g.2 5, .array .long)]
/-- a cell of the pool -/
def zc (L : List Nat) (f : Nat → va_E) (a : Nat) (e : va_E) : Prop := a ∈ L ∧ f a = e
theorem zc.get {L : List Nat} {f : Nat → va_E} {a : Nat} {e : va_E} (h : zc L f a e) : ∃ k : Nat, (va_pl L f)[k]? = some (a, e) := by
  obtain ⟨k, hk⟩ := va_pl_get (X := []) (f := f) h.1
  exact ⟨k, by rw [← h.2]; exact hk⟩
theorem zc.up {L : List Nat} {f : Nat → va_E} {a : Nat} {e : va_E} (h : a ∈ L) : zc L (va_up f a e) a e := ⟨h, va_up_self _ _ _⟩
theorem zc.ne {L : List Nat} {f : Nat → va_E} {a b : Nat} {e e1 : va_E} (h : zc L f b e) (hne : b ≠ a) : zc L (va_up f a e1) b e := ⟨h.1, (va_up_ne _ _ hne).trans h.2⟩
theorem zc.dj {L : List Nat} {f : Nat → va_E} {a b : Nat} {e e1 : va_E} (h : zc L f a e) (h1 : zc L f b e1) (hne : e ≠ e1) : a ≠ b := fun q => hne (by rw [← h.2, ← h1.2, q])
theorem zc.eq {L : List Nat} {f : Nat → va_E} {a : Nat} {e e1 : va_E} (h : zc L f a e) (h1 : zc L f a e1) : e = e1 := h.2.symm.trans h1.2
theorem zc.push {L : List Nat} {f : Nat → va_E} {a q : Nat} {e e1 : va_E} (h : zc L f a e) (hq : q ∉ L) : zc (L ++ [q]) (va_up f q e1) a e := ⟨List.mem_append_left _ h.1, (va_up_ne _ _ (fun z => hq (by rw [← z]; exact h.1))).trans h.2⟩
theorem zc.new {L : List Nat} {f : Nat → va_E} {q : Nat} {e : va_E} : zc (L ++ [q]) (va_up f q e) q e := ⟨List.mem_append_right _ (List.mem_singleton.mpr rfl), va_up_self _ _ _⟩
/-- the texts of the class's throws, by their places -/
def zSs : List (Nat × String) := [(110, "there is no mark"), (218, "there is no such window"), (221, "the index is out of range"), (223, "there is no such part"), (225, "it is out of range"), (227, "the length is out of range"), (229, "there is no such kind"), (231, "it is fewer than 0"), (235, "the window only reads"), (240, "not so many are left")]
/-- the nest mates' private methods, by their places -/
def zNs : List (String × Nat × MethodName × String) := [("Windowhouse$Window", 57, ⟨"Windowhouse", "summed", "(JJ)J"⟩, "Windowhouse")]
def zEs : List String := ["java/lang/IllegalStateException", "java/lang/IllegalArgumentException", "java/lang/IndexOutOfBoundsException", "java/lang/UnsupportedOperationException", "java/util/NoSuchElementException"]
def zDs : List MethodName := [Bundle.initS "java/lang/RuntimeException", Bundle.initS "java/lang/Exception", Bundle.initS Bundle.tN]
/-- what isn't the other -/
def zPs : List (String × String) := []
abbrev zNm : List String := ["java/lang/RuntimeException", "java/lang/Exception"]
/-- what a throw needs of the machine, besides words -/
def zX (A : Nat → Prop) (U : State) (H : Heap) : Prop :=
  vx_Zq Bundle.tN "UNASSIGNED_STACK" Bundle.steD A U H ∧ vx_Zq Bundle.tN "SUPPRESSED_SENTINEL" Bundle.listD A U H ∧ (∀ x ∈ zEs, va_Nw (.castable x x) U) ∧ (∀ q ∈ zSs, ∃ a, vk_R RX1 q.1 q.2 a U) ∧ (∀ q ∈ zNs, va_Nw (.methodLinkNest q.1 q.2.1 q.2.2.1 q.2.2.2) U) ∧ (∀ y ∈ zDs, va_Nw (.declares y) U) ∧ va_AO RX0 U ∧ va_AOA .long U ∧ ∀ q ∈ zPs, va_Nc q.1 q.2 U
theorem zX.same {A : Nat → Prop} {u U : State} {H : Heap} (hv : U.vm = u.vm) (h : zX A u H) : zX A U H := by
  have hal : u.vm.Alike U.vm := by rw [hv]; exact Vm.Alike.refl u.vm
  refine ⟨vx_Zq.moved hal h.1, vx_Zq.moved hal h.2.1, fun x hx => va_Nw.same rfl hv.symm (h.2.2.1 x hx), fun q hq => ?_, fun q hq => va_Nw.same rfl hv.symm (h.2.2.2.2.1 q hq), fun q hq => va_Nw.same rfl hv.symm (h.2.2.2.2.2.1 q hq), va_AO.moved hal h.2.2.2.2.2.2.1, va_AOA.moved hal h.2.2.2.2.2.2.2.1, fun q hq => va_Nc.moved hal (h.2.2.2.2.2.2.2.2 q hq)⟩
  obtain ⟨a, ha⟩ := h.2.2.2.1 q hq
  exact ⟨a, vk_R.same hv ha⟩
theorem zX.warm {A B : Nat → Prop} {s U : State} {H : Heap} (hW : s.WarmedH U.vm) (h : zX A s s.heap) (hk : ∀ a : Nat, a < s.heap.size → ¬ A a → H[a]? = s.heap[a]?) (hB : ∀ q, B q → A q) : zX B U H := by
  refine ⟨(((h.1.kept hk).narrow hB).moved hW.alike), (((h.2.1.kept hk).narrow hB).moved hW.alike), fun x hx => va_Nw.warmC hW (h.2.2.1 x hx), fun q hq => ?_, fun q hq => va_Nw.warmM hW (h.2.2.2.2.1 q hq), fun q hq => va_Nw.warmD hW (h.2.2.2.2.2.1 q hq), va_AO.moved hW.alike h.2.2.2.2.2.2.1, va_AOA.moved hW.alike h.2.2.2.2.2.2.2.1, fun q hq => va_Nc.moved hW.alike (h.2.2.2.2.2.2.2.2 q hq)⟩
  obtain ⟨a, ha⟩ := h.2.2.2.1 q hq
  exact ⟨a, vk_R.warm hW ha⟩
/-- the world at a point of a method's walk -/
def zW (g : zG) (A : Nat → Prop) (s : State) (L : List Nat) (f : Nat → va_E) (H : Heap) (locs : List Loc) : Prop :=
  va_K g.1 zCl (zTy g) s ∧ va_P g.1 zCl (va_pl L f) H ∧ va_D A (va_pl L f) ∧ va_S A s.heap H locs ∧ ∀ q, s.heap.size ≤ q → A q
theorem zW.free {g : zG} {A : Nat → Prop} {s : State} {L : List Nat} {f : Nat → va_E} {H : Heap} {locs : List Loc} (h : zW g A s L f H locs) : ∀ q, va_A (va_pl L f) H.size q → A q := by
  intro q hq
  rcases hq with ⟨k, e, h1⟩ | h1
  · exact h.2.2.1.2 k (q, e) h1
  · exact h.2.2.2.2 q (Nat.le_trans h.2.2.2.1.1 h1)
theorem zW.lt {g : zG} {A : Nat → Prop} {s : State} {L : List Nat} {f : Nat → va_E} {H : Heap} {locs : List Loc} (h : zW g A s L f H locs) {a : Nat} (ha : a ∈ L) : a < H.size := va_pl_lt (X := []) h.2.1 ha
-- CONTRACTS
def zPre (g : zG) (av : List Value) (L : List Nat) (f : Nat → va_E) (sz : Nat) : Array Value → State → Prop :=
  va_Pc av (fun U => U.heap.size = sz ∧ va_P g.1 zCl (va_pl L f) U.heap ∧ va_K g.1 zCl (zTy g) U ∧ va_D (fun _ => True) (va_pl L f) ∧ zX (va_A (va_pl L f) sz) U U.heap)
def zQ (g : zG) (A : Nat → Prop) (post : Option Value → List Nat → (Nat → va_E) → Prop) : Array Value → State → Outcome → State → Prop := fun _ st oc t =>
  (∃ (r : Option Value) (L1 : List Nat) (f1 : Nat → va_E), oc = .returned r ∧ post r L1 f1 ∧ va_P g.1 zCl (va_pl L1 f1) t.heap ∧ va_D A (va_pl L1 f1)) ∧ va_F A st t
def zXC (g : zG) (A : Nat → Prop) (px : String → List Nat → (Nat → va_E) → Prop) : String → State → State → Prop := fun E st t =>
  (∃ (L1 : List Nat) (f1 : Nat → va_E), px E L1 f1 ∧ va_P g.1 zCl (va_pl L1 f1) t.heap ∧ va_D A (va_pl L1 f1)) ∧ va_F A st t
def zNo : String → List Nat → (Nat → va_E) → Prop := fun _ _ _ => False
/-- the contract of y at the arguments av, from the pool (L, f): it returns r and leaves a pool with post r, or throws a named class and leaves one with px -/
def zC (l : Launch) (y : MethodName) (ws : List Cond) (rm : Room) (mc ms : Nat) (g : zG) (av : List Value) (L : List Nat) (f : Nat → va_E) (post : Option Value → List Nat → (Nat → va_E) → Prop) (px : String → List Nat → (Nat → va_E) → Prop) : Prop :=
  ∀ sz : Nat, vx_Met l y ws rm (zPre g av L f sz) (zQ g (va_A (va_pl L f) sz) post) (zXC g (va_A (va_pl L f) sz) px) mc ms (va_A (va_pl L f) sz)
theorem zPre.blind {g : zG} {av : List Value} {L : List Nat} {f : Nat → va_E} {sz : Nat} : FrameBlind (zPre g av L f sz) := by
  intro a U g9 mk q
  obtain ⟨q0, q1, qP, qK, qD, qX⟩ := q
  exact ⟨q0, q1, qP, va_K.moved (u := U) (U := U.calling g9 mk a) (Vm.Alike.refl U.vm) qK, qD, zX.same (u := U) (U := U.calling g9 mk a) rfl qX⟩
section Z3
variable {p : Program} {l : Launch} {e : Env} {R : Room} {s : State} {m : MethodId} {args : Array Value} {below : List Frame} {meth : Method} {c : Code} {H : Heap} {locs : List Loc} {cells slots : Nat} {Q : State → Prop}
variable {cc : ByteArray} {pc : Nat} {ls : Array Slot} {rest : List Value} {g : zG} {A : Nat → Prop} {L : List Nat} {f : Nat → va_E}
theorem z_pre {av : List Value} (hw : zW g A s L f H locs) (hX : zX A s s.heap) : PreS s H (zPre g av L f H.size) av := by
  refine ⟨zPre.blind, fun U hU hW => ?_⟩
  subst hU
  exact ⟨rfl, rfl, hw.2.1, va_K.moved hW.alike hw.1, hw.2.2.1.weaken (fun _ _ _ _ => trivial), zX.warm hW hX hw.2.2.2.1.2.1 hw.free⟩
/-- a contract's walk begins -/
theorem z_ofW {y : MethodName} {ws ws' : List Cond} {rm : Room} {mc ms maxL : Nat} {av : List Value} {post : Option Value → List Nat → (Nat → va_E) → Prop} {px : String → List Nat → (Nat → va_E) → Prop} {ret : Option FieldType}
    (hy : plainName y.cls = true) (hw : ws = Cond.code y cc maxL ret :: ws') (hlen : (lg_sl av).length ≤ maxL)
    (body : ∀ (p : Program) (e : Env) (s : State) (m : MethodId) (args : Array Value) (below : List Frame) (meth : Method) (c : Code) (ls : Array Slot) (A : Nat → Prop),
      p.tables.exec = Jvm.exec → c.code = cc → meth.sig.returnType = ret → (∀ w ∈ ws, w.before args s = true) → s.vm.findClass y.cls = some m.cls → meth.locks = false → c.maxLocals = maxL → (∀ x ∈ c.exceptionTable.toList, False) →
      meth.name = y.name → zW g A s L f s.heap [] → zX A s s.heap → lv_has ls maxL (lv_args 0 av) → W p l e rm s m args below meth c s.heap [] 0 0 (vx_MQ below (zQ g A post) (zXC g A px) args s mc ms A) (F0 m 0 ls [])) : zC l y ws rm mc ms g av L f post px := by
  intro sz
  refine vx_ofW (cc := cc) (maxL := maxL) (ret := ret) hy hw ?_
  intro p e s m args below meth c s₁ B hml htab hv
  obtain ⟨rfl, hsz, hP, hK, hD0, hX⟩ := hv
  have hts := atoms_spec (ws := ws) B.pre
  have hown : s.vm.findClass y.cls = some m.cls := findClass_of_methodNamed B.named
  have hin : meth.name = y.name := (name_of_methodNamed B.named B.method).1
  subst hsz
  have hD := hD0.self (sz := s.heap.size)
  generalize hAe : va_A (va_pl L f) s.heap.size = A at hD hX ⊢
  have hA : ∀ q : Nat, s.heap.size ≤ q → A q := fun q h => by rw [← hAe]; exact Or.inr h
  rw [lg_entry_eq]
  exact body p e s m av.toArray below meth c _ A B.exec B.bytes B.returns hts hown B.notSynchronized hml htab hin ⟨hK, hP, hD, va_S.rf, hA⟩ hX (lv_entry av hlen)
-- ENDS
section Ends3
variable {mc ms : Nat} {post : Option Value → List Nat → (Nat → va_E) → Prop} {px : String → List Nat → (Nat → va_E) → Prop}
theorem z_iret {v : Int32} (hx : p.tables.exec = Jvm.exec) (hb : c.code = cc) (hr : meth.sig.returnType = some .int) (hlocks : meth.locks = false) (hw : zW g A s L f H locs) (hc : cells ≤ mc) (hs : slots ≤ ms) (hdg : decode cc pc = .ok (.ireturn, 1)) (hp : post (some (.int v)) L f) :
    W p l e R s m args below meth c H locs cells slots (vx_MQ below (zQ g A post) (zXC g A px) args s mc ms A) (F0 m pc ls [.int v]) :=
  vx_ret (W.widen hc hs (W.iret hx hb hr (fun t ht hW => ⟨⟨_, L, f, rfl, hp, by rw [ht]; exact hw.2.1, hw.2.2.1⟩, hw.2.2.2.1.F ht⟩) hw.2.2.2.1.2.2 hdg hlocks))
theorem z_zret {v : Int32} {ty : FieldType} (hx : p.tables.exec = Jvm.exec) (hb : c.code = cc) (hr : meth.sig.returnType = some ty) (hlocks : meth.locks = false) (hn : narrow ty (.int v) = .int v) (hw : zW g A s L f H locs) (hc : cells ≤ mc) (hs : slots ≤ ms) (hdg : decode cc pc = .ok (.ireturn, 1)) (hp : post (some (.int v)) L f) :
    W p l e R s m args below meth c H locs cells slots (vx_MQ below (zQ g A post) (zXC g A px) args s mc ms A) (F0 m pc ls [.int v]) :=
  vx_ret (W.widen hc hs (W.zret hx hb hr hn (fun t ht hW => ⟨⟨_, L, f, rfl, hp, by rw [ht]; exact hw.2.1, hw.2.2.1⟩, hw.2.2.2.1.F ht⟩) hw.2.2.2.1.2.2 hdg hlocks))
theorem z_lret {v : Int64} (hx : p.tables.exec = Jvm.exec) (hb : c.code = cc) (hr : meth.sig.returnType = some .long) (hlocks : meth.locks = false) (hw : zW g A s L f H locs) (hc : cells ≤ mc) (hs : slots ≤ ms) (hdg : decode cc pc = .ok (.lreturn, 1)) (hp : post (some (.long v)) L f) :
    W p l e R s m args below meth c H locs cells slots (vx_MQ below (zQ g A post) (zXC g A px) args s mc ms A) (F0 m pc ls [.long v]) :=
  vx_ret (W.widen hc hs (W.lret hx hb hr (fun t ht hW => ⟨⟨_, L, f, rfl, hp, by rw [ht]; exact hw.2.1, hw.2.2.1⟩, hw.2.2.2.1.F ht⟩) hw.2.2.2.1.2.2 hdg hlocks))
theorem z_fret {v : UInt32} (hx : p.tables.exec = Jvm.exec) (hb : c.code = cc) (hr : meth.sig.returnType = some .float) (hlocks : meth.locks = false) (hw : zW g A s L f H locs) (hc : cells ≤ mc) (hs : slots ≤ ms) (hdg : decode cc pc = .ok (.freturn, 1)) (hp : post (some (.float v)) L f) :
    W p l e R s m args below meth c H locs cells slots (vx_MQ below (zQ g A post) (zXC g A px) args s mc ms A) (F0 m pc ls [.float v]) :=
  vx_ret (W.widen hc hs (W.fret hx hb hr (fun t ht hW => ⟨⟨_, L, f, rfl, hp, by rw [ht]; exact hw.2.1, hw.2.2.1⟩, hw.2.2.2.1.F ht⟩) hw.2.2.2.1.2.2 hdg hlocks))
theorem z_dret {v : UInt64} (hx : p.tables.exec = Jvm.exec) (hb : c.code = cc) (hr : meth.sig.returnType = some .double) (hlocks : meth.locks = false) (hw : zW g A s L f H locs) (hc : cells ≤ mc) (hs : slots ≤ ms) (hdg : decode cc pc = .ok (.dreturn, 1)) (hp : post (some (.double v)) L f) :
    W p l e R s m args below meth c H locs cells slots (vx_MQ below (zQ g A post) (zXC g A px) args s mc ms A) (F0 m pc ls [.double v]) :=
  vx_ret (W.widen hc hs (W.dret hx hb hr (fun t ht hW => ⟨⟨_, L, f, rfl, hp, by rw [ht]; exact hw.2.1, hw.2.2.1⟩, hw.2.2.2.1.F ht⟩) hw.2.2.2.1.2.2 hdg hlocks))
theorem z_vret (hx : p.tables.exec = Jvm.exec) (hb : c.code = cc) (hr : meth.sig.returnType = none) (hlocks : meth.locks = false) (hw : zW g A s L f H locs) (hc : cells ≤ mc) (hs : slots ≤ ms) (hdg : decode cc pc = .ok (.return_, 1)) (hp : post none L f) :
    W p l e R s m args below meth c H locs cells slots (vx_MQ below (zQ g A post) (zXC g A px) args s mc ms A) (F0 m pc ls []) :=
  vx_ret (W.widen hc hs (W.vret hx hb hr (fun t ht hW => ⟨⟨_, L, f, rfl, hp, by rw [ht]; exact hw.2.1, hw.2.2.1⟩, hw.2.2.2.1.F ht⟩) hw.2.2.2.1.2.2 hdg hlocks))
theorem z_aret {v : Nat} {ty : FieldType} (hx : p.tables.exec = Jvm.exec) (hb : c.code = cc) (hr : meth.sig.returnType = some ty) (hlocks : meth.locks = false) (hty : (∃ n, ty = .object n) ∨ ∃ t, ty = .array t) (hw : zW g A s L f H locs) (hc : cells ≤ mc) (hs : slots ≤ ms) (hdg : decode cc pc = .ok (.areturn, 1)) (hp : post (some (.ref v)) L f) :
    W p l e R s m args below meth c H locs cells slots (vx_MQ below (zQ g A post) (zXC g A px) args s mc ms A) (F0 m pc ls [.ref v]) :=
  vx_ret (W.widen hc hs (W.aret hx hb hr hty (Or.inr ⟨_, rfl⟩) (fun t ht hW => ⟨⟨_, L, f, rfl, hp, by rw [ht]; exact hw.2.1, hw.2.2.1⟩, hw.2.2.2.1.F ht⟩) hw.2.2.2.1.2.2 hdg hlocks))
/-- not caught here -/
theorem z_out {E : String} {ce : Cell} {q : Addr} (htab : ∀ x ∈ c.exceptionTable.toList, False) (hlocks : meth.locks = false) (hw : zW g A s L f H locs) (hcell : H[q]? = some ce) (hv : ce.vm = .none) (hcl : s.vm.findClass E = some ce.cls) (hc : cells ≤ mc) (hs : slots ≤ ms) (hp : px E L f) :
    vx_W p l e R s m args below meth c H locs cells slots (vx_MQ below (zQ g A post) (zXC g A px) args s mc ms A) (F0 m pc ls rest) q :=
  vx_out (fun x hx => (htab x hx).elim) hlocks hcell hv hcl (fun t ht hW => ⟨⟨L, f, hp, by rw [ht]; exact hw.2.1, hw.2.2.1⟩, hw.2.2.2.1.F ht⟩) hw.2.2.2.1.2.2 hc hs
/-- throw new E("text") -/
theorem z_throw {E text : String} {ik is ic : Nat} {Ts : List Cond} (hx : p.tables.exec = Jvm.exec) (hb : c.code = cc) (hl : l.stackTraces = false) (hown : s.vm.findClass RX1 = some m.cls) (hts : ∀ w ∈ Ts, w.before args s = true) (hlocks : meth.locks = false) (hml : c.maxLocals = ls.size) (htab : ∀ x ∈ c.exceptionTable.toList, False)
    (hE : E ∈ zEs) (hS : (is, text) ∈ zSs) (hk : Cond.classLink RX1 ik E ∈ Ts) (hini : Cond.initialized E ∈ Ts) (hg : ∀ w ∈ (vx_atS RX1 ic E zNm).filter goodWord, w ∈ Ts) (hng : ∀ w ∈ (vx_atS RX1 ic E zNm).filter (fun w => !goodWord w), w ∈ Cond.castable E E :: zDs.map Cond.declares) (hot : (Cond.classLink RX1 ik E :: Cond.initialized E :: vx_atS RX1 ic E zNm).all vx_ot = true) (hfit : Bundle.fit E = true)
    (hw : zW g A s L f H locs) (hX : zX A s s.heap)
    (d0 : decode cc pc = .ok (.new ik, 3)) (d3 : decode cc (pc + 3) = .ok (.dup, 1)) (d4 : decode cc (pc + 4) = .ok (.ldc is, 2)) (d6 : decode cc (pc + 6) = .ok (.invokespecial ic, 3)) (d9 : decode cc (pc + 9) = .ok (.athrow, 1))
    (hRf : 5 < R.frames) (hRl : (rest.map fun v => v.category).sum + 82 ≤ R.locals) (hRc : cells + 1 ≤ R.cells) (hRs : slots + 6 ≤ R.slots) (hc : cells + 1 ≤ mc) (hs : slots + 6 ≤ ms) (hp : px E L f) :
    W p l e R s m args below meth c H locs cells slots (vx_MQ below (zQ g A post) (zXC g A px) args s mc ms A) (F0 m pc ls rest) := by
  obtain ⟨sa, hsa⟩ := hX.2.2.2.1 _ hS
  have hcast : (Cond.castable E E).before args s = true := va_tabs rfl rfl (hX.2.2.1 E hE)
  refine vx_throwS (own := RX1) (cls := E) (text := text) (names := zNm) (ik := ik) (is := is) (ic := ic) (sa := sa) (A := A) hx hb hl hown hfit (by decide) (hts _ hk) (hts _ hini) hsa
    (vx_hat (fun w h => hts w (hg w h)) hng (vx_c hcast (fun w hw9 => by obtain ⟨y9, hy9, rfl⟩ := List.mem_map.mp hw9; exact va_Nw.use rfl (hX.2.2.2.2.2.1 y9 hy9)))) (fun w h => List.all_eq_true.mp hot w h) hX.1 hX.2.1 hw.2.2.2.1 hml.symm d0 d3 d4 d6 d9 (fun x hx => (htab x hx).elim) hRf hRl hRc hRs hlocks ?_ hw.2.2.2.1.2.2 hc hs
  intro t ht hz hq
  refine ⟨⟨L, f, hp, hw.2.1.kept (fun k x hk => hq x.1 ((hw.2.1 k x hk).lt)), hw.2.2.1⟩, Nat.le_trans hw.2.2.2.1.1 hz, fun q h1 h2 => ?_⟩
  rw [hq q (Nat.lt_of_lt_of_le h1 hw.2.2.2.1.1)]
  exact hw.2.2.2.1.2.1 q h1 h2
/-- throw new NoSuchElementException("text") -/
theorem z_throwN {E text : String} {ik is ic : Nat} {Ts : List Cond} (hx : p.tables.exec = Jvm.exec) (hb : c.code = cc) (hl : l.stackTraces = false) (hown : s.vm.findClass RX1 = some m.cls) (hts : ∀ w ∈ Ts, w.before args s = true) (hlocks : meth.locks = false) (hml : c.maxLocals = ls.size) (htab : ∀ x ∈ c.exceptionTable.toList, False)
    (hE : E ∈ zEs) (hS : (is, text) ∈ zSs) (hk : Cond.classLink RX1 ik E ∈ Ts) (hini : Cond.initialized E ∈ Ts) (hg : ∀ w ∈ (zx_at RX1 ic E zNm).filter goodWord, w ∈ Ts) (hng : ∀ w ∈ (zx_at RX1 ic E zNm).filter (fun w => !goodWord w), w ∈ Cond.castable E E :: zDs.map Cond.declares) (hot : (Cond.classLink RX1 ik E :: Cond.initialized E :: zx_at RX1 ic E zNm).all vx_ot = true) (hfit : E = zx_E)
    (hw : zW g A s L f H locs) (hX : zX A s s.heap)
    (d0 : decode cc pc = .ok (.new ik, 3)) (d3 : decode cc (pc + 3) = .ok (.dup, 1)) (d4 : decode cc (pc + 4) = .ok (.ldc is, 2)) (d6 : decode cc (pc + 6) = .ok (.invokespecial ic, 3)) (d9 : decode cc (pc + 9) = .ok (.athrow, 1))
    (hRf : 5 < R.frames) (hRl : (rest.map fun v => v.category).sum + 82 ≤ R.locals) (hRc : cells + 1 ≤ R.cells) (hRs : slots + 6 ≤ R.slots) (hc : cells + 1 ≤ mc) (hs : slots + 6 ≤ ms) (hp : px E L f) :
    W p l e R s m args below meth c H locs cells slots (vx_MQ below (zQ g A post) (zXC g A px) args s mc ms A) (F0 m pc ls rest) := by
  subst hfit
  obtain ⟨sa, hsa⟩ := hX.2.2.2.1 _ hS
  have hcast : (Cond.castable zx_E zx_E).before args s = true := va_tabs rfl rfl (hX.2.2.1 zx_E hE)
  refine zx_throwS (own := RX1) (Y0 := "java/lang/RuntimeException") (text := text) (names := ["java/lang/Exception"]) (ik := ik) (is := is) (ic := ic) (sa := sa) (A := A) hx hb hl hown (by decide +kernel) (by decide +kernel) (by decide) (by decide +kernel) (hts _ hk) (hts _ hini) hsa
    (vx_hat (fun w h => hts w (hg w h)) hng (vx_c hcast (fun w hw9 => by obtain ⟨y9, hy9, rfl⟩ := List.mem_map.mp hw9; exact va_Nw.use rfl (hX.2.2.2.2.2.1 y9 hy9)))) (fun w h => List.all_eq_true.mp hot w h) hX.1 hX.2.1 hw.2.2.2.1 hml.symm d0 d3 d4 d6 d9 (fun x hx => (htab x hx).elim) hRf hRl hRc hRs hlocks ?_ hw.2.2.2.1.2.2 hc hs
  intro t ht hz hq
  refine ⟨⟨L, f, hp, hw.2.1.kept (fun k x hk => hq x.1 ((hw.2.1 k x hk).lt)), hw.2.2.1⟩, Nat.le_trans hw.2.2.2.1.1 hz, fun q h1 h2 => ?_⟩
  rw [hq q (Nat.lt_of_lt_of_le h1 hw.2.2.2.1.1)]
  exact hw.2.2.2.1.2.1 q h1 h2
end Ends3
-- CALLS
section Calls3
variable {mC sC : Nat} {post : Option Value → List Nat → (Nat → va_E) → Prop} {px : String → List Nat → (Nat → va_E) → Prop} {a : Array Value} {st0 : List Value}
theorem z_go (hw : zW g A s L f H locs) (hr : vx_Run p l e R s m args below meth c H locs cells slots mC sC (F0 m pc ls st0) rest (zQ g (va_A (va_pl L f) H.size) post a) (zXC g (va_A (va_pl L f) H.size) px) (va_A (va_pl L f) H.size))
    (kx : ∀ (E : String) (ce : Cell) (q9 : Addr) (L1 : List Nat) (f1 : Nat → va_E) (H1 : Heap) (locs1 : List Loc), px E L1 f1 → zW g A s L1 f1 H1 locs1 → H1[q9]? = some ce → ce.vm = .none → s.vm.findClass E = some ce.cls → vx_W p l e R s m args below meth c H1 locs1 (cells + mC) (slots + sC) Q (F0 m pc ls rest) q9)
    (kk : ∀ (r : Option Value) (L1 : List Nat) (f1 : Nat → va_E) (H1 : Heap) (locs1 : List Loc), post r L1 f1 → zW g A s L1 f1 H1 locs1 → W p l e R s m args below meth c H1 locs1 (cells + mC) (slots + sC) Q (F0 m (pc + 3) ls (r.toList ++ rest))) : W p l e R s m args below meth c H locs cells slots Q (F0 m pc ls st0) := by
  have hf := hw.free
  intro T hT X
  rcases hr T hT X with ⟨v, st₀, t, T', L9, h0, X', hL, e1, e2, ⟨⟨r, L1, f1, hv, hp, hP1, hD1⟩, hF⟩, st⟩ | ⟨q, st₀, t, T', L9, E, ce, h0, X', hL, e1, e2, ⟨⟨L1, f1, hp, hP1, hD1⟩, hF⟩, hce, hcv, hcl, st⟩
  · cases hv
    obtain ⟨k1, k2, k3⟩ := vx_keep h0 e1 hw.2.2.2.1 (fun q _ h => hf q h) hf hL hF
    obtain ⟨t2, a1, b1⟩ := kk v L1 f1 T'.heap (locs ++ L9) hp ⟨hw.1, by rw [e1]; exact hP1, hD1.weaken (fun k x _ h => hf x.1 h), k3, hw.2.2.2.2⟩ T' rfl X'
    exact ⟨t2, st t2 a1, b1⟩
  · obtain ⟨k1, k2, k3⟩ := vx_keep h0 e1 hw.2.2.2.1 (fun q _ h => hf q h) hf hL hF
    obtain ⟨t2, a1, b1⟩ := kx E ce q L1 f1 T'.heap (locs ++ L9) hp ⟨hw.1, by rw [e1]; exact hP1, hD1.weaken (fun k x _ h => hf x.1 h), k3, hw.2.2.2.2⟩ (by rw [e1]; exact hce) hcv hcl T' rfl X'
    exact ⟨t2, st.trans a1, b1⟩
variable {y : MethodName} {bytes : ByteArray} {maxL nL n index : Nat} {ret : Option FieldType} {ws : List Cond} {rm : Room} {Ts : List Cond} {own C : String} {b : Addr} {As : List Value}
theorem z_callS (F : CallFix p m c cc nL s args Ts own) (hw : zW g A s L f H locs) (hX : zX A s s.heap) (hM : zC l y ws rm mC sC g As L f post px) (cw : CallB R s args own index y bytes maxL ret ws rm mC sC n ∧ (Cond.static y).before args s = true)
    (hn : As.length = n) (hsize : ls.size = nL) (hstack : st0 = As.reverse ++ rest) (hR : (rest.map fun v => v.category).sum ≤ 8) (hdg : decode cc pc = .ok (.invokestatic index, 3)) (hf : cells + mC ≤ R.cells ∧ slots + sC ≤ R.slots)
    (kx : ∀ (E : String) (ce : Cell) (q9 : Addr) (L1 : List Nat) (f1 : Nat → va_E) (H1 : Heap) (locs1 : List Loc), px E L1 f1 → zW g A s L1 f1 H1 locs1 → H1[q9]? = some ce → ce.vm = .none → s.vm.findClass E = some ce.cls → vx_W p l e R s m args below meth c H1 locs1 (cells + mC) (slots + sC) Q (F0 m pc ls rest) q9)
    (kk : ∀ (r : Option Value) (L1 : List Nat) (f1 : Nat → va_E) (H1 : Heap) (locs1 : List Loc), post r L1 f1 → zW g A s L1 f1 H1 locs1 → W p l e R s m args below meth c H1 locs1 (cells + mC) (slots + sC) Q (F0 m (pc + 3) ls (r.toList ++ rest))) : W p l e R s m args below meth c H locs cells slots Q (F0 m pc ls st0) :=
  z_go hw (vx_runS F (hM H.size) cw (z_pre hw hX) rfl hn hsize hstack (lv_room hR) hdg hf) kx kk
theorem z_callV (F : CallFix p m c cc nL s args Ts own) (hw : zW g A s L f H locs) (hX : zX A s s.heap) {ci N : Nat} {T : u_T} {fs : List Value} (hcb : zc L f b (.inr (ci, fs))) (hcl : zCl[ci]? = some (C, T, N)) (hM : zC l y ws rm mC sC g (.ref b :: As) L f post px) (cw : CallW R s args own C index y bytes maxL ret ws rm mC sC n)
    (hn : As.length = n) (hsize : ls.size = nL) (hstack : st0 = As.reverse ++ .ref b :: rest) (hR : (rest.map fun v => v.category).sum ≤ 8) (hdg : decode cc pc = .ok (.invokevirtual index, 3)) (hf : cells + mC ≤ R.cells ∧ slots + sC ≤ R.slots)
    (kx : ∀ (E : String) (ce : Cell) (q9 : Addr) (L1 : List Nat) (f1 : Nat → va_E) (H1 : Heap) (locs1 : List Loc), px E L1 f1 → zW g A s L1 f1 H1 locs1 → H1[q9]? = some ce → ce.vm = .none → s.vm.findClass E = some ce.cls → vx_W p l e R s m args below meth c H1 locs1 (cells + mC) (slots + sC) Q (F0 m pc ls rest) q9)
    (kk : ∀ (r : Option Value) (L1 : List Nat) (f1 : Nat → va_E) (H1 : Heap) (locs1 : List Loc), post r L1 f1 → zW g A s L1 f1 H1 locs1 → W p l e R s m args below meth c H1 locs1 (cells + mC) (slots + sC) Q (F0 m (pc + 3) ls (r.toList ++ rest))) : W p l e R s m args below meth c H locs cells slots Q (F0 m pc ls st0) := by
  obtain ⟨k0, hk0⟩ := hcb.get
  have hp := z_pre (av := .ref b :: As) hw hX
  exact z_go hw (vx_runV F (hM H.size) cw ⟨hp.1, va_recv hw.1 hw.2.1 hcl hk0, hp.2⟩ rfl hn hsize hstack (lv_room hR) hdg hf) kx kk
theorem z_callI (F : CallFix p m c cc nL s args Ts own) (hw : zW g A s L f H locs) (hX : zX A s s.heap) (hM : zC l y ws rm mC sC g (.ref b :: As) L f post px) (cw : CallB R s args own index y bytes maxL none ws rm mC sC n ∧ y.name = "<init>" ∧ (Cond.instanceMethod y).before args s = true)
    (hn : As.length = n) (hsize : ls.size = nL) (hstack : st0 = As.reverse ++ .ref b :: rest) (hR : (rest.map fun v => v.category).sum ≤ 8) (hdg : decode cc pc = .ok (.invokespecial index, 3)) (hf : cells + mC ≤ R.cells ∧ slots + sC ≤ R.slots)
    (kx : ∀ (E : String) (ce : Cell) (q9 : Addr) (L1 : List Nat) (f1 : Nat → va_E) (H1 : Heap) (locs1 : List Loc), px E L1 f1 → zW g A s L1 f1 H1 locs1 → H1[q9]? = some ce → ce.vm = .none → s.vm.findClass E = some ce.cls → vx_W p l e R s m args below meth c H1 locs1 (cells + mC) (slots + sC) Q (F0 m pc ls rest) q9)
    (kk : ∀ (r : Option Value) (L1 : List Nat) (f1 : Nat → va_E) (H1 : Heap) (locs1 : List Loc), post r L1 f1 → zW g A s L1 f1 H1 locs1 → W p l e R s m args below meth c H1 locs1 (cells + mC) (slots + sC) Q (F0 m (pc + 3) ls (r.toList ++ rest))) : W p l e R s m args below meth c H locs cells slots Q (F0 m pc ls st0) :=
  z_go hw (vx_runI F (hM H.size) cw (z_pre hw hX) rfl hn hsize hstack (lv_room hR) hdg hf) kx kk
theorem z_callSN {host : String} (F : CallFix p m c cc nL s args Ts own) (hw : zW g A s L f H locs) (hX : zX A s s.heap) (hM : zC l y ws rm mC sC g As L f post px) (cw : va_CN R s args own index y host bytes maxL ret ws rm mC sC n ∧ (Cond.static y).before args s = true ∧ True)
    (hn : As.length = n) (hsize : ls.size = nL) (hstack : st0 = As.reverse ++ rest) (hR : (rest.map fun v => v.category).sum ≤ 8) (hdg : decode cc pc = .ok (.invokestatic index, 3)) (hf : cells + mC ≤ R.cells ∧ slots + sC ≤ R.slots)
    (kx : ∀ (E : String) (ce : Cell) (q9 : Addr) (L1 : List Nat) (f1 : Nat → va_E) (H1 : Heap) (locs1 : List Loc), px E L1 f1 → zW g A s L1 f1 H1 locs1 → H1[q9]? = some ce → ce.vm = .none → s.vm.findClass E = some ce.cls → vx_W p l e R s m args below meth c H1 locs1 (cells + mC) (slots + sC) Q (F0 m pc ls rest) q9)
    (kk : ∀ (r : Option Value) (L1 : List Nat) (f1 : Nat → va_E) (H1 : Heap) (locs1 : List Loc), post r L1 f1 → zW g A s L1 f1 H1 locs1 → W p l e R s m args below meth c H1 locs1 (cells + mC) (slots + sC) Q (F0 m (pc + 3) ls (r.toList ++ rest))) : W p l e R s m args below meth c H locs cells slots Q (F0 m pc ls st0) :=
  z_go hw (vx_runSN F (hM H.size) cw (z_pre hw hX) rfl hn hsize hstack (lv_room hR) hdg hf) kx kk
end Calls3
-- FIELDS AND ARRAYS
theorem zr_get {own C : String} {T : u_T} {N ci index : Nat} {Ts : List Cond} {a : Nat} {fs : List Value} {v : Value} (hx : p.tables.exec = Jvm.exec) (hb : c.code = cc) (hts : ∀ w ∈ Ts, w.before args s = true) (hin : ∀ w ∈ u_ws C T N, w ∈ Ts) (hown : s.vm.findClass own = some m.cls) (hw : zW g A s L f H locs) (hcb : zc L f a (.inr (ci, fs))) (hcl : zCl[ci]? = some (C, T, N)) (k : Nat) (hk : k < N) (hlink : Cond.fieldLink own index (T k).1 (T k).2.1 (T k).2.2.1 ∈ Ts) (hv : fs[k]? = some v) (hdg : decode cc pc = .ok (.getfield index, 3))
    (kk : W p l e R s m args below meth c H locs cells slots Q (F0 m (pc + 3) ls (v :: rest))) : W p l e R s m args below meth c H locs cells slots Q (F0 m pc ls (.ref a :: rest)) := by
  obtain ⟨k0, hk0⟩ := hcb.get
  exact va_get hx hb hts hin hown hw.1 hw.2.1 k0 hk0 hcl k hk (hts _ hlink) (fun _ h => h) hv hdg kk
theorem zW.put {a k0 : Nat} {e0 e1 : va_E} {H1 : Heap} {locs1 : List Loc} (hw : zW g A s L f H locs) (hcb : zc L f a e0) (hk0 : (va_pl L f)[k0]? = some (a, e0)) (hP : va_P g.1 zCl ((va_pl L f).set k0 (a, e1)) H1) (hD : va_D A ((va_pl L f).set k0 (a, e1))) (hS : va_S A s.heap H1 locs1) : zW g A s L (va_up f a e1) H1 locs1 := by
  have hs := va_pl_set (X := []) (e := e1) hw.2.2.1 hcb.1 (by rw [hcb.2]; exact hk0)
  have hs : (va_pl L f).set k0 (a, e1) = va_pl L (va_up f a e1) := hs
  rw [hs] at hP hD
  exact ⟨hw.1, hP, hD, hS, hw.2.2.2.2⟩
theorem zr_put {own C : String} {T : u_T} {N ci index : Nat} {Ts : List Cond} {a : Nat} {fs : List Value} {v : Value} {ty : FieldType} (hx : p.tables.exec = Jvm.exec) (hb : c.code = cc) (hts : ∀ w ∈ Ts, w.before args s = true) (hin : ∀ w ∈ u_ws C T N, w ∈ Ts) (ty0 : Nat → FieldType) (hty : ∀ k, k < N → parseFieldDescriptor (T k).2.2.1 = some (ty0 k)) (hnm : ∀ a, a < N → ∀ b, b < N → a ≠ b → (T a).2.1 ≠ (T b).2.1) (hown : s.vm.findClass own = some m.cls) (hw : zW g A s L f H locs) (hcb : zc L f a (.inr (ci, fs))) (hcl : zCl[ci]? = some (C, T, N)) (k : Nat) (hk : k < N) (hlink : Cond.fieldLink own index (T k).1 (T k).2.1 (T k).2.2.1 ∈ Ts) (hfin : (T k).2.2.2 = false) (hty1 : ty0 k = ty) (hn : narrow ty v = v) (hfit : fits ty v = true) (hl : k < fs.length) (hdg : decode cc pc = .ok (.putfield index, 3))
    (kk : ∀ (H1 : Heap) (locs1 : List Loc), zW g A s L (va_up f a (.inr (ci, fs.set k v))) H1 locs1 → W p l e R s m args below meth c H1 locs1 cells slots Q (F0 m (pc + 3) ls rest)) : W p l e R s m args below meth c H locs cells slots Q (F0 m pc ls (v :: .ref a :: rest)) := by
  obtain ⟨k0, hk0⟩ := hcb.get
  exact va_put hx hb hts hin ty0 hty hnm hown hw.1 hw.2.1 hw.2.2.1 hw.2.2.2.1 k0 hk0 hcl k hk (hts _ hlink) (fun _ h => h) hfin (by rw [hty k hk, hty1]) hn hfit hl hdg (fun H1 locs1 hP hD hS => kk H1 locs1 (hw.put hcb hk0 hP hD hS))
theorem zr_putF {own C : String} {T : u_T} {N ci index : Nat} {Ts : List Cond} {a : Nat} {fs : List Value} {v : Value} {ty : FieldType} (hx : p.tables.exec = Jvm.exec) (hb : c.code = cc) (hts : ∀ w ∈ Ts, w.before args s = true) (hin : ∀ w ∈ u_ws C T N, w ∈ Ts) (ty0 : Nat → FieldType) (hty : ∀ k, k < N → parseFieldDescriptor (T k).2.2.1 = some (ty0 k)) (hnm : ∀ a, a < N → ∀ b, b < N → a ≠ b → (T a).2.1 ≠ (T b).2.1) (hown : s.vm.findClass own = some m.cls) (hw : zW g A s L f H locs) (hcb : zc L f a (.inr (ci, fs))) (hcl : zCl[ci]? = some (C, T, N)) (k : Nat) (hk : k < N) (hlink : Cond.fieldLink own index (T k).1 (T k).2.1 (T k).2.2.1 ∈ Ts) (hfin : (T k).2.2.2 = true) (hin2 : meth.name = "<init>") (hdecl : (T k).1 = own) (hty1 : ty0 k = ty) (hn : narrow ty v = v) (hfit : fits ty v = true) (hl : k < fs.length) (hdg : decode cc pc = .ok (.putfield index, 3))
    (kk : ∀ (H1 : Heap) (locs1 : List Loc), zW g A s L (va_up f a (.inr (ci, fs.set k v))) H1 locs1 → W p l e R s m args below meth c H1 locs1 cells slots Q (F0 m (pc + 3) ls rest)) : W p l e R s m args below meth c H locs cells slots Q (F0 m pc ls (v :: .ref a :: rest)) := by
  obtain ⟨k0, hk0⟩ := hcb.get
  exact va_putF hx hb hts hin ty0 hty hnm hown hw.1 hw.2.1 hw.2.2.1 hw.2.2.2.1 k0 hk0 hcl k hk (hts _ hlink) (fun _ h => h) hfin hin2 hdecl (by rw [hty k hk, hty1]) hn hfit hl hdg (fun H1 locs1 hP hD hS => kk H1 locs1 (hw.put hcb hk0 hP hD hS))
theorem zr_lald {a n : Nat} {F : Nat → Int64} {i : Int32} (hx : p.tables.exec = Jvm.exec) (hb : c.code = cc) (hw : zW g A s L f H locs) (hcb : zc L f a (.inl (g.2 1, n, .inr (.inl F)))) (hi : vp_in i n) (hdg : decode cc pc = .ok (.laload, 1))
    (kk : W p l e R s m args below meth c H locs cells slots Q (F0 m (pc + 1) ls (.long (F i.toNatClampNeg) :: rest))) : W p l e R s m args below meth c H locs cells slots Q (F0 m pc ls (.int i :: .ref a :: rest)) := by
  obtain ⟨k0, hk0⟩ := hcb.get
  exact va_lald hx hb hw.1 hw.2.1 k0 1 hk0 rfl hi hdg kk
theorem zr_aald {a n : Nat} {F : Nat → Option Nat} {i : Int32} {v : Nat} (hx : p.tables.exec = Jvm.exec) (hb : c.code = cc) (hw : zW g A s L f H locs) (hcb : zc L f a (.inl (g.2 4, n, .inr (.inr (.inr (.inr F)))))) (hi : vp_in i n) (hv : F i.toNatClampNeg = some v) (hdg : decode cc pc = .ok (.aaload, 1))
    (kk : W p l e R s m args below meth c H locs cells slots Q (F0 m (pc + 1) ls (.ref v :: rest))) : W p l e R s m args below meth c H locs cells slots Q (F0 m pc ls (.int i :: .ref a :: rest)) := by
  obtain ⟨k0, hk0⟩ := hcb.get
  exact va_aldq hx hb hw.1 hw.2.1 k0 4 hk0 rfl hi hdg (by rw [hv]; exact kk)
theorem zr_gald {a n : Nat} {F : Nat → Option Nat} {i : Int32} {v : Nat} (hx : p.tables.exec = Jvm.exec) (hb : c.code = cc) (hw : zW g A s L f H locs) (hcb : zc L f a (.inl (g.2 5, n, .inr (.inr (.inr (.inr F)))))) (hi : vp_in i n) (hv : F i.toNatClampNeg = some v) (hdg : decode cc pc = .ok (.aaload, 1))
    (kk : W p l e R s m args below meth c H locs cells slots Q (F0 m (pc + 1) ls (.ref v :: rest))) : W p l e R s m args below meth c H locs cells slots Q (F0 m pc ls (.int i :: .ref a :: rest)) := by
  obtain ⟨k0, hk0⟩ := hcb.get
  have hlt : i.toNatClampNeg < n := Nat.not_le.mp fun q => hi (Or.inr q)
  exact W.aald (v := va_rf (F i.toNatClampNeg)) (ty := .array .long) hx hb (hw.2.1 k0 _ hk0) ((hw.1.2 5 _ rfl).1 n (fun j => va_rf (F j))) rfl (fun q => by cases q) (by show ¬ (i < 0 ∨ (arrV _ _ _).slots.size ≤ _); rw [arrV_size]; exact hi) (by show (arrV _ _ _).slots[_]? = _; rw [arrV_read _ _ hlt]) rfl rfl hdg (by rw [hv]; exact kk)
theorem zr_last {a n : Nat} {F : Nat → Int64} {i : Int32} {x : Int64} (hx : p.tables.exec = Jvm.exec) (hb : c.code = cc) (hw : zW g A s L f H locs) (hcb : zc L f a (.inl (g.2 1, n, .inr (.inl F)))) (hi : vp_in i n) (hdg : decode cc pc = .ok (.lastore, 1))
    (kk : ∀ (H1 : Heap) (locs1 : List Loc), zW g A s L (va_up f a (.inl (g.2 1, n, .inr (.inl (vp_updL F i.toNatClampNeg x))))) H1 locs1 → W p l e R s m args below meth c H1 locs1 cells slots Q (F0 m (pc + 1) ls rest)) : W p l e R s m args below meth c H locs cells slots Q (F0 m pc ls (.long x :: .int i :: .ref a :: rest)) := by
  obtain ⟨k0, hk0⟩ := hcb.get
  exact va_last hx hb hw.1 hw.2.1 hw.2.2.1 hw.2.2.2.1 k0 1 hk0 rfl hi hdg (fun H1 locs1 hP hD hS => kk H1 locs1 (hw.put hcb hk0 hP hD hS))
theorem zr_alen {a t0 : Nat} {cA : ClassId} {x : vp_A} {ty : FieldType} {v : Int32} (hx : p.tables.exec = Jvm.exec) (hb : c.code = cc) (hw : zW g A s L f H locs) (hcb : zc L f a (.inl (cA, x))) (ht : (zTy g)[t0]? = some (cA, ty)) (hv : Int32.ofNat x.1 = v) (hdg : decode cc pc = .ok (.arraylength, 1))
    (kk : W p l e R s m args below meth c H locs cells slots Q (F0 m (pc + 1) ls (.int v :: rest))) : W p l e R s m args below meth c H locs cells slots Q (F0 m pc ls (.ref a :: rest)) := by
  obtain ⟨k0, hk0⟩ := hcb.get
  exact va_alen hx hb hw.1 hw.2.1 k0 t0 hk0 ht hv hdg kk
theorem zW.new {q : Nat} {ed : va_E} {H1 : Heap} (hw : zW g A s L f H locs) (hP : va_P g.1 zCl (va_pl L f ++ [(q, ed)]) H1) (hD : va_D A (va_pl L f ++ [(q, ed)])) (hS : va_S A s.heap H1 locs) : q ∉ L ∧ zW g A s (L ++ [q]) (va_up f q ed) H1 locs := by
  have hq : q ∉ L := va_pl_fresh2 (X := []) hD
  have hs := va_pl_push (f := f) (e := ed) hq
  rw [hs] at hP hD
  exact ⟨hq, hw.1, hP, hD, hS, hw.2.2.2.2⟩
theorem zr_new {own C : String} {T : u_T} {N ci index : Nat} {Ts : List Cond} {fs : List Value} (hx : p.tables.exec = Jvm.exec) (hb : c.code = cc) (hts : ∀ w ∈ Ts, w.before args s = true) (hin : ∀ w ∈ u_ws C T N, w ∈ Ts) (ty0 : Nat → FieldType) (hty : ∀ k, k < N → parseFieldDescriptor (T k).2.2.1 = some (ty0 k)) (hown : s.vm.findClass own = some m.cls) (hcll : Cond.classLink own index C ∈ Ts) (hinst : Cond.instantiable C N ∈ Ts) (hini : Cond.initialized C ∈ Ts) (hw : zW g A s L f H locs) (hcl : zCl[ci]? = some (C, T, N)) (hfs : ∀ j, j < N → defaultValue (ty0 j) = vp_V fs j) (hcells : cells + 1 ≤ R.cells) (hslots : slots + N ≤ R.slots) (hdg : decode cc pc = .ok (.new index, 3))
    (kk : ∀ (q : Nat) (H1 : Heap), q ∉ L → zW g A s (L ++ [q]) (va_up f q (.inr (ci, fs))) H1 locs → W p l e R s m args below meth c H1 locs (cells + 1) (slots + N) Q (F0 m (pc + 3) ls (.ref q :: rest))) : W p l e R s m args below meth c H locs cells slots Q (F0 m pc ls rest) :=
  va_new hx hb hts hin ty0 hty hown (hts _ hcll) (hts _ hinst) (hts _ hini) hw.1 hw.2.1 hw.2.2.1 hw.2.2.2.1 hw.2.2.2.2 hcl hfs hcells hslots hdg (fun q H1 hP hD hS => kk q H1 (hw.new hP hD hS).1 (hw.new hP hD hS).2)
theorem zr_newa {n : Int32} {N' k0 : Nat} {a0 : vp_A} {ty : FieldType} {atype : ArrayType} {Ts : List Cond} (hx : p.tables.exec = Jvm.exec) (hb : c.code = cc) (hts : ∀ w ∈ Ts, w.before args s = true) (harr : Cond.arrayClass (newarray.typeOf atype) ∈ Ts) (hty : newarray.typeOf atype = ty) (hk0 : (zTy g)[k0]? = some (g.2 k0, ty)) (hob : ∀ C, ty ≠ .object C) (hw : zW g A s L f H locs) (ha : ∀ cA : ClassId, vp_cell cA a0 = arrV cA N' (fun _ => defaultValue ty)) (hn : ¬ n < 0) (hN : n.toNatClampNeg = N') (hbytes : N' * componentBytes ty ≤ 536870912) (hcells : cells + 1 ≤ R.cells) (hslots : slots + N' ≤ R.slots) (hdg : decode cc pc = .ok (.newarray atype, 2))
    (kk : ∀ (q : Nat) (H1 : Heap), q ∉ L → zW g A s (L ++ [q]) (va_up f q (.inl (g.2 k0, a0))) H1 locs → W p l e R s m args below meth c H1 locs (cells + 1) (slots + N') Q (F0 m (pc + 2) ls (.ref q :: rest))) : W p l e R s m args below meth c H locs cells slots Q (F0 m pc ls (.int n :: rest)) := by
  refine va_newa hx hb (hts _ harr) hty hw.1 hw.2.1 hw.2.2.1 hw.2.2.2.1 hw.2.2.2.2 ha hn hN hbytes hcells hslots hdg (fun q cA H1 hK hP hD hS => ?_)
  have h1 := (hK.2 6 (cA, ty) rfl).2
  have h2 := (hw.1.2 k0 _ hk0).2
  have he : cA = g.2 k0 := by
    cases ty with
    | object C => exact absurd rfl (hob C)
    | _ => exact Option.some.inj (h1.symm.trans h2)
  subst he
  exact kk q H1 (hw.new hP hD hS).1 (hw.new hP hD hS).2
theorem z_asg (vm : Vm) (c : ClassId) : vm.assignable c c = true := by
  show vm.assignableAux _ c c = true
  unfold Vm.assignableAux
  simp
theorem zr_wast {a n v : Nat} {F : Nat → Option Nat} {fs : List Value} {i : Int32} (hx : p.tables.exec = Jvm.exec) (hb : c.code = cc) (hw : zW g A s L f H locs) (hcb : zc L f a (.inl (g.2 4, n, .inr (.inr (.inr (.inr F)))))) (hcv : zc L f v (.inr (0, fs))) (hi : vp_in i n) (hdg : decode cc pc = .ok (.aastore, 1))
    (kk : ∀ (H1 : Heap) (locs1 : List Loc), zW g A s L (va_up f a (.inl (g.2 4, n, .inr (.inr (.inr (.inr (va_up F i.toNatClampNeg (some v)))))))) H1 locs1 → W p l e R s m args below meth c H1 locs1 cells slots Q (F0 m (pc + 1) ls rest)) : W p l e R s m args below meth c H locs cells slots Q (F0 m pc ls (.ref v :: .int i :: .ref a :: rest)) := by
  obtain ⟨k0, hk0⟩ := hcb.get
  obtain ⟨k1, hk1⟩ := hcv.get
  exact va_astq (r := (RX0, TX0, 8)) hx hb hw.1 hw.2.1 hw.2.2.1 hw.2.2.2.1 k0 4 k1 0 hk0 rfl hk1 rfl hi hdg (fun H1 locs1 hP hD hS => kk H1 locs1 (hw.put hcb hk0 hP hD hS))
theorem zr_gast {a n v n1 : Nat} {F : Nat → Option Nat} {F1 : Nat → Int64} {i : Int32} (hx : p.tables.exec = Jvm.exec) (hb : c.code = cc) (hw : zW g A s L f H locs) (hX : zX A s s.heap) (hcb : zc L f a (.inl (g.2 5, n, .inr (.inr (.inr (.inr F)))))) (hcv : zc L f v (.inl (g.2 1, n1, .inr (.inl F1)))) (hi : vp_in i n) (hdg : decode cc pc = .ok (.aastore, 1))
    (kk : ∀ (H1 : Heap) (locs1 : List Loc), zW g A s L (va_up f a (.inl (g.2 5, n, .inr (.inr (.inr (.inr (va_up F i.toNatClampNeg (some v)))))))) H1 locs1 → W p l e R s m args below meth c H1 locs1 cells slots Q (F0 m (pc + 1) ls rest)) : W p l e R s m args below meth c H locs cells slots Q (F0 m pc ls (.ref v :: .int i :: .ref a :: rest)) := by
  obtain ⟨k0, hk0⟩ := hcb.get
  obtain ⟨k1, hk1⟩ := hcv.get
  have hlt : i.toNatClampNeg < n := Nat.not_le.mp fun q => hi (Or.inr q)
  have h0 : ¬ i < 0 := fun q => hi (Or.inl q)
  obtain ⟨comp, c9, kA, e1, -, e3, e4, e5⟩ := arrayOverA_spec (va_AOA.use (A := #[]) hX.2.2.2.2.2.2.2.1)
  have r5 : s.vm.findClass ("[" ++ (FieldType.array .long).toString) = some (g.2 5) := (hw.1.2 5 _ rfl).2
  have r1 : s.vm.findClass (FieldType.array .long).toString = some (g.2 1) := (hw.1.2 1 _ rfl).2
  have q5 : c9 = g.2 5 := Option.some.inj (e5.symm.trans r5)
  have q1 : comp = g.2 1 := Option.some.inj (e1.symm.trans r1)
  subst q5
  subst q1
  obtain ⟨-, kC, hkC, -⟩ := (hw.1.2 1 _ rfl).1 n1 (fun j => .long (F1 j))
  refine W.aast hx hb (hw.2.1 k0 _ hk0) (fun q h => by cases h) (fun h => by cases h) e3 e4 rfl hkC ⟨h0, by show _ < (arrV _ _ _).slots.size; rw [arrV_size]; exact hlt⟩ (hw.2.1 k1 _ hk1) (fun q h => by cases h) hkC (z_asg _ _) rfl rfl hdg fun H1 e z oq => ?_
  refine kk H1 _ (hw.put hcb hk0 (hw.2.1.set hw.2.2.1 hk0 ?_ oq) (hw.2.2.1.set hk0) (hw.2.2.2.1.put z oq (hw.2.2.1.2 k0 _ hk0)))
  show H1[a]? = some (vp_cell _ _)
  rw [e]
  rw [vp_cell_q, vp_cell_q, arrV_store]
  congr 2
  funext q
  by_cases hq : q = i.toNatClampNeg
  · subst hq
    simp [updV, va_up, va_rf]
  · simp [updV, va_up, hq]
theorem zr_newq {index : Nat} {own : String} {n : Int32} {N' : Nat} {Ts : List Cond} (hx : p.tables.exec = Jvm.exec) (hb : c.code = cc) (hts : ∀ w ∈ Ts, w.before args s = true) (hown : s.vm.findClass own = some m.cls) (hclink : Cond.classLink own index RX0 ∈ Ts) (hw : zW g A s L f H locs) (hX : zX A s s.heap) (hn : ¬ n < 0) (hN : n.toNatClampNeg = N') (hbytes : N' * 4 ≤ 536870912) (hcells : cells + 1 ≤ R.cells) (hslots : slots + N' ≤ R.slots) (hdg : decode cc pc = .ok (.anewarray index, 3))
    (kk : ∀ (q : Nat) (H1 : Heap), q ∉ L → zW g A s (L ++ [q]) (va_up f q (.inl (g.2 4, N', .inr (.inr (.inr (.inr (fun _ => none))))))) H1 locs → W p l e R s m args below meth c H1 locs (cells + 1) (slots + N') Q (F0 m (pc + 3) ls (.ref q :: rest))) : W p l e R s m args below meth c H locs cells slots Q (F0 m pc ls (.int n :: rest)) := by
  refine va_newq hx hb hown (hts _ hclink) hX.2.2.2.2.2.2.1 hw.1 hw.2.1 hw.2.2.1 hw.2.2.2.1 hw.2.2.2.2 hn hN hbytes hcells hslots hdg (fun q cA H1 hK hP hD hS => ?_)
  obtain ⟨kA, comp, -, -, -, h1⟩ := (hK.2 6 (cA, .object RX0) rfl).2
  obtain ⟨kA', comp', -, -, -, h2⟩ := (hw.1.2 4 _ rfl).2
  have he : cA = g.2 4 := Option.some.inj (h1.symm.trans h2)
  subst he
  exact kk q H1 (hw.new hP hD hS).1 (hw.new hP hD hS).2
theorem va_pl_cons {L : List Nat} {f : Nat → va_E} {q : Nat} {e : va_E} (h : q ∉ L) : [(q, e)] ++ va_pl L f = va_pl (q :: L) (va_up f q e) := by
  show (q, e) :: va_pl L f = (q, va_up f q e q) :: va_pl L (va_up f q e)
  rw [va_up_self]
  congr 1
  apply List.map_congr_left
  intro x hx9
  rw [va_up_ne _ _ (show x ≠ q from fun z => h (z ▸ hx9))]
theorem zr_mna {index : Nat} {own : String} {n k : Int32} {N' K' : Nat} {Ts : List Cond} (hx : p.tables.exec = Jvm.exec) (hb : c.code = cc) (hts : ∀ w ∈ Ts, w.before args s = true) (hown : s.vm.findClass own = some m.cls) (hclink : Cond.classLink own index "[[J" ∈ Ts) (harr : Cond.arrayClass .long ∈ Ts) (hw : zW g A s L f H locs) (hX : zX A s s.heap) (hn : ¬ n < 0) (hk : ¬ k < 0) (hN : n.toNatClampNeg = N') (hM : k.toNatClampNeg = K') (hb1 : N' * 4 ≤ 536870912) (hb2 : K' * componentBytes .long ≤ 536870912) (hb3 : K' ≤ 536870912) (hcells : cells + (1 + N') ≤ R.cells) (hslots : slots + (N' + N' * K') ≤ R.slots) (hdg : decode cc pc = .ok (.multianewarray index 2, 4))
    (hz : ∀ c : ClassId, Jvm.Free.Multi.innerC c K' (defaultValue .long) = vp_cell c (K', .inr (.inl (fun _ => 0))))
    (kk : ∀ (q : Nat) (r : Nat → Nat) (H1 : Heap), (∀ i j : Nat, i < N' → j < N' → r i = r j → i = j) → (∀ i : Nat, i < N' → r i ∉ L) → q ∉ L ++ (List.range N').map r → zW g A s (q :: (L ++ (List.range N').map r)) (va_up (vr_up f ((List.range N').map r) (.inl (g.2 1, K', .inr (.inl (fun _ => 0))))) q (.inl (g.2 5, N', .inr (.inr (.inr (.inr (fun i => if i < N' then some (r i) else none))))))) H1 locs →
      W p l e R s m args below meth c H1 locs (cells + 1 + N') (slots + N' + N' * K') Q (F0 m (pc + 4) ls (.ref q :: rest))) : W p l e R s m args below meth c H locs cells slots Q (F0 m pc ls (.int k :: .int n :: rest)) := by
  have r1 : s.vm.findClass (FieldType.array .long).toString = some (g.2 1) := (hw.1.2 1 _ rfl).2
  refine va_mna (X := []) (ty := .long) (cy := g.2 1) (z := (K', .inr (.inl (fun _ => 0)))) hx hb hown (hts _ hclink) hX.2.2.2.2.2.2.2.1 (hts _ harr) r1 hw.1 hw.2.1 hw.2.2.1 hw.2.2.2.1 hw.2.2.2.2 hn hk hN hM hb1 hb2 hb3 rfl rfl hcells hslots hz hdg (fun q r cA H1 hr hrL hK hP hD hS => ?_)
  have h1 : s.vm.findClass _ = some cA := (hK.2 6 (cA, .array .long) rfl).2
  have h2 : s.vm.findClass _ = some (g.2 5) := (hw.1.2 5 _ rfl).2
  have he : cA = g.2 5 := Option.some.inj (h1.symm.trans h2)
  subst he
  have hq : q ∉ L ++ (List.range N').map r := by
    intro h
    have hD1 : va_D A ([(q, .inl (g.2 5, N', .inr (.inr (.inr (.inr (fun i => if i < N' then some (r i) else none))))))] ++ va_pl (L ++ (List.range N').map r) (vr_up f ((List.range N').map r) (.inl (g.2 1, K', .inr (.inl (fun _ => 0)))))) := hD
    obtain ⟨k, hk⟩ := List.getElem?_of_mem (show (q, vr_up f ((List.range N').map r) (.inl (g.2 1, K', .inr (.inl (fun _ => 0)))) q) ∈ va_pl (L ++ (List.range N').map r) (vr_up f ((List.range N').map r) (.inl (g.2 1, K', .inr (.inl (fun _ => 0))))) from List.mem_map.mpr ⟨q, h, rfl⟩)
    have := hD1.1 0 (k + 1) _ _ rfl hk rfl
    omega
  have hs := va_pl_cons (f := vr_up f ((List.range N').map r) (.inl (g.2 1, K', .inr (.inl (fun _ => 0))))) (e := .inl (g.2 5, N', .inr (.inr (.inr (.inr (fun i => if i < N' then some (r i) else none)))))) hq
  have hP : va_P g.1 zCl ([(q, _)] ++ va_pl _ _) H1 := hP
  have hD : va_D A ([(q, _)] ++ va_pl _ _) := hD
  rw [hs] at hP hD
  exact kk q r H1 hr hrL hq ⟨hw.1, hP, hD, hS, hw.2.2.2.2⟩
theorem zr_copyl {a n0 : Nat} {F : Nat → Int64} {own : String} {index : Nat} {sp dp n : Int32} {Ts : List Cond} (hx : p.tables.exec = Jvm.exec) (hb : c.code = cc) (hml : c.maxLocals = ls.size) (hts : ∀ w ∈ Ts, w.before args s = true) (hown : s.vm.findClass own = some m.cls) (hlink : Cond.methodLink own index arraycopyName ∈ Ts) (hnat : Cond.native arraycopyName ∈ Ts) (hstat : Cond.static arraycopyName ∈ Ts) (hini : Cond.initialized "java/lang/System" ∈ Ts) (hw : zW g A s L f H locs) (hcb : zc L f a (.inl (g.2 1, n0, .inr (.inl F)))) (h1 : ¬ sp < 0) (h2 : ¬ dp < 0) (h3 : ¬ n < 0) (h4 : sp.toNatClampNeg + n.toNatClampNeg ≤ n0) (h5 : dp.toNatClampNeg + n.toNatClampNeg ≤ n0) (hframes : 1 ≤ R.frames) (hlocals : (rest.map fun v => v.category).sum + (nativeFrameWords "java/lang/System" "arraycopy" 5 + 11) ≤ R.locals) (hdg : decode cc pc = .ok (.invokestatic index, 3))
    (kk : ∀ (H1 : Heap) (locs1 : List Loc), zW g A s L (va_up f a (.inl (g.2 1, n0, .inr (.inl (va_cpy F F sp.toNatClampNeg dp.toNatClampNeg n.toNatClampNeg))))) H1 locs1 → W p l e R s m args below meth c H1 locs1 cells slots Q (F0 m (pc + 3) ls rest)) : W p l e R s m args below meth c H locs cells slots Q (F0 m pc ls (.int n :: .int dp :: .ref a :: .int sp :: .ref a :: rest)) := by
  obtain ⟨k0, hk0⟩ := hcb.get
  exact va_copyl (ty := .long) hx hb hml hown (hts _ hlink) (hts _ hnat) (hts _ hstat) (hts _ hini) hw.1 hw.2.1 hw.2.2.1 hw.2.2.2.1 k0 k0 1 1 hk0 hk0 rfl rfl rfl h1 h2 h3 h4 h5 (fun _ _ => rfl) hframes hlocals hdg (fun H1 locs1 hP hD hS => kk H1 locs1 (hw.put hcb hk0 hP hD hS))
end Z3

