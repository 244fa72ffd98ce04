/-! THE CLAIM OUT OF ONE WALK OF THE LAW'S BODY. Your part is whole_start (and what it stands on); all else here is the same for every law, but numbers. -/
def R_law : String := "WindowhouseLaw"
def lw_P (b : Addr) (xs : List Int32) (args : Array Value) (s : State) : Prop := args = #[.ref b] ∧ s.IntsAt b xs ∧ xs.length ≤ 3584 ∧ (Jvm.Cond.and given_1 narrow_1).before args s = true
/-- what a walk over the start with the record d0 says of its end, said of the start itself -/
theorem lw_closed {s t : State} {o : Outcome} {d0 : Drawn} {L : List Loc} {k n : Nat} (hd0 : s.drawn.sameBut d0 lw_cs) (hv : ∃ v, o = .returned v) (hW : (s.setDrawn d0).WarmedH t.vm) (hs : (s.setDrawn d0).sameButNew ({ t with vm := s.vm } : State) L k n) : State.butDraws s t lw_cs (fun t1 => Framed s o t1 L k n) := by
  have h2 : t.drawn = d0 := congrArg State.drawn hs.1
  refine ⟨⟨hv, hW, State.sameButNew.setDrawn hs s.drawn⟩, ?_, by decide⟩
  rw [h2]
  exact hd0
def lw_Q (_ : Array Value) (s : State) (o : Outcome) (t : State) : Prop := o = .returned (some (.int 1)) ∧ State.butDraws s t lw_cs (fun t1 => Framed s o t1 [] 603072 7215210)
def lw_Z (below : List Frame) (a : Array Value) (s : State) : State → Prop := fun t => ∃ o, t.status = .running ∧ Ended t below o ∧ lw_Q a s o t
/-- the law's own end, with 1 on the stack, nothing written that was there before, its room as the claim has it; d0: the record of draws at this point (at the entry s.drawn: begin with 'refine W.base ?_' and 'have hd0 := Drawn.sameBut.refl s.drawn lw_cs') -/
theorem lw_ret {p : Program} {l : Launch} {e : Env} {s : State} {m : MethodId} {below : List Frame} {meth : Method} {c : Code} {b : Nat} {d0 : Drawn} (hd0 : s.drawn.sameBut d0 lw_cs) (hx : p.tables.exec = Jvm.exec) (hb : c.code = code) (hr : meth.sig.returnType = ret) (hlocks : meth.locks = false) {pc : Nat} {H : Heap} {ls : Array Slot} (hdg : decode code pc = .ok (.ireturn, 1)) : W p l e room_1 (s.setDrawn d0) m #[Value.ref b] below meth c H [] 603072 7215210 (lw_Z below #[Value.ref b] s) (F0 m pc ls [.int 1]) := by
  intro T hT X
  obtain ⟨fs, hret, hrun, hended, hW, hframe⟩ := X.leave (v := some (.int 1)) (hlocks := hlocks) (fun h => by rw [hr] at h; cases h)
  have hmeth' : T.vm.method? m = some meth := X.method'
  refine ⟨T.setFrames fs, ?_, .returned (some (.int 1)), hrun, hended, rfl, lw_closed hd0 ⟨_, rfl⟩ hW hframe⟩
  jvm_step X.here [X.here.top, hx, hb, hdg, hmeth', hr, ret, narrow_b1]
  (try refine ⟨rfl, ?_⟩); (try refine ⟨rfl, ?_⟩)
  first | (intro acts; rw [hret _ acts rfl rfl rfl]) | rw [hret _ _ rfl rfl rfl]
  exact Steps.refl _
/-- what holds at the law's entry: the machine, the code, the tables' words (any of lw_tbl by 'hts w (by decide +kernel)'), the script of L ints xs at the cell b, what the Statement gives of the start (any of its parts by flat_of_before) -/
def lw_At (p : Program) (s : State) (m : MethodId) (meth : Method) (c : Code) (b L : Nat) (xs : Nat → Int32) : Prop :=
  p.tables.exec = Jvm.exec ∧ c.code = code ∧ meth.sig.returnType = ret ∧ c.maxLocals = 9 ∧ s.vm.findClass R_law = some m.cls ∧ (∀ w ∈ lw_tbl, w.before #[Value.ref b] s = true) ∧ va_X b L xs s s.heap ∧ b < s.heap.size ∧ meth.locks = false ∧ (Jvm.Cond.and given_1 narrow_1).before #[Value.ref b] s = true

section Z23
variable {g : zG} {h : Nat} {P : Nat → Prop} {σ : ZS} {L L1 : List Nat} {f f1 : Nat → va_E}
theorem zHC_ext (H : zHC g h (fun _ => False) σ L f) (hk : ∀ b, b ∈ L → b ∈ L1 ∧ f1 b = f b) (hP9 : ∀ b, P b → b ∈ L1 ∧ b ∉ L) : zHC g h P σ L1 f1 := by
  obtain ⟨ah, G, Rw, rs, wn, ad, ln, kd, ct, h0, hE, hG, hRw, hrd, hw, hdd, hin, hP, hPL, hI⟩ := H
  refine ⟨ah, G, Rw, rs, wn, ad, ln, kd, ct, h0, ⟨fun k hk9 => ⟨(hk _ (hE.1 k hk9).1).1, (hk _ (hE.1 k hk9).1).2.trans (hE.1 k hk9).2⟩, hE.2⟩, hG, hRw, hrd, hw, fun d hd hl => ?_, hin, fun k hk9 q => (hP9 _ q).2 (hE.1 k hk9).1, fun b hb => (hP9 b hb).1, hI⟩
  obtain ⟨a1, a2, a3⟩ := hdd d hd hl
  exact ⟨⟨(hk _ a1.1).1, (hk _ a1.1).2.trans a1.2⟩, a2, fun q => (hP9 _ q).2 a1.1⟩
theorem zHE.push {am : Nat → Nat} {n : Nat} {E : Nat → va_E} (H : zHE L f am n E) {q : Nat} {e : va_E} (hq : q ∉ L) : zHE (L ++ [q]) (va_up f q e) am n E := ⟨fun k hk => (H.1 k hk).push hq, H.2⟩
theorem z_gd {N j : Nat} (hN : N ≤ 3584) (h : nI (7 * j) ≤ Int32.ofNat N - 7) (hj : 7 * j ≤ N) : 7 * j + 7 ≤ N := by
  by_cases q : 7 ≤ N
  · have e : Int32.ofNat N - 7 = nI (N - 7) := pk_sub (a := N) (b := 7) q
    rw [e, nI_leI (by omega) (by omega)] at h
    omega
  · exfalso
    have hj0 : j = 0 := by omega
    subst hj0
    match N, q with
    | 0, _ => revert h; decide
    | 1, _ => revert h; decide
    | 2, _ => revert h; decide
    | 3, _ => revert h; decide
    | 4, _ => revert h; decide
    | 5, _ => revert h; decide
    | 6, _ => revert h; decide
    | n + 7, q => exact q (by omega)
theorem z_sw (x : Int32) : (∃ v, v < 39 ∧ x = nI v) ∨ (x.toInt < 0 ∨ 38 < x.toInt) := by
  by_cases h0 : x < 0
  · rw [Int32.lt_iff_toInt_lt] at h0
    exact Or.inr (Or.inl h0)
  · obtain ⟨k, hk, rfl⟩ := nI_of h0
    rw [nI_toInt hk]
    by_cases h1 : k < 39
    · exact Or.inl ⟨k, h1, rfl⟩
    · exact Or.inr (Or.inr (by omega))
theorem zfsX1 : ∀ j, j < 4 → defaultValue (tyX1 j) = vp_V [.null, .null, .null, .null] j := fun j hj => by
  match j, hj with
  | 0, _ => rfl
  | 1, _ => rfl
  | 2, _ => rfl
  | 3, _ => rfl
theorem zfsX2 : ∀ j, j < 13 → defaultValue (tyX2 j) = vp_V [.null, .null, .null, .null, .null, .null, .null, .null, .null, .null, .null, .null, .int 0] j := fun j hj => by
  match j, hj with
  | 0, _ => rfl
  | 1, _ => rfl
  | 2, _ => rfl
  | 3, _ => rfl
  | 4, _ => rfl
  | 5, _ => rfl
  | 6, _ => rfl
  | 7, _ => rfl
  | 8, _ => rfl
  | 9, _ => rfl
  | 10, _ => rfl
  | 11, _ => rfl
  | 12, _ => rfl
theorem hs_cl1 : Cond.classLink RL 8 RX1 ∈ wsL_law := by decide +kernel
theorem hs_in1 : Cond.instantiable RX1 4 ∈ wsL_law := by decide +kernel
theorem hs_ii1 : Cond.initialized RX1 ∈ wsL_law := by decide +kernel
theorem hs_cl2 : Cond.classLink RL 150 RX2 ∈ wsL_law := by decide +kernel
theorem hs_in2 : Cond.instantiable RX2 13 ∈ wsL_law := by decide +kernel
theorem hs_ii2 : Cond.initialized RX2 ∈ wsL_law := by decide +kernel
theorem hs_al : Cond.arrayClass (newarray.typeOf .long) ∈ wsL_law := by decide +kernel
theorem hs_ad : Cond.arrayClass (newarray.typeOf .double) ∈ wsL_law := by decide +kernel
theorem z_arr {s : State} {args : Array Value} {ty : FieldType} (h : (Cond.arrayClass ty).before args s = true) (ho : ∀ C, ty ≠ .object C) : ∃ cA : ClassId, ArrOfT s cA ty ∧ va_RA s cA ty := by
  obtain ⟨c, k, comp, h1, h2, h3⟩ := Cond.arrayClass_spec h
  refine ⟨c, fun n z => ⟨(fun q e => by cases e), k, h2, comp, h3⟩, ?_⟩
  cases ty with
  | object C => exact absurd rfl (ho C)
  | _ => exact h1
theorem z_arrO {s : State} {args : Array Value} {C : String} (h : (Cond.arrayOver (.object C)).before args s = true) : ∃ cA : ClassId, ArrOfT s cA (.object C) ∧ va_RA s cA (.object C) := by
  obtain ⟨comp, c, k, h1, -, h2, h3, h4⟩ := Cond.arrayOver_spec h
  exact ⟨c, fun n z => ⟨(fun q e => by cases e), k, h2, comp, h3⟩, k, comp, h2, h3, h1, h4⟩
theorem z_arrA {s : State} {args : Array Value} {ty : FieldType} (h : (Cond.arrayOver (.array ty)).before args s = true) : ∃ cA : ClassId, ArrOfT s cA (.array ty) ∧ va_RA s cA (.array ty) := by
  obtain ⟨comp, c, k, h1, -, h2, h3, h4⟩ := arrayOverA_spec h
  exact ⟨c, fun n z => ⟨(fun q e => by cases e), k, h2, comp, h3⟩, h4⟩
/-- what a throw needs, out of the tables and the start -/
theorem z_X0 {s : State} {args : Array Value} {cur : ClassId} (hts : ∀ w ∈ lw_tbl, w.before args s = true) (hown1 : s.vm.findClass RX1 = some cur) (hflat : ∀ w ∈ flatC narrow_1, w.before args s = true) : zX (fun q => s.heap.size ≤ q) s s.heap := by
  have hA : ∀ a : Nat, a < s.heap.size → ¬ (fun q => s.heap.size ≤ q) a := fun a h => Nat.not_le.mpr h
  refine ⟨vx_Zqof (args := args) (hts _ (by decide +kernel)) (hts (.initialized "java/lang/Throwable") (by decide +kernel)) (hflat _ (by decide +kernel)) hA, vx_Zqof (args := args) (hts _ (by decide +kernel)) (hts (.initialized "java/lang/Throwable") (by decide +kernel)) (hflat _ (by decide +kernel)) hA, fun x hx => ?_, fun q hq => ?_, fun q hq => ?_, fun y hy => ?_, va_AO.of (hts (.arrayOver (.object RX0)) (by decide +kernel)), va_AOA.of (hts (.arrayOver (.array .long)) (by decide +kernel)), fun q hq => ?_⟩
  · exact va_Nw.of rfl (hts (.castable x x) ((by decide +kernel : ∀ x ∈ zEs, Cond.castable x x ∈ lw_tbl) x hx))
  · have h := hts (.stringRef RX1 q.1 q.2) ((by decide +kernel : ∀ q ∈ zSs, Cond.stringRef RX1 q.1 q.2 ∈ lw_tbl) q hq)
    obtain ⟨-, -, -, a, -, -, -, -, -, hev⟩ := Cond.stringRef_spec hown1 h
    exact ⟨a, vk_R.of h hev⟩
  · exact va_Nw.of rfl (hts (.methodLinkNest q.1 q.2.1 q.2.2.1 q.2.2.2) ((by decide +kernel : ∀ q ∈ zNs, Cond.methodLinkNest q.1 q.2.1 q.2.2.1 q.2.2.2 ∈ lw_tbl) q hq))
  · exact va_Nw.of rfl (hts (.declares y) ((by decide +kernel : ∀ y ∈ zDs, Cond.declares y ∈ lw_tbl) y hy))
  · exact va_Nc.of (hflat (.not (.castable q.1 q.2)) ((by decide +kernel : ∀ q ∈ zPs, Cond.not (Cond.castable q.1 q.2) ∈ flatC narrow_1) q hq))
end Z23
