/-! THE STATE OF THE REFERENCE, as functions: stores, kinds, store, from, size, place, end, mark, reads, rowStore, rowSize -/
abbrev ZF : Type := Nat → Int32
abbrev ZS : Type := (Nat → Int64) × ZF × ZF × ZF × ZF × ZF × ZF × ZF × ZF × ZF × ZF
abbrev zST (σ : ZS) : Nat → Int64 := σ.1
abbrev zK (σ : ZS) : ZF := σ.2.1
abbrev zSI (σ : ZS) : ZF := σ.2.2.1
abbrev zFR (σ : ZS) : ZF := σ.2.2.2.1
abbrev zSZ (σ : ZS) : ZF := σ.2.2.2.2.1
abbrev zPL (σ : ZS) : ZF := σ.2.2.2.2.2.1
abbrev zEN (σ : ZS) : ZF := σ.2.2.2.2.2.2.1
abbrev zMK (σ : ZS) : ZF := σ.2.2.2.2.2.2.2.1
abbrev zRD (σ : ZS) : ZF := σ.2.2.2.2.2.2.2.2.1
abbrev zRS (σ : ZS) : ZF := σ.2.2.2.2.2.2.2.2.2.1
abbrev zRL (σ : ZS) : ZF := σ.2.2.2.2.2.2.2.2.2.2
abbrev zsST (σ : ZS) (x : Nat → Int64) : ZS := (x, zK σ, zSI σ, zFR σ, zSZ σ, zPL σ, zEN σ, zMK σ, zRD σ, zRS σ, zRL σ)
abbrev zsK (σ : ZS) (x : ZF) : ZS := (zST σ, x, zSI σ, zFR σ, zSZ σ, zPL σ, zEN σ, zMK σ, zRD σ, zRS σ, zRL σ)
abbrev zsSI (σ : ZS) (x : ZF) : ZS := (zST σ, zK σ, x, zFR σ, zSZ σ, zPL σ, zEN σ, zMK σ, zRD σ, zRS σ, zRL σ)
abbrev zsFR (σ : ZS) (x : ZF) : ZS := (zST σ, zK σ, zSI σ, x, zSZ σ, zPL σ, zEN σ, zMK σ, zRD σ, zRS σ, zRL σ)
abbrev zsSZ (σ : ZS) (x : ZF) : ZS := (zST σ, zK σ, zSI σ, zFR σ, x, zPL σ, zEN σ, zMK σ, zRD σ, zRS σ, zRL σ)
abbrev zsPL (σ : ZS) (x : ZF) : ZS := (zST σ, zK σ, zSI σ, zFR σ, zSZ σ, x, zEN σ, zMK σ, zRD σ, zRS σ, zRL σ)
abbrev zsEN (σ : ZS) (x : ZF) : ZS := (zST σ, zK σ, zSI σ, zFR σ, zSZ σ, zPL σ, x, zMK σ, zRD σ, zRS σ, zRL σ)
abbrev zsMK (σ : ZS) (x : ZF) : ZS := (zST σ, zK σ, zSI σ, zFR σ, zSZ σ, zPL σ, zEN σ, x, zRD σ, zRS σ, zRL σ)
abbrev zsRD (σ : ZS) (x : ZF) : ZS := (zST σ, zK σ, zSI σ, zFR σ, zSZ σ, zPL σ, zEN σ, zMK σ, x, zRS σ, zRL σ)
abbrev zsRS (σ : ZS) (x : ZF) : ZS := (zST σ, zK σ, zSI σ, zFR σ, zSZ σ, zPL σ, zEN σ, zMK σ, zRD σ, x, zRL σ)
abbrev zsRL (σ : ZS) (x : ZF) : ZS := (zST σ, zK σ, zSI σ, zFR σ, zSZ σ, zPL σ, zEN σ, zMK σ, zRD σ, zRS σ, x)
/-- n fixed cells, apart -/
def zHE (L : List Nat) (f : Nat → va_E) (am : Nat → Nat) (n : Nat) (E : Nat → va_E) : Prop := (∀ k, k < n → zc L f (am k) (E k)) ∧ ∀ i j, i < n → j < n → am i = am j → i = j
theorem zHE.up {L : List Nat} {f : Nat → va_E} {am : Nat → Nat} {n : Nat} {E E1 : Nat → va_E} (h : zHE L f am n E) (j : Nat) (hj : j < n) (e : va_E) (he : E1 j = e) (hE : ∀ k, k < n → k ≠ j → E1 k = E k) : zHE L (va_up f (am j) e) am n E1 := by
  refine ⟨fun k hk => ?_, h.2⟩
  by_cases q : k = j
  · subst q
    rw [he]
    exact zc.up (h.1 k hk).1
  · rw [hE k hk q]
    exact (h.1 k hk).ne (fun z => q (h.2 k j hk hj z))
/-- the reference's cells: the object, its twelve rows -/
def zMe (g : zG) (am : Nat → Nat) (σ : ZS) (bs : Nat → Int64) (th : Int32) : Nat → va_E := fun k => match k with
  | 0 => .inr (2, [.ref (am 1), .ref (am 2), .ref (am 3), .ref (am 4), .ref (am 5), .ref (am 6), .ref (am 7), .ref (am 8), .ref (am 9), .ref (am 10), .ref (am 11), .ref (am 12), .int th])
  | 1 => .inl (g.2 1, 704, .inr (.inl (zST σ)))
  | 2 => .inl (g.2 0, 8, .inl (zK σ))
  | 3 => .inl (g.2 0, 8, .inl (zSI σ))
  | 4 => .inl (g.2 0, 8, .inl (zFR σ))
  | 5 => .inl (g.2 0, 8, .inl (zSZ σ))
  | 6 => .inl (g.2 0, 8, .inl (zPL σ))
  | 7 => .inl (g.2 0, 8, .inl (zEN σ))
  | 8 => .inl (g.2 0, 8, .inl (zMK σ))
  | 9 => .inl (g.2 2, 8, .inl (zRD σ))
  | 10 => .inl (g.2 0, 2, .inl (zRS σ))
  | 11 => .inl (g.2 0, 2, .inl (zRL σ))
  | _ => .inl (g.2 1, 64, .inr (.inl bs))
/-- the reference holds σ; besides its cells all is as in f0 -/
def zM (g : zG) (am : Nat → Nat) (f0 : Nat → va_E) (σ : ZS) (bs : Nat → Int64) (th : Int32) (L : List Nat) (f : Nat → va_E) : Prop :=
  zHE L f am 13 (zMe g am σ bs th) ∧ ∀ b, (∀ k, k < 13 → b ≠ am k) → f b = f0 b
theorem zM.rf {g : zG} {am : Nat → Nat} {σ : ZS} {bs : Nat → Int64} {th : Int32} {L : List Nat} {f0 f : Nat → va_E} (h : zM g am f0 σ bs th L f) : zM g am f σ bs th L f := ⟨h.1, fun _ _ => rfl⟩
theorem zM.tr {g : zG} {am : Nat → Nat} {σ σ1 : ZS} {bs bs1 : Nat → Int64} {th th1 : Int32} {L : List Nat} {f0 f f1 : Nat → va_E} (h : zM g am f0 σ bs th L f) (h1 : zM g am f σ1 bs1 th1 L f1) : zM g am f0 σ1 bs1 th1 L f1 := ⟨h1.1, fun b hb => (h1.2 b hb).trans (h.2 b hb)⟩
theorem zM.up {g : zG} {am : Nat → Nat} {f0 : Nat → va_E} {σ σ1 : ZS} {bs bs1 : Nat → Int64} {th th1 : Int32} {L : List Nat} {f : Nat → va_E} (h : zM g am f0 σ bs th L f) (j : Nat) (hj : j < 13) (e : va_E) (he : zMe g am σ1 bs1 th1 j = e) (hE : ∀ k, k < 13 → k ≠ j → zMe g am σ1 bs1 th1 k = zMe g am σ bs th k) : zM g am f0 σ1 bs1 th1 L (va_up f (am j) e) :=
  ⟨h.1.up j hj e he hE, fun b hb => (va_up_ne _ _ (hb j hj)).trans (h.2 b hb)⟩
def zb (b : Bool) : Int32 := if b = true then 1 else 0
theorem zb_t : zb true = 1 := rfl
theorem zb_f : zb false = 0 := rfl
theorem zb_0 {b : Bool} : zb b = 0 ↔ ¬ b = true := by cases b <;> decide
theorem zb_n {b : Bool} : narrow .boolean (.int (zb b)) = .int (zb b) := by cases b <;> rfl
theorem zb_ft {b : Bool} : fits .boolean (.int (zb b)) = true := by cases b <;> rfl
theorem zb_v {b : Bool} : vp_nar .boolean (zb b) = zb b := by cases b <;> rfl
def zin (v lo hi : Int32) : Bool := decide (lo ≤ v) && decide (v ≤ hi)
theorem zin_t {v lo hi : Int32} : zin v lo hi = true ↔ lo ≤ v ∧ v ≤ hi := by simp [zin]
def zis (σ : ZS) (w : Int32) : Bool := zin w 0 7 && decide (¬ zK σ w.toNatClampNeg = 0)
theorem zis_t {σ : ZS} {w : Int32} : zis σ w = true ↔ (0 ≤ w ∧ w ≤ 7) ∧ ¬ zK σ w.toNatClampNeg = 0 := by simp [zis, zin]
theorem zi_ix {w : Int32} {n : Nat} {hi : Int32} (hh : hi.toInt < n) (h : 0 ≤ w ∧ w ≤ hi) : vp_in w n := by
  rw [vp_in_iff]
  have h1 := Int32.le_iff_toInt_le.mp h.1
  have h2 := Int32.le_iff_toInt_le.mp h.2
  have h3 : (0 : Int32).toInt = 0 := rfl
  omega
theorem zin_7 {w : Int32} (h : zin w 0 7 = true) : vp_in w 8 := zi_ix (by decide) (zin_t.mp h)
theorem zin_1 {w : Int32} (h : zin w 0 1 = true) : vp_in w 2 := zi_ix (by decide) (zin_t.mp h)
theorem zis_7 {σ : ZS} {w : Int32} (h : zis σ w = true) : vp_in w 8 := zi_ix (by decide) (zis_t.mp h).1
theorem zin_f {v lo hi : Int32} (h : v < lo ∨ hi < v) : zin v lo hi = false := by
  rcases h with h | h <;> simp [zin, Int32.not_le.mpr h]
section Z4
variable {p : Program} {l : Launch} {e : Env} {R : Room} {s : State} {m : MethodId} {args : Array Value} {below : List Frame} {meth : Method} {c : Code} {H : Heap} {locs : List Loc} {cells slots : Nat} {Q : State → Prop}
variable {cc : ByteArray} {pc : Nat} {ls : Array Slot} {rest : List Value} {g : zG} {A : Nat → Prop} {L : List Nat} {f f0 : Nat → va_E} {am : Nat → Nat} {σ : ZS} {bs : Nat → Int64} {th : Int32}
/-- branches on a boolean -/
theorem zr_beq {b : Bool} {off : Int} {tgt : Nat} (hx : p.tables.exec = Jvm.exec) (hb : c.code = cc) (hdg : decode cc pc = .ok (.ifCond .eq off, 3)) (ht : (pc : Int) + off = (tgt : Int))
    (kt : ¬ b = true → W p l e R s m args below meth c H locs cells slots Q (F0 m tgt ls rest)) (kf : b = true → W p l e R s m args below meth c H locs cells slots Q (F0 m (pc + 3) ls rest)) : W p l e R s m args below meth c H locs cells slots Q (F0 m pc ls (.int (zb b) :: rest)) :=
  lv_if_eq hx hb hdg ht (fun h => kt (zb_0.mp h)) (fun h => kf (Decidable.not_not.mp (fun q => h (zb_0.mpr q))))
theorem zr_bne {b : Bool} {off : Int} {tgt : Nat} (hx : p.tables.exec = Jvm.exec) (hb : c.code = cc) (hdg : decode cc pc = .ok (.ifCond .ne off, 3)) (ht : (pc : Int) + off = (tgt : Int))
    (kt : b = true → W p l e R s m args below meth c H locs cells slots Q (F0 m tgt ls rest)) (kf : ¬ b = true → W p l e R s m args below meth c H locs cells slots Q (F0 m (pc + 3) ls rest)) : W p l e R s m args below meth c H locs cells slots Q (F0 m pc ls (.int (zb b) :: rest)) :=
  lv_if_ne hx hb hdg ht (fun h => kt (Decidable.not_not.mp (fun q => h (zb_0.mpr q)))) (fun h => kf (zb_0.mp h))
/-- the reference's fields -/
theorem zm_get {Ts : List Cond} {index : Nat} {v : Value} (hx : p.tables.exec = Jvm.exec) (hb : c.code = cc) (hts : ∀ w ∈ Ts, w.before args s = true) (hin : ∀ w ∈ wsX20, w ∈ Ts) (hown : s.vm.findClass RX2 = some m.cls) (hw : zW g A s L f H locs) (hm : zM g am f0 σ bs th L f) (k : Nat) (hk : k < 13) (hlink : Cond.fieldLink RX2 index (TX2 k).1 (TX2 k).2.1 (TX2 k).2.2.1 ∈ Ts) (hv : (if k = 12 then .int th else .ref (am (k + 1))) = v) (hdg : decode cc pc = .ok (.getfield index, 3))
    (kk : W p l e R s m args below meth c H locs cells slots Q (F0 m (pc + 3) ls (v :: rest))) : W p l e R s m args below meth c H locs cells slots Q (F0 m pc ls (.ref (am 0) :: rest)) := by
  refine zr_get (C := RX2) (T := TX2) (N := 13) hx hb hts hin hown hw (hm.1.1 0 (by decide)) rfl k hk hlink ?_ hdg kk
  rw [← hv]
  match k, hk with
  | 0, _ => rfl
  | 1, _ => rfl
  | 2, _ => rfl
  | 3, _ => rfl
  | 4, _ => rfl
  | 5, _ => rfl
  | 6, _ => rfl
  | 7, _ => rfl
  | 8, _ => rfl
  | 9, _ => rfl
  | 10, _ => rfl
  | 11, _ => rfl
  | 12, _ => rfl
theorem zm_putT {Ts : List Cond} {index : Nat} {v : Int32} (hx : p.tables.exec = Jvm.exec) (hb : c.code = cc) (hts : ∀ w ∈ Ts, w.before args s = true) (hin : ∀ w ∈ wsX20, w ∈ Ts) (hown : s.vm.findClass RX2 = some m.cls) (hw : zW g A s L f H locs) (hm : zM g am f0 σ bs th L f) (hlink : Cond.fieldLink RX2 index (TX2 12).1 (TX2 12).2.1 (TX2 12).2.2.1 ∈ Ts) (hdg : decode cc pc = .ok (.putfield index, 3))
    (kk : ∀ (f1 : Nat → va_E) (H1 : Heap) (locs1 : List Loc), zM g am f0 σ bs v L f1 → zW g A s L f1 H1 locs1 → W p l e R s m args below meth c H1 locs1 cells slots Q (F0 m (pc + 3) ls rest)) : W p l e R s m args below meth c H locs cells slots Q (F0 m pc ls (.int v :: .ref (am 0) :: rest)) :=
  zr_put (C := RX2) (T := TX2) (N := 13) (ty := .int) hx hb hts hin tyX2 tyX2_ok nmX2 hown hw (hm.1.1 0 (by decide)) rfl 12 (by decide) hlink rfl rfl rfl rfl (Nat.le_of_ble_eq_true rfl) hdg (fun H1 locs1 hw1 => kk _ H1 locs1 (hm.up 0 (by decide) _ rfl (fun k hk hne => by
    match k, hk with
    | 0, _ => exact absurd rfl hne
    | 1, _ => rfl
    | 2, _ => rfl
    | 3, _ => rfl
    | 4, _ => rfl
    | 5, _ => rfl
    | 6, _ => rfl
    | 7, _ => rfl
    | 8, _ => rfl
    | 9, _ => rfl
    | 10, _ => rfl
    | 11, _ => rfl
    | 12, _ => rfl)) hw1)
theorem zm_ldST {i : Int32} (hx : p.tables.exec = Jvm.exec) (hb : c.code = cc) (hw : zW g A s L f H locs) (hm : zM g am f0 σ bs th L f) (hi : vp_in i 704) (hdg : decode cc pc = .ok (.laload, 1))
    (kk : W p l e R s m args below meth c H locs cells slots Q (F0 m (pc + 1) ls (.long (zST σ i.toNatClampNeg) :: rest))) : W p l e R s m args below meth c H locs cells slots Q (F0 m pc ls (.int i :: .ref (am 1) :: rest)) :=
  zr_lald hx hb hw (hm.1.1 1 (by decide)) hi hdg kk
theorem zm_stST {i : Int32} {x : Int64} (hx : p.tables.exec = Jvm.exec) (hb : c.code = cc) (hw : zW g A s L f H locs) (hm : zM g am f0 σ bs th L f) (hi : vp_in i 704) (hdg : decode cc pc = .ok (.lastore, 1))
    (kk : ∀ (f1 : Nat → va_E) (H1 : Heap) (locs1 : List Loc), zM g am f0 (zsST σ (vp_updL (zST σ) i.toNatClampNeg x)) bs th L f1 → zW g A s L f1 H1 locs1 → W p l e R s m args below meth c H1 locs1 cells slots Q (F0 m (pc + 1) ls rest)) : W p l e R s m args below meth c H locs cells slots Q (F0 m pc ls (.long x :: .int i :: .ref (am 1) :: rest)) :=
  zr_last hx hb hw (hm.1.1 1 (by decide)) hi hdg (fun H1 locs1 hw1 => kk _ H1 locs1 (hm.up 1 (by decide) _ rfl (fun k hk hne => by
    match k, hk with
    | 0, _ => rfl
    | 1, _ => exact absurd rfl hne
    | 2, _ => rfl
    | 3, _ => rfl
    | 4, _ => rfl
    | 5, _ => rfl
    | 6, _ => rfl
    | 7, _ => rfl
    | 8, _ => rfl
    | 9, _ => rfl
    | 10, _ => rfl
    | 11, _ => rfl
    | 12, _ => rfl)) hw1)
theorem zm_ldK {i : Int32} (hx : p.tables.exec = Jvm.exec) (hb : c.code = cc) (hw : zW g A s L f H locs) (hm : zM g am f0 σ bs th L f) (hi : vp_in i 8) (hdg : decode cc pc = .ok (.iaload, 1))
    (kk : W p l e R s m args below meth c H locs cells slots Q (F0 m (pc + 1) ls (.int (zK σ i.toNatClampNeg) :: rest))) : W p l e R s m args below meth c H locs cells slots Q (F0 m pc ls (.int i :: .ref (am 2) :: rest)) :=
  zr_iald hx hb hw (hm.1.1 2 (by decide)) hi hdg kk
theorem zm_stK {i : Int32} {x : Int32} (hx : p.tables.exec = Jvm.exec) (hb : c.code = cc) (hw : zW g A s L f H locs) (hm : zM g am f0 σ bs th L f) (hi : vp_in i 8) (hdg : decode cc pc = .ok (.iastore, 1))
    (kk : ∀ (f1 : Nat → va_E) (H1 : Heap) (locs1 : List Loc), zM g am f0 (zsK σ (upd (zK σ) i.toNatClampNeg x)) bs th L f1 → zW g A s L f1 H1 locs1 → W p l e R s m args below meth c H1 locs1 cells slots Q (F0 m (pc + 1) ls rest)) : W p l e R s m args below meth c H locs cells slots Q (F0 m pc ls (.int x :: .int i :: .ref (am 2) :: rest)) :=
  zr_iast hx hb hw (hm.1.1 2 (by decide)) hi hdg (fun H1 locs1 hw1 => kk _ H1 locs1 (hm.up 2 (by decide) _ rfl (fun k hk hne => by
    match k, hk with
    | 0, _ => rfl
    | 1, _ => rfl
    | 2, _ => exact absurd rfl hne
    | 3, _ => rfl
    | 4, _ => rfl
    | 5, _ => rfl
    | 6, _ => rfl
    | 7, _ => rfl
    | 8, _ => rfl
    | 9, _ => rfl
    | 10, _ => rfl
    | 11, _ => rfl
    | 12, _ => rfl)) hw1)
theorem zm_ldSI {i : Int32} (hx : p.tables.exec = Jvm.exec) (hb : c.code = cc) (hw : zW g A s L f H locs) (hm : zM g am f0 σ bs th L f) (hi : vp_in i 8) (hdg : decode cc pc = .ok (.iaload, 1))
    (kk : W p l e R s m args below meth c H locs cells slots Q (F0 m (pc + 1) ls (.int (zSI σ i.toNatClampNeg) :: rest))) : W p l e R s m args below meth c H locs cells slots Q (F0 m pc ls (.int i :: .ref (am 3) :: rest)) :=
  zr_iald hx hb hw (hm.1.1 3 (by decide)) hi hdg kk
theorem zm_stSI {i : Int32} {x : Int32} (hx : p.tables.exec = Jvm.exec) (hb : c.code = cc) (hw : zW g A s L f H locs) (hm : zM g am f0 σ bs th L f) (hi : vp_in i 8) (hdg : decode cc pc = .ok (.iastore, 1))
    (kk : ∀ (f1 : Nat → va_E) (H1 : Heap) (locs1 : List Loc), zM g am f0 (zsSI σ (upd (zSI σ) i.toNatClampNeg x)) bs th L f1 → zW g A s L f1 H1 locs1 → W p l e R s m args below meth c H1 locs1 cells slots Q (F0 m (pc + 1) ls rest)) : W p l e R s m args below meth c H locs cells slots Q (F0 m pc ls (.int x :: .int i :: .ref (am 3) :: rest)) :=
  zr_iast hx hb hw (hm.1.1 3 (by decide)) hi hdg (fun H1 locs1 hw1 => kk _ H1 locs1 (hm.up 3 (by decide) _ rfl (fun k hk hne => by
    match k, hk with
    | 0, _ => rfl
    | 1, _ => rfl
    | 2, _ => rfl
    | 3, _ => exact absurd rfl hne
    | 4, _ => rfl
    | 5, _ => rfl
    | 6, _ => rfl
    | 7, _ => rfl
    | 8, _ => rfl
    | 9, _ => rfl
    | 10, _ => rfl
    | 11, _ => rfl
    | 12, _ => rfl)) hw1)
theorem zm_ldFR {i : Int32} (hx : p.tables.exec = Jvm.exec) (hb : c.code = cc) (hw : zW g A s L f H locs) (hm : zM g am f0 σ bs th L f) (hi : vp_in i 8) (hdg : decode cc pc = .ok (.iaload, 1))
    (kk : W p l e R s m args below meth c H locs cells slots Q (F0 m (pc + 1) ls (.int (zFR σ i.toNatClampNeg) :: rest))) : W p l e R s m args below meth c H locs cells slots Q (F0 m pc ls (.int i :: .ref (am 4) :: rest)) :=
  zr_iald hx hb hw (hm.1.1 4 (by decide)) hi hdg kk
theorem zm_stFR {i : Int32} {x : Int32} (hx : p.tables.exec = Jvm.exec) (hb : c.code = cc) (hw : zW g A s L f H locs) (hm : zM g am f0 σ bs th L f) (hi : vp_in i 8) (hdg : decode cc pc = .ok (.iastore, 1))
    (kk : ∀ (f1 : Nat → va_E) (H1 : Heap) (locs1 : List Loc), zM g am f0 (zsFR σ (upd (zFR σ) i.toNatClampNeg x)) bs th L f1 → zW g A s L f1 H1 locs1 → W p l e R s m args below meth c H1 locs1 cells slots Q (F0 m (pc + 1) ls rest)) : W p l e R s m args below meth c H locs cells slots Q (F0 m pc ls (.int x :: .int i :: .ref (am 4) :: rest)) :=
  zr_iast hx hb hw (hm.1.1 4 (by decide)) hi hdg (fun H1 locs1 hw1 => kk _ H1 locs1 (hm.up 4 (by decide) _ rfl (fun k hk hne => by
    match k, hk with
    | 0, _ => rfl
    | 1, _ => rfl
    | 2, _ => rfl
    | 3, _ => rfl
    | 4, _ => exact absurd rfl hne
    | 5, _ => rfl
    | 6, _ => rfl
    | 7, _ => rfl
    | 8, _ => rfl
    | 9, _ => rfl
    | 10, _ => rfl
    | 11, _ => rfl
    | 12, _ => rfl)) hw1)
theorem zm_ldSZ {i : Int32} (hx : p.tables.exec = Jvm.exec) (hb : c.code = cc) (hw : zW g A s L f H locs) (hm : zM g am f0 σ bs th L f) (hi : vp_in i 8) (hdg : decode cc pc = .ok (.iaload, 1))
    (kk : W p l e R s m args below meth c H locs cells slots Q (F0 m (pc + 1) ls (.int (zSZ σ i.toNatClampNeg) :: rest))) : W p l e R s m args below meth c H locs cells slots Q (F0 m pc ls (.int i :: .ref (am 5) :: rest)) :=
  zr_iald hx hb hw (hm.1.1 5 (by decide)) hi hdg kk
theorem zm_stSZ {i : Int32} {x : Int32} (hx : p.tables.exec = Jvm.exec) (hb : c.code = cc) (hw : zW g A s L f H locs) (hm : zM g am f0 σ bs th L f) (hi : vp_in i 8) (hdg : decode cc pc = .ok (.iastore, 1))
    (kk : ∀ (f1 : Nat → va_E) (H1 : Heap) (locs1 : List Loc), zM g am f0 (zsSZ σ (upd (zSZ σ) i.toNatClampNeg x)) bs th L f1 → zW g A s L f1 H1 locs1 → W p l e R s m args below meth c H1 locs1 cells slots Q (F0 m (pc + 1) ls rest)) : W p l e R s m args below meth c H locs cells slots Q (F0 m pc ls (.int x :: .int i :: .ref (am 5) :: rest)) :=
  zr_iast hx hb hw (hm.1.1 5 (by decide)) hi hdg (fun H1 locs1 hw1 => kk _ H1 locs1 (hm.up 5 (by decide) _ rfl (fun k hk hne => by
    match k, hk with
    | 0, _ => rfl
    | 1, _ => rfl
    | 2, _ => rfl
    | 3, _ => rfl
    | 4, _ => rfl
    | 5, _ => exact absurd rfl hne
    | 6, _ => rfl
    | 7, _ => rfl
    | 8, _ => rfl
    | 9, _ => rfl
    | 10, _ => rfl
    | 11, _ => rfl
    | 12, _ => rfl)) hw1)
theorem zm_ldPL {i : Int32} (hx : p.tables.exec = Jvm.exec) (hb : c.code = cc) (hw : zW g A s L f H locs) (hm : zM g am f0 σ bs th L f) (hi : vp_in i 8) (hdg : decode cc pc = .ok (.iaload, 1))
    (kk : W p l e R s m args below meth c H locs cells slots Q (F0 m (pc + 1) ls (.int (zPL σ i.toNatClampNeg) :: rest))) : W p l e R s m args below meth c H locs cells slots Q (F0 m pc ls (.int i :: .ref (am 6) :: rest)) :=
  zr_iald hx hb hw (hm.1.1 6 (by decide)) hi hdg kk
theorem zm_stPL {i : Int32} {x : Int32} (hx : p.tables.exec = Jvm.exec) (hb : c.code = cc) (hw : zW g A s L f H locs) (hm : zM g am f0 σ bs th L f) (hi : vp_in i 8) (hdg : decode cc pc = .ok (.iastore, 1))
    (kk : ∀ (f1 : Nat → va_E) (H1 : Heap) (locs1 : List Loc), zM g am f0 (zsPL σ (upd (zPL σ) i.toNatClampNeg x)) bs th L f1 → zW g A s L f1 H1 locs1 → W p l e R s m args below meth c H1 locs1 cells slots Q (F0 m (pc + 1) ls rest)) : W p l e R s m args below meth c H locs cells slots Q (F0 m pc ls (.int x :: .int i :: .ref (am 6) :: rest)) :=
  zr_iast hx hb hw (hm.1.1 6 (by decide)) hi hdg (fun H1 locs1 hw1 => kk _ H1 locs1 (hm.up 6 (by decide) _ rfl (fun k hk hne => by
    match k, hk with
    | 0, _ => rfl
    | 1, _ => rfl
    | 2, _ => rfl
    | 3, _ => rfl
    | 4, _ => rfl
    | 5, _ => rfl
    | 6, _ => exact absurd rfl hne
    | 7, _ => rfl
    | 8, _ => rfl
    | 9, _ => rfl
    | 10, _ => rfl
    | 11, _ => rfl
    | 12, _ => rfl)) hw1)
theorem zm_ldEN {i : Int32} (hx : p.tables.exec = Jvm.exec) (hb : c.code = cc) (hw : zW g A s L f H locs) (hm : zM g am f0 σ bs th L f) (hi : vp_in i 8) (hdg : decode cc pc = .ok (.iaload, 1))
    (kk : W p l e R s m args below meth c H locs cells slots Q (F0 m (pc + 1) ls (.int (zEN σ i.toNatClampNeg) :: rest))) : W p l e R s m args below meth c H locs cells slots Q (F0 m pc ls (.int i :: .ref (am 7) :: rest)) :=
  zr_iald hx hb hw (hm.1.1 7 (by decide)) hi hdg kk
theorem zm_stEN {i : Int32} {x : Int32} (hx : p.tables.exec = Jvm.exec) (hb : c.code = cc) (hw : zW g A s L f H locs) (hm : zM g am f0 σ bs th L f) (hi : vp_in i 8) (hdg : decode cc pc = .ok (.iastore, 1))
    (kk : ∀ (f1 : Nat → va_E) (H1 : Heap) (locs1 : List Loc), zM g am f0 (zsEN σ (upd (zEN σ) i.toNatClampNeg x)) bs th L f1 → zW g A s L f1 H1 locs1 → W p l e R s m args below meth c H1 locs1 cells slots Q (F0 m (pc + 1) ls rest)) : W p l e R s m args below meth c H locs cells slots Q (F0 m pc ls (.int x :: .int i :: .ref (am 7) :: rest)) :=
  zr_iast hx hb hw (hm.1.1 7 (by decide)) hi hdg (fun H1 locs1 hw1 => kk _ H1 locs1 (hm.up 7 (by decide) _ rfl (fun k hk hne => by
    match k, hk with
    | 0, _ => rfl
    | 1, _ => rfl
    | 2, _ => rfl
    | 3, _ => rfl
    | 4, _ => rfl
    | 5, _ => rfl
    | 6, _ => rfl
    | 7, _ => exact absurd rfl hne
    | 8, _ => rfl
    | 9, _ => rfl
    | 10, _ => rfl
    | 11, _ => rfl
    | 12, _ => rfl)) hw1)
theorem zm_ldMK {i : Int32} (hx : p.tables.exec = Jvm.exec) (hb : c.code = cc) (hw : zW g A s L f H locs) (hm : zM g am f0 σ bs th L f) (hi : vp_in i 8) (hdg : decode cc pc = .ok (.iaload, 1))
    (kk : W p l e R s m args below meth c H locs cells slots Q (F0 m (pc + 1) ls (.int (zMK σ i.toNatClampNeg) :: rest))) : W p l e R s m args below meth c H locs cells slots Q (F0 m pc ls (.int i :: .ref (am 8) :: rest)) :=
  zr_iald hx hb hw (hm.1.1 8 (by decide)) hi hdg kk
theorem zm_stMK {i : Int32} {x : Int32} (hx : p.tables.exec = Jvm.exec) (hb : c.code = cc) (hw : zW g A s L f H locs) (hm : zM g am f0 σ bs th L f) (hi : vp_in i 8) (hdg : decode cc pc = .ok (.iastore, 1))
    (kk : ∀ (f1 : Nat → va_E) (H1 : Heap) (locs1 : List Loc), zM g am f0 (zsMK σ (upd (zMK σ) i.toNatClampNeg x)) bs th L f1 → zW g A s L f1 H1 locs1 → W p l e R s m args below meth c H1 locs1 cells slots Q (F0 m (pc + 1) ls rest)) : W p l e R s m args below meth c H locs cells slots Q (F0 m pc ls (.int x :: .int i :: .ref (am 8) :: rest)) :=
  zr_iast hx hb hw (hm.1.1 8 (by decide)) hi hdg (fun H1 locs1 hw1 => kk _ H1 locs1 (hm.up 8 (by decide) _ rfl (fun k hk hne => by
    match k, hk with
    | 0, _ => rfl
    | 1, _ => rfl
    | 2, _ => rfl
    | 3, _ => rfl
    | 4, _ => rfl
    | 5, _ => rfl
    | 6, _ => rfl
    | 7, _ => rfl
    | 8, _ => exact absurd rfl hne
    | 9, _ => rfl
    | 10, _ => rfl
    | 11, _ => rfl
    | 12, _ => rfl)) hw1)
theorem zm_ldRD {i : Int32} (hx : p.tables.exec = Jvm.exec) (hb : c.code = cc) (hw : zW g A s L f H locs) (hm : zM g am f0 σ bs th L f) (hi : vp_in i 8) (hdg : decode cc pc = .ok (.baload, 1))
    (kk : W p l e R s m args below meth c H locs cells slots Q (F0 m (pc + 1) ls (.int (zRD σ i.toNatClampNeg) :: rest))) : W p l e R s m args below meth c H locs cells slots Q (F0 m pc ls (.int i :: .ref (am 9) :: rest)) :=
  zr_zald hx hb hw (hm.1.1 9 (by decide)) hi hdg kk
theorem zm_stRD {i : Int32} {x : Int32} (hx : p.tables.exec = Jvm.exec) (hb : c.code = cc) (hw : zW g A s L f H locs) (hm : zM g am f0 σ bs th L f) (hi : vp_in i 8) (hdg : decode cc pc = .ok (.bastore, 1))
    (kk : ∀ (f1 : Nat → va_E) (H1 : Heap) (locs1 : List Loc), zM g am f0 (zsRD σ (upd (zRD σ) i.toNatClampNeg (vp_nar .boolean x))) bs th L f1 → zW g A s L f1 H1 locs1 → W p l e R s m args below meth c H1 locs1 cells slots Q (F0 m (pc + 1) ls rest)) : W p l e R s m args below meth c H locs cells slots Q (F0 m pc ls (.int x :: .int i :: .ref (am 9) :: rest)) :=
  zr_zast hx hb hw (hm.1.1 9 (by decide)) hi hdg (fun H1 locs1 hw1 => kk _ H1 locs1 (hm.up 9 (by decide) _ rfl (fun k hk hne => by
    match k, hk with
    | 0, _ => rfl
    | 1, _ => rfl
    | 2, _ => rfl
    | 3, _ => rfl
    | 4, _ => rfl
    | 5, _ => rfl
    | 6, _ => rfl
    | 7, _ => rfl
    | 8, _ => rfl
    | 9, _ => exact absurd rfl hne
    | 10, _ => rfl
    | 11, _ => rfl
    | 12, _ => rfl)) hw1)
theorem zm_ldRS {i : Int32} (hx : p.tables.exec = Jvm.exec) (hb : c.code = cc) (hw : zW g A s L f H locs) (hm : zM g am f0 σ bs th L f) (hi : vp_in i 2) (hdg : decode cc pc = .ok (.iaload, 1))
    (kk : W p l e R s m args below meth c H locs cells slots Q (F0 m (pc + 1) ls (.int (zRS σ i.toNatClampNeg) :: rest))) : W p l e R s m args below meth c H locs cells slots Q (F0 m pc ls (.int i :: .ref (am 10) :: rest)) :=
  zr_iald hx hb hw (hm.1.1 10 (by decide)) hi hdg kk
theorem zm_stRS {i : Int32} {x : Int32} (hx : p.tables.exec = Jvm.exec) (hb : c.code = cc) (hw : zW g A s L f H locs) (hm : zM g am f0 σ bs th L f) (hi : vp_in i 2) (hdg : decode cc pc = .ok (.iastore, 1))
    (kk : ∀ (f1 : Nat → va_E) (H1 : Heap) (locs1 : List Loc), zM g am f0 (zsRS σ (upd (zRS σ) i.toNatClampNeg x)) bs th L f1 → zW g A s L f1 H1 locs1 → W p l e R s m args below meth c H1 locs1 cells slots Q (F0 m (pc + 1) ls rest)) : W p l e R s m args below meth c H locs cells slots Q (F0 m pc ls (.int x :: .int i :: .ref (am 10) :: rest)) :=
  zr_iast hx hb hw (hm.1.1 10 (by decide)) hi hdg (fun H1 locs1 hw1 => kk _ H1 locs1 (hm.up 10 (by decide) _ rfl (fun k hk hne => by
    match k, hk with
    | 0, _ => rfl
    | 1, _ => rfl
    | 2, _ => rfl
    | 3, _ => rfl
    | 4, _ => rfl
    | 5, _ => rfl
    | 6, _ => rfl
    | 7, _ => rfl
    | 8, _ => rfl
    | 9, _ => rfl
    | 10, _ => exact absurd rfl hne
    | 11, _ => rfl
    | 12, _ => rfl)) hw1)
theorem zm_ldRL {i : Int32} (hx : p.tables.exec = Jvm.exec) (hb : c.code = cc) (hw : zW g A s L f H locs) (hm : zM g am f0 σ bs th L f) (hi : vp_in i 2) (hdg : decode cc pc = .ok (.iaload, 1))
    (kk : W p l e R s m args below meth c H locs cells slots Q (F0 m (pc + 1) ls (.int (zRL σ i.toNatClampNeg) :: rest))) : W p l e R s m args below meth c H locs cells slots Q (F0 m pc ls (.int i :: .ref (am 11) :: rest)) :=
  zr_iald hx hb hw (hm.1.1 11 (by decide)) hi hdg kk
theorem zm_stRL {i : Int32} {x : Int32} (hx : p.tables.exec = Jvm.exec) (hb : c.code = cc) (hw : zW g A s L f H locs) (hm : zM g am f0 σ bs th L f) (hi : vp_in i 2) (hdg : decode cc pc = .ok (.iastore, 1))
    (kk : ∀ (f1 : Nat → va_E) (H1 : Heap) (locs1 : List Loc), zM g am f0 (zsRL σ (upd (zRL σ) i.toNatClampNeg x)) bs th L f1 → zW g A s L f1 H1 locs1 → W p l e R s m args below meth c H1 locs1 cells slots Q (F0 m (pc + 1) ls rest)) : W p l e R s m args below meth c H locs cells slots Q (F0 m pc ls (.int x :: .int i :: .ref (am 11) :: rest)) :=
  zr_iast hx hb hw (hm.1.1 11 (by decide)) hi hdg (fun H1 locs1 hw1 => kk _ H1 locs1 (hm.up 11 (by decide) _ rfl (fun k hk hne => by
    match k, hk with
    | 0, _ => rfl
    | 1, _ => rfl
    | 2, _ => rfl
    | 3, _ => rfl
    | 4, _ => rfl
    | 5, _ => rfl
    | 6, _ => rfl
    | 7, _ => rfl
    | 8, _ => rfl
    | 9, _ => rfl
    | 10, _ => rfl
    | 11, _ => exact absurd rfl hne
    | 12, _ => rfl)) hw1)
theorem zm_ldBS {i : Int32} (hx : p.tables.exec = Jvm.exec) (hb : c.code = cc) (hw : zW g A s L f H locs) (hm : zM g am f0 σ bs th L f) (hi : vp_in i 64) (hdg : decode cc pc = .ok (.laload, 1))
    (kk : W p l e R s m args below meth c H locs cells slots Q (F0 m (pc + 1) ls (.long (bs i.toNatClampNeg) :: rest))) : W p l e R s m args below meth c H locs cells slots Q (F0 m pc ls (.int i :: .ref (am 12) :: rest)) :=
  zr_lald hx hb hw (hm.1.1 12 (by decide)) hi hdg kk
theorem zm_stBS {i : Int32} {x : Int64} (hx : p.tables.exec = Jvm.exec) (hb : c.code = cc) (hw : zW g A s L f H locs) (hm : zM g am f0 σ bs th L f) (hi : vp_in i 64) (hdg : decode cc pc = .ok (.lastore, 1))
    (kk : ∀ (f1 : Nat → va_E) (H1 : Heap) (locs1 : List Loc), zM g am f0 σ (vp_updL bs i.toNatClampNeg x) th L f1 → zW g A s L f1 H1 locs1 → W p l e R s m args below meth c H1 locs1 cells slots Q (F0 m (pc + 1) ls rest)) : W p l e R s m args below meth c H locs cells slots Q (F0 m pc ls (.long x :: .int i :: .ref (am 12) :: rest)) :=
  zr_last hx hb hw (hm.1.1 12 (by decide)) hi hdg (fun H1 locs1 hw1 => kk _ H1 locs1 (hm.up 12 (by decide) _ rfl (fun k hk hne => by
    match k, hk with
    | 0, _ => rfl
    | 1, _ => rfl
    | 2, _ => rfl
    | 3, _ => rfl
    | 4, _ => rfl
    | 5, _ => rfl
    | 6, _ => rfl
    | 7, _ => rfl
    | 8, _ => rfl
    | 9, _ => rfl
    | 10, _ => rfl
    | 11, _ => rfl
    | 12, _ => exact absurd rfl hne)) hw1)
end Z4
