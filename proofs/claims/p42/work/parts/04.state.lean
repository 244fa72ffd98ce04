/-! THE STATE OF THE REFERENCE, as functions: stores, kinds, store, from, size, place, end, mark, reads, rowStore, rowSize -/
abbrev ZF : Type := Nat → Int32
abbrev ZS : Type := (Nat → Int64) × ZF × ZF × ZF × ZF × ZF × ZF × ZF × ZF × ZF × ZF
abbrev zST (σ : ZS) : Nat → Int64 := σ.1
abbrev zK (σ : ZS) : ZF := σ.2.1
abbrev zSI (σ : ZS) : ZF := σ.2.2.1
abbrev zFR (σ : ZS) : ZF := σ.2.2.2.1
abbrev zSZ (σ : ZS) : ZF := σ.2.2.2.2.1
abbrev zPL (σ : ZS) : ZF := σ.2.2.2.2.2.1
abbrev zEN (σ : ZS) : ZF := σ.2.2.2.2.2.2.1
abbrev zMK (σ : ZS) : ZF := σ.2.2.2.2.2.2.2.1
abbrev zRD (σ : ZS) : ZF := σ.2.2.2.2.2.2.2.2.1
abbrev zRS (σ : ZS) : ZF := σ.2.2.2.2.2.2.2.2.2.1
abbrev zRL (σ : ZS) : ZF := σ.2.2.2.2.2.2.2.2.2.2
abbrev zsST (σ : ZS) (x : Nat → Int64) : ZS := (x, zK σ, zSI σ, zFR σ, zSZ σ, zPL σ, zEN σ, zMK σ, zRD σ, zRS σ, zRL σ)
abbrev zsK (σ : ZS) (x : ZF) : ZS := (zST σ, x, zSI σ, zFR σ, zSZ σ, zPL σ, zEN σ, zMK σ, zRD σ, zRS σ, zRL σ)
abbrev zsSI (σ : ZS) (x : ZF) : ZS := (zST σ, zK σ, x, zFR σ, zSZ σ, zPL σ, zEN σ, zMK σ, zRD σ, zRS σ, zRL σ)
abbrev zsFR (σ : ZS) (x : ZF) : ZS := (zST σ, zK σ, zSI σ, x, zSZ σ, zPL σ, zEN σ, zMK σ, zRD σ, zRS σ, zRL σ)
abbrev zsSZ (σ : ZS) (x : ZF) : ZS := (zST σ, zK σ, zSI σ, zFR σ, x, zPL σ, zEN σ, zMK σ, zRD σ, zRS σ, zRL σ)
abbrev zsPL (σ : ZS) (x : ZF) : ZS := (zST σ, zK σ, zSI σ, zFR σ, zSZ σ, x, zEN σ, zMK σ, zRD σ, zRS σ, zRL σ)
abbrev zsEN (σ : ZS) (x : ZF) : ZS := (zST σ, zK σ, zSI σ, zFR σ, zSZ σ, zPL σ, x, zMK σ, zRD σ, zRS σ, zRL σ)
abbrev zsMK (σ : ZS) (x : ZF) : ZS := (zST σ, zK σ, zSI σ, zFR σ, zSZ σ, zPL σ, zEN σ, x, zRD σ, zRS σ, zRL σ)
abbrev zsRD (σ : ZS) (x : ZF) : ZS := (zST σ, zK σ, zSI σ, zFR σ, zSZ σ, zPL σ, zEN σ, zMK σ, x, zRS σ, zRL σ)
abbrev zsRS (σ : ZS) (x : ZF) : ZS := (zST σ, zK σ, zSI σ, zFR σ, zSZ σ, zPL σ, zEN σ, zMK σ, zRD σ, x, zRL σ)
abbrev zsRL (σ : ZS) (x : ZF) : ZS := (zST σ, zK σ, zSI σ, zFR σ, zSZ σ, zPL σ, zEN σ, zMK σ, zRD σ, zRS σ, x)
/-- n fixed cells, apart -/
def zHE (L : List Nat) (f : Nat → va_E) (am : Nat → Nat) (n : Nat) (E : Nat → va_E) : Prop := (∀ k, k < n → zc L f (am k) (E k)) ∧ ∀ i j, i < n → j < n → am i = am j → i = j
theorem zHE.up {L : List Nat} {f : Nat → va_E} {am : Nat → Nat} {n : Nat} {E E1 : Nat → va_E} (h : zHE L f am n E) (j : Nat) (hj : j < n) (e : va_E) (he : E1 j = e) (hE : ∀ k, k < n → k ≠ j → E1 k = E k) : zHE L (va_up f (am j) e) am n E1 := by
  refine ⟨fun k hk => ?_, h.2⟩
  by_cases q : k = j
  · subst q
    rw [he]
    exact zc.up (h.1 k hk).1
  · rw [hE k hk q]
    exact (h.1 k hk).ne (fun z => q (h.2 k j hk hj z))
def zb (b : Bool) : Int32 := if b = true then 1 else 0
theorem zb_t : zb true = 1 := rfl
theorem zb_f : zb false = 0 := rfl
theorem zb_0 {b : Bool} : zb b = 0 ↔ ¬ b = true := by cases b <;> decide
theorem zb_n {b : Bool} : narrow .boolean (.int (zb b)) = .int (zb b) := by cases b <;> rfl
theorem zb_ft {b : Bool} : fits .boolean (.int (zb b)) = true := by cases b <;> rfl
theorem zb_v {b : Bool} : vp_nar .boolean (zb b) = zb b := by cases b <;> rfl
def zin (v lo hi : Int32) : Bool := decide (lo ≤ v) && decide (v ≤ hi)
theorem zin_t {v lo hi : Int32} : zin v lo hi = true ↔ lo ≤ v ∧ v ≤ hi := by simp [zin]
def zis (σ : ZS) (w : Int32) : Bool := zin w 0 7 && decide (¬ zK σ w.toNatClampNeg = 0)
theorem zis_t {σ : ZS} {w : Int32} : zis σ w = true ↔ (0 ≤ w ∧ w ≤ 7) ∧ ¬ zK σ w.toNatClampNeg = 0 := by simp [zis, zin]
theorem zi_ix {w : Int32} {n : Nat} {hi : Int32} (hh : hi.toInt < n) (h : 0 ≤ w ∧ w ≤ hi) : vp_in w n := by
  rw [vp_in_iff]
  have h1 := Int32.le_iff_toInt_le.mp h.1
  have h2 := Int32.le_iff_toInt_le.mp h.2
  have h3 : (0 : Int32).toInt = 0 := rfl
  omega
theorem zin_7 {w : Int32} (h : zin w 0 7 = true) : vp_in w 8 := zi_ix (by decide) (zin_t.mp h)
theorem zin_1 {w : Int32} (h : zin w 0 1 = true) : vp_in w 2 := zi_ix (by decide) (zin_t.mp h)
theorem zis_7 {σ : ZS} {w : Int32} (h : zis σ w = true) : vp_in w 8 := zi_ix (by decide) (zis_t.mp h).1
theorem zin_f {v lo hi : Int32} (h : v < lo ∨ hi < v) : zin v lo hi = false := by
  rcases h with h | h <;> simp [zin, Int32.not_le.mpr h]
section Z4
variable {p : Program} {l : Launch} {e : Env} {R : Room} {s : State} {m : MethodId} {args : Array Value} {below : List Frame} {meth : Method} {c : Code} {H : Heap} {locs : List Loc} {cells slots : Nat} {Q : State → Prop}
variable {cc : ByteArray} {pc : Nat} {ls : Array Slot} {rest : List Value} {g : zG} {A : Nat → Prop} {L : List Nat} {f f0 : Nat → va_E} {am : Nat → Nat} {σ : ZS} {bs : Nat → Int64} {th : Int32}
/-- branches on a boolean -/
theorem zr_beq {b : Bool} {off : Int} {tgt : Nat} (hx : p.tables.exec = Jvm.exec) (hb : c.code = cc) (hdg : decode cc pc = .ok (.ifCond .eq off, 3)) (ht : (pc : Int) + off = (tgt : Int))
    (kt : ¬ b = true → W p l e R s m args below meth c H locs cells slots Q (F0 m tgt ls rest)) (kf : b = true → W p l e R s m args below meth c H locs cells slots Q (F0 m (pc + 3) ls rest)) : W p l e R s m args below meth c H locs cells slots Q (F0 m pc ls (.int (zb b) :: rest)) :=
  lv_if_eq hx hb hdg ht (fun h => kt (zb_0.mp h)) (fun h => kf (Decidable.not_not.mp (fun q => h (zb_0.mpr q))))
theorem zr_bne {b : Bool} {off : Int} {tgt : Nat} (hx : p.tables.exec = Jvm.exec) (hb : c.code = cc) (hdg : decode cc pc = .ok (.ifCond .ne off, 3)) (ht : (pc : Int) + off = (tgt : Int))
    (kt : b = true → W p l e R s m args below meth c H locs cells slots Q (F0 m tgt ls rest)) (kf : ¬ b = true → W p l e R s m args below meth c H locs cells slots Q (F0 m (pc + 3) ls rest)) : W p l e R s m args below meth c H locs cells slots Q (F0 m pc ls (.int (zb b) :: rest)) :=
  lv_if_ne hx hb hdg ht (fun h => kt (Decidable.not_not.mp (fun q => h (zb_0.mpr q)))) (fun h => kf (zb_0.mp h))
end Z4

