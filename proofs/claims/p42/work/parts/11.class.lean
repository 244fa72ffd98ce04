/-! THE CLASS'S OBJECTS: a window's eight fields -/
abbrev ZW : Type := Int32 × Int32 × Nat × Int32 × Int32 × Int32 × Int32 × Int32
abbrev zwk (x : ZW) : Int32 := x.1
abbrev zwo (x : ZW) : Int32 := x.2.1
abbrev zws (x : ZW) : Nat := x.2.2.1
abbrev zwr (x : ZW) : Int32 := x.2.2.2.1
abbrev zwc (x : ZW) : Int32 := x.2.2.2.2.1
abbrev zwp (x : ZW) : Int32 := x.2.2.2.2.2.1
abbrev zwe (x : ZW) : Int32 := x.2.2.2.2.2.2.1
abbrev zwm (x : ZW) : Int32 := x.2.2.2.2.2.2.2
abbrev zwf (x : ZW) : List Value := [.int (zwk x), .int (zwo x), .ref (zws x), .int (zwr x), .int (zwc x), .int (zwp x), .int (zwe x), .int (zwm x)]
def zchar (k : Int32) : Prop := narrow .char (.int k) = .int k ∧ fits .char (.int k) = true
def zbool (k : Int32) : Prop := narrow .boolean (.int k) = .int k ∧ fits .boolean (.int k) = true
theorem zbool_of {k : Int32} (h : k = 0 ∨ k = 1) : zbool k := by rcases h with h | h <;> rw [h] <;> exact ⟨rfl, rfl⟩
theorem zchar_of {k : Int32} (h : zKind k) : zchar k := by rcases h with h | h | h | h <;> rw [h] <;> exact ⟨rfl, rfl⟩
theorem zu_id {f : Nat → va_E} {a : Nat} {e : va_E} (h : f a = e) : va_up f a e = f := funext fun b => by
  by_cases q : b = a
  · rw [q, va_up_self, h]
  · exact va_up_ne _ _ q
theorem zu_up {f : Nat → va_E} {a : Nat} {e e1 : va_E} : va_up (va_up f a e) a e1 = va_up f a e1 := funext fun b => by
  by_cases q : b = a
  · rw [q, va_up_self, va_up_self]
  · rw [va_up_ne _ _ q, va_up_ne _ _ q, va_up_ne _ _ q]
theorem zu_c {L : List Nat} {f0 f : Nat → va_E} {a : Nat} {e : va_E} (hL : a ∈ L) (hu : va_up f0 a e = f) : zc L f a e := by
  rw [← hu]
  exact zc.up hL
theorem zu_o {L : List Nat} {f0 f : Nat → va_E} {a b : Nat} {e e1 : va_E} (hu : va_up f0 a e = f) (h : zc L f0 b e1) (hne : b ≠ a) : zc L f b e1 := by
  rw [← hu]
  exact h.ne hne
/-- a sum that the class makes -/
def zSm (F : Nat → Int64) (s0 : Int64) : Nat → Int64
  | 0 => s0
  | k + 1 => 31 * zSm F s0 k + F k
section Z11
variable {p : Program} {l : Launch} {e : Env} {R : Room} {s : State} {m : MethodId} {args : Array Value} {below : List Frame} {meth : Method} {c : Code} {H : Heap} {locs : List Loc} {cells slots : Nat} {Q : State → Prop}
variable {cc : ByteArray} {pc : Nat} {ls : Array Slot} {rest : List Value} {g : zG} {A : Nat → Prop} {L : List Nat} {f f0 : Nat → va_E}
theorem zw_put {own : String} {index : Nat} {Ts : List Cond} {a : Nat} {X X1 : ZW} {v : Value} {ty : FieldType} (hx : p.tables.exec = Jvm.exec) (hb : c.code = cc) (hts : ∀ w ∈ Ts, w.before args s = true) (hin : ∀ w ∈ wsX00, w ∈ Ts) (hown : s.vm.findClass own = some m.cls) (hw : zW g A s L f H locs) (hL : a ∈ L) (hu : va_up f0 a (.inr (0, zwf X)) = f) (k : Nat) (hk : k < 8) (hlink : Cond.fieldLink own index (TX0 k).1 (TX0 k).2.1 (TX0 k).2.2.1 ∈ Ts) (hfin : (TX0 k).2.2.2 = false) (hty1 : tyX0 k = ty) (hn : narrow ty v = v) (hfit : fits ty v = true) (hset : (zwf X).set k v = zwf X1) (hdg : decode cc pc = .ok (.putfield index, 3))
    (kk : ∀ (f1 : Nat → va_E) (H1 : Heap) (locs1 : List Loc), va_up f0 a (.inr (0, zwf X1)) = f1 → zW g A s L f1 H1 locs1 → W p l e R s m args below meth c H1 locs1 cells slots Q (F0 m (pc + 3) ls rest)) : W p l e R s m args below meth c H locs cells slots Q (F0 m pc ls (v :: .ref a :: rest)) := by
  refine zr_put (C := RX0) (T := TX0) (N := 8) hx hb hts hin tyX0 tyX0_ok nmX0 hown hw (zu_c hL hu) rfl k hk hlink hfin hty1 hn hfit hk hdg (fun H1 locs1 hw1 => kk _ H1 locs1 ?_ hw1)
  rw [hset, ← hu, zu_up]
end Z11
theorem zt_ng_112 : ∀ w ∈ (vx_atS RX1 112 "java/lang/IllegalStateException" zNm).filter (fun w => !goodWord w), w ∈ Cond.castable "java/lang/IllegalStateException" "java/lang/IllegalStateException" :: zDs.map Cond.declares := by decide +kernel
theorem zt_ot_112 : (Cond.classLink RX1 108 "java/lang/IllegalStateException" :: Cond.initialized "java/lang/IllegalStateException" :: vx_atS RX1 112 "java/lang/IllegalStateException" zNm).all vx_ot = true := by decide +kernel
theorem zt_ng_164 : ∀ w ∈ (vx_atS RX1 164 "java/lang/IllegalArgumentException" zNm).filter (fun w => !goodWord w), w ∈ Cond.castable "java/lang/IllegalArgumentException" "java/lang/IllegalArgumentException" :: zDs.map Cond.declares := by decide +kernel
theorem zt_ot_164 : (Cond.classLink RX1 160 "java/lang/IllegalArgumentException" :: Cond.initialized "java/lang/IllegalArgumentException" :: vx_atS RX1 164 "java/lang/IllegalArgumentException" zNm).all vx_ot = true := by decide +kernel
theorem zt_ng_172 : ∀ w ∈ (zx_at RX1 172 "java/util/NoSuchElementException" zNm).filter (fun w => !goodWord w), w ∈ Cond.castable "java/util/NoSuchElementException" "java/util/NoSuchElementException" :: zDs.map Cond.declares := by decide +kernel
theorem zt_ot_172 : (Cond.classLink RX1 168 "java/util/NoSuchElementException" :: Cond.initialized "java/util/NoSuchElementException" :: zx_at RX1 172 "java/util/NoSuchElementException" zNm).all vx_ot = true := by decide +kernel
theorem zt_ng_183 : ∀ w ∈ (vx_atS RX1 183 "java/lang/ArithmeticException" zNm).filter (fun w => !goodWord w), w ∈ Cond.castable "java/lang/ArithmeticException" "java/lang/ArithmeticException" :: zDs.map Cond.declares := by decide +kernel
theorem zt_ot_183 : (Cond.classLink RX1 179 "java/lang/ArithmeticException" :: Cond.initialized "java/lang/ArithmeticException" :: vx_atS RX1 183 "java/lang/ArithmeticException" zNm).all vx_ot = true := by decide +kernel
theorem zt_ng_220 : ∀ w ∈ (vx_atS RX1 220 "java/lang/IndexOutOfBoundsException" zNm).filter (fun w => !goodWord w), w ∈ Cond.castable "java/lang/IndexOutOfBoundsException" "java/lang/IndexOutOfBoundsException" :: zDs.map Cond.declares := by decide +kernel
theorem zt_ot_220 : (Cond.classLink RX1 216 "java/lang/IndexOutOfBoundsException" :: Cond.initialized "java/lang/IndexOutOfBoundsException" :: vx_atS RX1 220 "java/lang/IndexOutOfBoundsException" zNm).all vx_ot = true := by decide +kernel
theorem zt_ng_237 : ∀ w ∈ (vx_atS RX1 237 "java/lang/UnsupportedOperationException" zNm).filter (fun w => !goodWord w), w ∈ Cond.castable "java/lang/UnsupportedOperationException" "java/lang/UnsupportedOperationException" :: zDs.map Cond.declares := by decide +kernel
theorem zt_ot_237 : (Cond.classLink RX1 233 "java/lang/UnsupportedOperationException" :: Cond.initialized "java/lang/UnsupportedOperationException" :: vx_atS RX1 237 "java/lang/UnsupportedOperationException" zNm).all vx_ot = true := by decide +kernel

