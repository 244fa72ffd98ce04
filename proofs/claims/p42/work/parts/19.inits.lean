/-- cells in the making: n of them, none of P's; P's are as in f0 -/
def zN (P : Nat → Prop) (f0 : Nat → va_E) (L : List Nat) (f : Nat → va_E) (am : Nat → Nat) (n : Nat) (E : Nat → va_E) : Prop :=
  zHE L f am n E ∧ (∀ k, k < n → ¬ P (am k)) ∧ ∀ b, P b → b ∈ L ∧ f b = f0 b
section Z19
variable {P : Nat → Prop} {f0 f f1 : Nat → va_E} {L : List Nat} {am : Nat → Nat} {n : Nat} {E : Nat → va_E}
theorem zN_f (e : f = f1) (N : zN P f0 L f am n E) : zN P f0 L f1 am n E := e ▸ N
theorem zN.add (N : zN P f0 L f am n E) {q : Nat} (hq : q ∉ L) (e : va_E) : zN P f0 (L ++ [q]) (va_up f q e) (va_up am n q) (n + 1) (va_up E n e) := by
  obtain ⟨⟨h1, h2⟩, h3, h4⟩ := N
  have hP : ¬ P q := fun h => hq (h4 q h).1
  refine ⟨⟨fun k hk => ?_, fun i j hi hj hij => ?_⟩, fun k hk => ?_, fun b hb => ⟨List.mem_append_left _ (h4 b hb).1, (va_up_ne _ _ (show b ≠ q from fun z => hP (z ▸ hb))).trans (h4 b hb).2⟩⟩
  · by_cases z : k = n
    · rw [z, va_up_self, va_up_self]
      exact zc.new
    · rw [va_up_ne _ _ z, va_up_ne _ _ z]
      exact (h1 k (by omega)).push hq
  · by_cases zi : i = n
    · by_cases zj : j = n
      · omega
      · rw [zi, va_up_self, va_up_ne _ _ zj] at hij
        exact absurd (hij ▸ (h1 j (by omega)).1) hq
    · by_cases zj : j = n
      · rw [zj, va_up_self, va_up_ne _ _ zi] at hij
        exact absurd (hij ▸ (h1 i (by omega)).1) hq
      · rw [va_up_ne _ _ zi, va_up_ne _ _ zj] at hij
        exact h2 i j (by omega) (by omega) hij
  · by_cases z : k = n
    · rw [z, va_up_self]; exact hP
    · rw [va_up_ne _ _ z]; exact h3 k (by omega)
theorem zN.push (N : zN P f0 L f am n E) {q : Nat} (hq : q ∉ L) (e : va_E) : zN P f0 (L ++ [q]) (va_up f q e) am n E := by
  obtain ⟨⟨h1, h2⟩, h3, h4⟩ := N
  exact ⟨⟨fun k hk => (h1 k hk).push hq, h2⟩, h3, fun b hb => ⟨List.mem_append_left _ (h4 b hb).1, (va_up_ne _ _ (show b ≠ q from fun z => hq (z ▸ (h4 b hb).1))).trans (h4 b hb).2⟩⟩
theorem zN.up (N : zN P f0 L f am n E) {j : Nat} (hj : j < n) {a : Nat} (ha : am j = a) (e : va_E) : zN P f0 L (va_up f a e) am n (va_up E j e) := by
  obtain ⟨h1, h3, h4⟩ := N
  subst ha
  exact ⟨h1.up j hj e (va_up_self _ _ _) (fun k _ hne => va_up_ne _ _ hne), h3, fun b hb => ⟨(h4 b hb).1, (va_up_ne _ _ (show b ≠ am j from fun z => h3 j hj (z ▸ hb))).trans (h4 b hb).2⟩⟩
theorem zN.mna (N : zN P f0 L f am n E) {r : Nat → Nat} {q : Nat} (hr : ∀ i j : Nat, i < 2 → j < 2 → r i = r j → i = j) (hrL : ∀ i : Nat, i < 2 → r i ∉ L) (hq : q ∉ L ++ (List.range 2).map r) (e0 e1 : va_E) :
    zN P f0 (q :: (L ++ (List.range 2).map r)) (va_up (vr_up f ((List.range 2).map r) e0) q e1) (va_up (va_up (va_up am n (r 0)) (n + 1) (r 1)) (n + 2) q) (n + 3) (va_up (va_up (va_up E n e0) (n + 1) e0) (n + 2) e1) := by
  have hm : (List.range 2).map r = [r 0, r 1] := rfl
  rw [hm] at hq ⊢
  have n1 : r 1 ∉ L ++ [r 0] := by
    intro h
    rcases List.mem_append.mp h with h | h
    · exact hrL 1 (by decide) h
    · exact absurd (hr 1 0 (by decide) (by decide) (List.mem_singleton.mp h)) (by decide)
  have n2 : q ∉ (L ++ [r 0]) ++ [r 1] := by
    rw [List.append_assoc]
    exact hq
  have N3 := ((N.add (hrL 0 (by decide)) e0).add n1 e0).add n2 e1
  have ef : vr_up f [r 0, r 1] e0 = va_up (va_up f (r 0) e0) (r 1) e0 := funext fun b => by
    unfold vr_up va_up
    by_cases z1 : b = r 1
    · simp [z1]
    · by_cases z0 : b = r 0
      · simp [z0]
      · simp [z0, z1]
  rw [ef]
  have hL : ∀ b, b ∈ ((L ++ [r 0]) ++ [r 1]) ++ [q] → b ∈ q :: (L ++ [r 0, r 1]) := fun b hb => by
    rw [List.append_assoc L] at hb
    rcases List.mem_append.mp hb with h | h
    · exact List.mem_cons_of_mem _ h
    · exact List.mem_cons.mpr (Or.inl (List.mem_singleton.mp h))
  obtain ⟨⟨h1, h2⟩, h3, h4⟩ := N3
  exact ⟨⟨fun k hk => ⟨hL _ (h1 k hk).1, (h1 k hk).2⟩, h2⟩, h3, fun b hb => ⟨hL _ (h4 b hb).1, (h4 b hb).2⟩⟩
theorem z_upc {a q : Nat} {x y e : va_E} : va_up (va_up (va_up f a x) q e) a y = va_up (va_up f q e) a y := funext fun b => by
  unfold va_up
  by_cases h1 : b = a
  · simp [h1]
  · simp [h1]
end Z19
theorem zfsX0 : ∀ j, j < 8 → defaultValue (tyX0 j) = vp_V [.int 0, .int 0, .null, .int 0, .int 0, .int 0, .int 0, .int 0] j := fun j hj => by
  match j, hj with
  | 0, _ => rfl
  | 1, _ => rfl
  | 2, _ => rfl
  | 3, _ => rfl
  | 4, _ => rfl
  | 5, _ => rfl
  | 6, _ => rfl
  | 7, _ => rfl
/-- the state at the beginning -/
def zS0 : ZS := (fun _ => 0, fun _ => 0, fun _ => 0, fun _ => 0, fun _ => 0, fun _ => 0, fun _ => 0, fun _ => 0, fun _ => 0, upd (upd (fun _ => 0) 0 0) 1 1, fun _ => 0)
def zpi : Nat → Nat
  | 0 => 0
  | 1 => 4
  | 2 => 3
  | k + 3 => k + 5
theorem zpi_i {i j : Nat} (h : zpi i = zpi j) : i = j := by
  match i, j with
  | 0, 0 => rfl
  | 0, 1 => cases h
  | 0, 2 => cases h
  | 0, j + 3 => simp [zpi] at h
  | 1, 0 => cases h
  | 1, 1 => rfl
  | 1, 2 => cases h
  | 1, j + 3 => simp [zpi] at h; try omega
  | 2, 0 => cases h
  | 2, 1 => cases h
  | 2, 2 => rfl
  | 2, j + 3 => simp [zpi] at h; try omega
  | i + 3, 0 => simp [zpi] at h
  | i + 3, 1 => simp [zpi] at h; try omega
  | i + 3, 2 => simp [zpi] at h; try omega
  | i + 3, j + 3 => simp [zpi] at h; omega
theorem zpi_lt {k : Nat} (h : k < 13) : zpi k < 15 := by
  match k with
  | 0 => decide
  | 1 => decide
  | 2 => decide
  | k + 3 => show k + 5 < 15; omega
theorem zS0_rs {r d : Nat} (hr : r < 2) (hd : d < 11) (h : zRS zS0 r = nI d) : d = r := by
  match r, hr with
  | 0, _ =>
    have h : nI 0 = nI d := h
    rw [nI_eq (by omega) (by omega)] at h
    exact h.symm
  | 1, _ =>
    have h : nI 1 = nI d := h
    rw [nI_eq (by omega) (by omega)] at h
    exact h.symm
theorem zS0_rr {r : Nat} (hr : r < 2) : zRS zS0 r = nI r := by
  match r, hr with
  | 0, _ => rfl
  | 1, _ => rfl
theorem zS0_lv {d : Nat} (hd : d < 11) (h : zLv zS0 d) : d < 2 := by
  rcases h with ⟨i, h1, h2, h3⟩ | ⟨r, h1, h2⟩
  · exact absurd rfl h2
  · rw [zS0_rs h1 hd h2]; exact h1
/-- the house as it is made holds the first state -/
theorem zC0_of {g : zG} {h : Nat} {P : Nat → Prop} {f0 f : Nat → va_E} {L : List Nat} {am : Nat → Nat} {E : Nat → va_E} (N : zN P f0 L f am 15 E) (G Rw : Nat → Option Nat) (s : Nat → Nat) (h0 : am 0 = h) (e0 : E 0 = .inr (1, [.ref (am 4), .ref (am 3), .ref (am 13), .ref (am 14)])) (e1 : E 1 = .inl (g.2 1, 0, .inr (.inl (fun _ => 0)))) (e2 : E 2 = .inl (g.2 1, 0, .inr (.inl (fun _ => 0)))) (e3 : E 3 = .inl (g.2 5, 2, .inr (.inr (.inr (.inr Rw))))) (hR0 : Rw 0 = some (am 1)) (hR1 : Rw 1 = some (am 2)) (e4 : E 4 = .inl (g.2 4, 8, .inr (.inr (.inr (.inr G))))) (hG : ∀ i, i < 8 → G i = some (am (i + 5))) (hs : ∀ i, i < 10 → E (i + 5) = .inr (0, zwf (45, 0, s i, 0, 0, 0, 0, -1))) :
    zHC g h P zS0 L f ∧ ∀ b, P b → f b = f0 b := by
  obtain ⟨⟨n1, n2⟩, n3, n4⟩ := N
  refine ⟨⟨fun k => am (zpi k), G, Rw, fun r => am (r + 1), fun i => (45, 0, s i, 0, 0, 0, 0, -1), fun d => am (d + 1), fun _ => 0, fun _ => 105, fun _ _ => 0, h0, ⟨⟨fun k hk => ?_, fun i j hi hj hij => zpi_i (n2 _ _ (zpi_lt hi) (zpi_lt hj) hij)⟩, hG, fun r hr => ?_, fun r hr d hd h => ?_, fun i hi => ⟨fun _ => rfl, fun h => absurd rfl h⟩, fun d hd h => ?_, fun d d' h1 h2 h3 h4 h5 => ?_, fun k hk => n3 _ (zpi_lt hk), fun b hb => (n4 b hb).1, fun i hi h => absurd rfl h, fun r hr => ⟨r, by omega, zS0_rr hr, rfl, Nat.zero_le _, rfl⟩, fun d j _ _ => zcut_0 _⟩⟩, fun b hb => (n4 b hb).2⟩
  · match k, hk with
    | 0, _ => have h := n1 0 (by decide); rw [e0] at h; exact h
    | 1, _ => have h := n1 4 (by decide); rw [e4] at h; exact h
    | 2, _ => have h := n1 3 (by decide); rw [e3] at h; exact h
    | k + 3, hk => have h := n1 (k + 5) (by omega); rw [hs k (by omega)] at h; exact h
  · match r, hr with
    | 0, _ => exact hR0
    | 1, _ => exact hR1
  · rw [zS0_rs hr hd h]
  · have h2 := zS0_lv hd h
    match d, h2 with
    | 0, _ => have h := n1 1 (by decide); rw [e1] at h; exact ⟨h, fun j hj => absurd hj (Nat.not_lt_zero j), n3 1 (by decide)⟩
    | 1, _ => have h := n1 2 (by decide); rw [e2] at h; exact ⟨h, fun j hj => absurd hj (Nat.not_lt_zero j), n3 2 (by decide)⟩
  · have q1 := zS0_lv h1 h3
    have q2 := zS0_lv h2 h4
    have := n2 (d + 1) (d' + 1) (by omega) (by omega) h5
    omega

theorem hi_X0_init_X0 : ∀ w ∈ wsX00, w ∈ wsX0_init := by decide +kernel
theorem hf_X0_init_9 : Cond.fieldLink RX0 9 (TX0 0).1 (TX0 0).2.1 (TX0 0).2.2.1 ∈ wsX0_init := by decide +kernel
theorem hf_X0_init_15 : Cond.fieldLink RX0 15 (TX0 2).1 (TX0 2).2.1 (TX0 2).2.2.1 ∈ wsX0_init := by decide +kernel
theorem hf_X0_init_19 : Cond.fieldLink RX0 19 (TX0 7).1 (TX0 7).2.1 (TX0 7).2.2.1 ∈ wsX0_init := by decide +kernel
theorem ha_X0_init : Cond.arrayClass (newarray.typeOf .long) ∈ wsX0_init := by decide +kernel
set_option maxRecDepth 100000 in
set_option maxHeartbeats 4000000 in
theorem c_X0_init (l : Launch) (g : zG) (L : List Nat) (f : Nat → va_E) (a : Nat) (hc : zc L f a (.inr (0, [.int 0, .int 0, .null, .int 0, .int 0, .int 0, .int 0, .int 0]))) : zC l yX0_init wsX0_init { frames := 1, cells := 1, slots := 0, locals := 12 } 1 0 g [.ref a] L f (fun r L1 f1 => none = r ∧ ∃ s9, s9 ∉ L ∧ L ++ [s9] = L1 ∧ va_up (va_up f s9 (.inl (g.2 1, 0, .inr (.inl (fun _ => 0))))) a (.inr (0, zwf (45, 0, s9, 0, 0, 0, 0, -1))) = f1) zNo := by
  refine z_ofW (cc := cX0_init) (maxL := 1) (ret := none) (by decide) rfl (Nat.le_of_ble_eq_true rfl) ?_
  intro p e s m args below meth c ls A hx hb hr hts hown hlocks hml htab hin hw hX hl
  have hl : lv_has ls 1 [(0, .ref a)] := hl
  have hown : s.vm.findClass RX0 = some m.cls := hown
  refine lv_aload_n hx hb dX0_init_0 rfl (lv_at hl 0 rfl) ?_
  refine W.objInit hx hb hown (hts (.methodLink RX0 3 Lib.objectInit) (by decide +kernel)) (hts (.instanceMethod Lib.objectInit) (by decide +kernel)) (hts (.code Lib.objectInit ⟨#[0xb1]⟩ 1 none) (by decide +kernel)) (g := F0 m 1 ls [.ref a]) rfl (hml.trans hl.1.symm).symm rfl dX0_init_1 (Nat.le_of_ble_eq_true rfl) (Nat.le_of_ble_eq_true rfl) ?_
  refine W.eq (g2 := F0 m 4 ls []) rfl ?_
  refine lv_aload_n hx hb dX0_init_4 rfl (lv_at hl 0 rfl) ?_
  refine lv_bipush (v := 45) hx hb dX0_init_5 (by decide) ?_
  refine zr_put (C := RX0) (T := TX0) (N := 8) (ty := .char) hx hb hts hi_X0_init_X0 tyX0 tyX0_ok nmX0 hown hw hc rfl 0 (by decide) hf_X0_init_9 rfl rfl rfl rfl (Nat.le_of_ble_eq_true rfl) dX0_init_7 (fun H locs hw => ?_)
  have hc1 : zc L (va_up f a (.inr (0, [.int 45, .int 0, .null, .int 0, .int 0, .int 0, .int 0, .int 0]))) a (.inr (0, [.int 45, .int 0, .null, .int 0, .int 0, .int 0, .int 0, .int 0])) := zc.up hc.1
  refine lv_aload_n hx hb dX0_init_10 rfl (lv_at hl 0 rfl) ?_
  refine lv_iconst (v := 0) hx hb dX0_init_11 (by decide) ?_
  refine zr_newa (k0 := 1) (N' := 0) (a0 := (0, .inr (.inl (fun _ => 0)))) (ty := .long) (atype := .long) hx hb hts ha_X0_init rfl rfl (fun C h => by cases h) hw (fun _ => rfl) (by decide) rfl (by decide) (Nat.le_of_ble_eq_true rfl) (Nat.le_of_ble_eq_true rfl) dX0_init_12 (fun q H hq hw => ?_)
  have hc2 := hc1.push (e1 := .inl (g.2 1, 0, .inr (.inl (fun _ => 0)))) hq
  refine zr_put (C := RX0) (T := TX0) (N := 8) (ty := .array .long) hx hb hts hi_X0_init_X0 tyX0 tyX0_ok nmX0 hown hw hc2 rfl 2 (by decide) hf_X0_init_15 rfl rfl rfl rfl (Nat.le_of_ble_eq_true rfl) dX0_init_14 (fun H locs hw => ?_)
  have hc3 : zc (L ++ [q]) (va_up (va_up (va_up f a (.inr (0, [.int 45, .int 0, .null, .int 0, .int 0, .int 0, .int 0, .int 0]))) q (.inl (g.2 1, 0, .inr (.inl (fun _ => 0))))) a (.inr (0, [.int 45, .int 0, .ref q, .int 0, .int 0, .int 0, .int 0, .int 0]))) a (.inr (0, [.int 45, .int 0, .ref q, .int 0, .int 0, .int 0, .int 0, .int 0])) := zc.up hc2.1
  refine lv_aload_n hx hb dX0_init_17 rfl (lv_at hl 0 rfl) ?_
  refine lv_iconst (v := (-1)) hx hb dX0_init_18 (by decide) ?_
  refine zr_put (C := RX0) (T := TX0) (N := 8) (ty := .int) hx hb hts hi_X0_init_X0 tyX0 tyX0_ok nmX0 hown hw hc3 rfl 7 (by decide) hf_X0_init_19 rfl rfl rfl rfl (Nat.le_of_ble_eq_true rfl) dX0_init_19 (fun H locs hw => ?_)
  refine z_vret hx hb hr hlocks hw (Nat.le_of_ble_eq_true rfl) (Nat.le_of_ble_eq_true rfl) dX0_init_22 ⟨rfl, q, hq, rfl, ?_⟩
  show _ = va_up (va_up (va_up (va_up f a _) q _) a _) a _
  rw [zu_up, z_upc]
  rfl

theorem hi_X1_init_X0 : ∀ w ∈ wsX00, w ∈ wsX1_init := by decide +kernel
theorem hi_X1_init_X1 : ∀ w ∈ wsX10, w ∈ wsX1_init := by decide +kernel
theorem hf_X1_init_11 : Cond.fieldLink RX1 11 (TX1 1).1 (TX1 1).2.1 (TX1 1).2.2.1 ∈ wsX1_init := by decide +kernel
theorem hf_X1_init_16 : Cond.fieldLink RX1 16 (TX1 0).1 (TX1 0).2.1 (TX1 0).2.2.1 ∈ wsX1_init := by decide +kernel
theorem hf_X1_init_21 : Cond.fieldLink RX1 21 (TX1 2).1 (TX1 2).2.1 (TX1 2).2.2.1 ∈ wsX1_init := by decide +kernel
theorem hf_X1_init_25 : Cond.fieldLink RX1 25 (TX1 3).1 (TX1 3).2.1 (TX1 3).2.2.1 ∈ wsX1_init := by decide +kernel
theorem hc_X1_init : Cond.classLink RX1 14 RX0 ∈ wsX1_init := by decide +kernel
theorem hm_X1_init : Cond.classLink RX1 9 "[[J" ∈ wsX1_init := by decide +kernel
theorem ha_X1_init : Cond.arrayClass .long ∈ wsX1_init := by decide +kernel
theorem hn1_X1_init : Cond.classLink RX1 14 RX0 ∈ wsX1_init := by decide +kernel
theorem hn2_X1_init : Cond.instantiable RX0 8 ∈ wsX1_init := by decide +kernel
theorem hn3_X1_init : Cond.initialized RX0 ∈ wsX1_init := by decide +kernel
set_option maxRecDepth 100000 in
set_option maxHeartbeats 4000000 in
theorem c_X1_init (l : Launch) (g : zG) (L : List Nat) (f : Nat → va_E) (h : Nat) (P : Nat → Prop) (hP : ∀ b, P b → b ∈ L) (hPh : ¬ P h) (hc : zc L f h (.inr (1, [.null, .null, .null, .null]))) : zC l yX1_init wsX1_init { frames := 2, cells := 24, slots := 90, locals := 32 } 24 90 g [.ref h] L f (fun r L1 f1 => none = r ∧ zHC g h P zS0 L1 f1 ∧ ∀ b, P b → f1 b = f b) zNo := by
  have hN : zN P f L f (fun _ => h) 1 (fun _ => .inr (1, [.null, .null, .null, .null])) := ⟨⟨fun _ _ => hc, fun i j hi hj _ => by omega⟩, fun _ _ => hPh, fun b hb => ⟨hP b hb, rfl⟩⟩
  refine z_ofW (cc := cX1_init) (maxL := 2) (ret := none) (by decide) rfl (Nat.le_of_ble_eq_true rfl) ?_
  intro p e s m args below meth c ls A hx hb hr hts hown hlocks hml htab hin hw hX hl
  have hl : lv_has ls 2 [(0, .ref h)] := hl
  have hown : s.vm.findClass RX1 = some m.cls := hown
  generalize hH0 : s.heap = H at hw ⊢
  generalize hlc : ([] : List Loc) = locs at hw ⊢
  refine lv_aload_n hx hb dX1_init_0 rfl (lv_at hl 0 rfl) ?_
  refine W.objInit hx hb hown (hts (.methodLink RX1 1 Lib.objectInit) (by decide +kernel)) (hts (.instanceMethod Lib.objectInit) (by decide +kernel)) (hts (.code Lib.objectInit ⟨#[0xb1]⟩ 1 none) (by decide +kernel)) (g := F0 m 1 ls [.ref h]) rfl (hml.trans hl.1.symm).symm rfl dX1_init_1 (Nat.le_of_ble_eq_true rfl) (Nat.le_of_ble_eq_true rfl) ?_
  refine W.eq (g2 := F0 m 4 ls []) rfl ?_
  refine lv_aload_n hx hb dX1_init_4 rfl (lv_at hl 0 rfl) ?_
  refine lv_iconst (v := 2) hx hb dX1_init_5 (by decide) ?_
  refine lv_iconst (v := 0) hx hb dX1_init_6 (by decide) ?_
  refine zr_mna (N' := 2) (K' := 0) hx hb hts hown hm_X1_init ha_X1_init hw hX (by decide) (by decide) rfl rfl (by decide) (by decide) (by decide) (Nat.le_of_ble_eq_true rfl) (Nat.le_of_ble_eq_true rfl) dX1_init_7 (fun _ => rfl) (fun qr r9 H hr9 hrL hq hw => ?_)
  obtain ⟨f_1, hf_1⟩ : ∃ z, va_up (vr_up f ((List.range 2).map r9) (.inl (g.2 1, 0, .inr (.inl (fun _ => 0))))) qr (.inl (g.2 5, 2, .inr (.inr (.inr (.inr (fun i => if i < 2 then some (r9 i) else none)))))) = z := ⟨_, rfl⟩
  have hw : zW g A s (qr :: (L ++ (List.range 2).map r9)) f_1 H locs := by rw [← hf_1]; exact hw
  have hN := zN_f hf_1 (hN.mna hr9 hrL hq _ _)
  generalize qr :: (L ++ (List.range 2).map r9) = L at hw hN
  refine zr_putF (C := RX1) (T := TX1) (N := 4) (ty := tyX1 1) hx hb hts hi_X1_init_X1 tyX1 tyX1_ok nmX1 hown hw (show zc L f_1 h (.inr (1, [.null, .null, .null, .null])) from hN.1.1 0 (by decide)) rfl 1 (by decide) hf_X1_init_11 rfl hin rfl rfl rfl rfl (Nat.le_of_ble_eq_true rfl) dX1_init_11 (fun H locs hw => ?_)
  obtain ⟨f_2, hf_2⟩ : ∃ z, va_up f_1 h (.inr (1, [.null, .ref qr, .null, .null])) = z := ⟨_, rfl⟩
  have hw : zW g A s L f_2 H locs := by rw [← hf_2]; exact hw
  have hN := zN_f hf_2 (hN.up (j := 0) (by decide) rfl _)
  refine lv_aload_n hx hb dX1_init_14 rfl (lv_at hl 0 rfl) ?_
  refine lv_bipush (v := 8) hx hb dX1_init_15 (by decide) ?_
  refine zr_newq (N' := 8) hx hb hts hown hc_X1_init hw hX (by decide) rfl (by decide) (Nat.le_of_ble_eq_true rfl) (Nat.le_of_ble_eq_true rfl) dX1_init_17 (fun qw H hq hw => ?_)
  obtain ⟨f_3, hf_3⟩ : ∃ z, va_up f_2 qw (.inl (g.2 4, 8, .inr (.inr (.inr (.inr (fun _ => none)))))) = z := ⟨_, rfl⟩
  have hw : zW g A s (L ++ [qw]) f_3 H locs := by rw [← hf_3]; exact hw
  have hN := zN_f hf_3 (hN.add hq _)
  generalize L ++ [qw] = L at hw hN
  refine zr_putF (C := RX1) (T := TX1) (N := 4) (ty := tyX1 0) hx hb hts hi_X1_init_X1 tyX1 tyX1_ok nmX1 hown hw (show zc L f_3 h (.inr (1, [.null, .ref qr, .null, .null])) from hN.1.1 0 (by decide)) rfl 0 (by decide) hf_X1_init_16 rfl hin rfl rfl rfl rfl (Nat.le_of_ble_eq_true rfl) dX1_init_20 (fun H locs hw => ?_)
  obtain ⟨f_4, hf_4⟩ : ∃ z, va_up f_3 h (.inr (1, [.ref qw, .ref qr, .null, .null])) = z := ⟨_, rfl⟩
  have hw : zW g A s L f_4 H locs := by rw [← hf_4]; exact hw
  have hN := zN_f hf_4 (hN.up (j := 0) (by decide) rfl _)
  refine lv_iconst (v := 0) hx hb dX1_init_23 (by decide) ?_
  refine lv_istore_n (lv' := [(1, .int 0), (0, .ref h)]) hx hb dX1_init_24 rfl hl (by decide) rfl (fun ls hl => ?_)
  refine lv_iload_n hx hb dX1_init_25 rfl (lv_at hl 0 rfl) ?_
  refine lv_bipush (v := 8) hx hb dX1_init_26 (by decide) ?_
  refine lv_icmp_ge (tgt := 50) hx hb dX1_init_28 (by decide) (fun c_5 => absurd c_5 (by decide)) (fun c_5 => ?_)
  refine lv_aload_n hx hb dX1_init_31 rfl (lv_at hl 1 rfl) ?_
  refine zr_get (C := RX1) (T := TX1) (N := 4) (v := .ref qw) hx hb hts hi_X1_init_X1 hown hw (show zc L f_4 h (.inr (1, [.ref qw, .ref qr, .null, .null])) from hN.1.1 0 (by decide)) rfl 0 (by decide) hf_X1_init_16 rfl dX1_init_32 ?_
  refine lv_iload_n hx hb dX1_init_35 rfl (lv_at hl 0 rfl) ?_
  refine zr_new (C := RX0) (T := TX0) (N := 8) (ci := 0) (fs := [.int 0, .int 0, .null, .int 0, .int 0, .int 0, .int 0, .int 0]) hx hb hts hi_X1_init_X0 tyX0 tyX0_ok hown hn1_X1_init hn2_X1_init hn3_X1_init hw rfl zfsX0 (Nat.le_of_ble_eq_true rfl) (Nat.le_of_ble_eq_true rfl) dX1_init_36 (fun w_5 H hq hw => ?_)
  obtain ⟨f_6, hf_6⟩ : ∃ z, va_up f_4 w_5 (.inr (0, [.int 0, .int 0, .null, .int 0, .int 0, .int 0, .int 0, .int 0])) = z := ⟨_, rfl⟩
  have hw : zW g A s (L ++ [w_5]) f_6 H locs := by rw [← hf_6]; exact hw
  have hN := zN_f hf_6 (hN.add hq _)
  generalize L ++ [w_5] = L at hw hN
  refine lv_dup hx hb dX1_init_39 rfl ?_
  refine z_callI (As := []) (rest := [.ref w_5, .int 0, .ref qw]) ⟨hx, hb, hml, hown, hts⟩ hw hX (c_X0_init l g L f_6 w_5 (show zc L f_6 w_5 (.inr (0, [.int 0, .int 0, .null, .int 0, .int 0, .int 0, .int 0, .int 0])) from hN.1.1 5 (by decide))) (cwI 0 hts gX1_init_X0_init rfl rfl rfl (hts (.initialized RX0) (by decide +kernel)) (hts (.methodLink RX1 20 yX0_init) (by decide +kernel)) (hts (.instanceMethod yX0_init) (by decide +kernel)) rfl (by decide +kernel) ⟨(Nat.le_of_ble_eq_true rfl), (Nat.le_of_ble_eq_true rfl)⟩) rfl hl.1 rfl (Nat.le_of_ble_eq_true rfl) dX1_init_40 ⟨(Nat.le_of_ble_eq_true rfl), (Nat.le_of_ble_eq_true rfl)⟩ (fun _ _ _ _ _ _ _ hp => False.elim hp) (fun r9 L9 f9 H locs hp hw => ?_)
  obtain ⟨rfl, s_5, hs9, rfl, hu9⟩ := hp
  refine W.eq (g2 := F0 m 43 ls [.ref w_5, .int 0, .ref qw]) rfl ?_
  have hN := zN_f hu9 ((hN.push hs9 _).up (j := 5) (by decide) rfl _)
  obtain ⟨f_7, rfl⟩ : ∃ z, z = f9 := ⟨_, rfl⟩
  generalize L ++ [s_5] = L at hw hN
  refine zr_wast hx hb hw (show zc L f_7 qw (.inl (g.2 4, 8, .inr (.inr (.inr (.inr (fun _ => none)))))) from hN.1.1 4 (by decide)) (show zc L f_7 w_5 (.inr (0, zwf (45, 0, s_5, 0, 0, 0, 0, -1))) from hN.1.1 5 (by decide)) (vp_in_iff.mpr (by decide)) dX1_init_43 (fun H locs hw => ?_)
  obtain ⟨f_8, hf_8⟩ : ∃ z, va_up f_7 qw (.inl (g.2 4, 8, .inr (.inr (.inr (.inr (va_up (fun _ => none) 0 (some w_5))))))) = z := ⟨_, rfl⟩
  have hw : zW g A s L f_8 H locs := by rw [← hf_8]; exact hw
  have hN := zN_f hf_8 (hN.up (j := 4) (by decide) rfl _)
  refine lv_iinc (v := 1) (lv' := [(1, .int 1), (0, .ref h)]) hx hb dX1_init_44 hl (k := 0) rfl rfl (by decide) rfl (fun ls hl => ?_)
  refine lv_goto (tgt := 25) hx hb dX1_init_47 (by decide) ?_
  refine lv_iload_n hx hb dX1_init_25 rfl (lv_at hl 0 rfl) ?_
  refine lv_bipush (v := 8) hx hb dX1_init_26 (by decide) ?_
  refine lv_icmp_ge (tgt := 50) hx hb dX1_init_28 (by decide) (fun c_9 => absurd c_9 (by decide)) (fun c_9 => ?_)
  refine lv_aload_n hx hb dX1_init_31 rfl (lv_at hl 1 rfl) ?_
  refine zr_get (C := RX1) (T := TX1) (N := 4) (v := .ref qw) hx hb hts hi_X1_init_X1 hown hw (show zc L f_8 h (.inr (1, [.ref qw, .ref qr, .null, .null])) from hN.1.1 0 (by decide)) rfl 0 (by decide) hf_X1_init_16 rfl dX1_init_32 ?_
  refine lv_iload_n hx hb dX1_init_35 rfl (lv_at hl 0 rfl) ?_
  refine zr_new (C := RX0) (T := TX0) (N := 8) (ci := 0) (fs := [.int 0, .int 0, .null, .int 0, .int 0, .int 0, .int 0, .int 0]) hx hb hts hi_X1_init_X0 tyX0 tyX0_ok hown hn1_X1_init hn2_X1_init hn3_X1_init hw rfl zfsX0 (Nat.le_of_ble_eq_true rfl) (Nat.le_of_ble_eq_true rfl) dX1_init_36 (fun w_6 H hq hw => ?_)
  obtain ⟨f_10, hf_10⟩ : ∃ z, va_up f_8 w_6 (.inr (0, [.int 0, .int 0, .null, .int 0, .int 0, .int 0, .int 0, .int 0])) = z := ⟨_, rfl⟩
  have hw : zW g A s (L ++ [w_6]) f_10 H locs := by rw [← hf_10]; exact hw
  have hN := zN_f hf_10 (hN.add hq _)
  generalize L ++ [w_6] = L at hw hN
  refine lv_dup hx hb dX1_init_39 rfl ?_
  refine z_callI (As := []) (rest := [.ref w_6, .int 1, .ref qw]) ⟨hx, hb, hml, hown, hts⟩ hw hX (c_X0_init l g L f_10 w_6 (show zc L f_10 w_6 (.inr (0, [.int 0, .int 0, .null, .int 0, .int 0, .int 0, .int 0, .int 0])) from hN.1.1 6 (by decide))) (cwI 0 hts gX1_init_X0_init rfl rfl rfl (hts (.initialized RX0) (by decide +kernel)) (hts (.methodLink RX1 20 yX0_init) (by decide +kernel)) (hts (.instanceMethod yX0_init) (by decide +kernel)) rfl (by decide +kernel) ⟨(Nat.le_of_ble_eq_true rfl), (Nat.le_of_ble_eq_true rfl)⟩) rfl hl.1 rfl (Nat.le_of_ble_eq_true rfl) dX1_init_40 ⟨(Nat.le_of_ble_eq_true rfl), (Nat.le_of_ble_eq_true rfl)⟩ (fun _ _ _ _ _ _ _ hp => False.elim hp) (fun r9 L9 f9 H locs hp hw => ?_)
  obtain ⟨rfl, s_6, hs9, rfl, hu9⟩ := hp
  refine W.eq (g2 := F0 m 43 ls [.ref w_6, .int 1, .ref qw]) rfl ?_
  have hN := zN_f hu9 ((hN.push hs9 _).up (j := 6) (by decide) rfl _)
  obtain ⟨f_11, rfl⟩ : ∃ z, z = f9 := ⟨_, rfl⟩
  generalize L ++ [s_6] = L at hw hN
  refine zr_wast hx hb hw (show zc L f_11 qw (.inl (g.2 4, 8, .inr (.inr (.inr (.inr (va_up (fun _ => none) 0 (some w_5))))))) from hN.1.1 4 (by decide)) (show zc L f_11 w_6 (.inr (0, zwf (45, 0, s_6, 0, 0, 0, 0, -1))) from hN.1.1 6 (by decide)) (vp_in_iff.mpr (by decide)) dX1_init_43 (fun H locs hw => ?_)
  obtain ⟨f_12, hf_12⟩ : ∃ z, va_up f_11 qw (.inl (g.2 4, 8, .inr (.inr (.inr (.inr (va_up (va_up (fun _ => none) 0 (some w_5)) 1 (some w_6))))))) = z := ⟨_, rfl⟩
  have hw : zW g A s L f_12 H locs := by rw [← hf_12]; exact hw
  have hN := zN_f hf_12 (hN.up (j := 4) (by decide) rfl _)
  refine lv_iinc (v := 2) (lv' := [(1, .int 2), (0, .ref h)]) hx hb dX1_init_44 hl (k := 0) rfl rfl (by decide) rfl (fun ls hl => ?_)
  refine lv_goto (tgt := 25) hx hb dX1_init_47 (by decide) ?_
  refine lv_iload_n hx hb dX1_init_25 rfl (lv_at hl 0 rfl) ?_
  refine lv_bipush (v := 8) hx hb dX1_init_26 (by decide) ?_
  refine lv_icmp_ge (tgt := 50) hx hb dX1_init_28 (by decide) (fun c_13 => absurd c_13 (by decide)) (fun c_13 => ?_)
  refine lv_aload_n hx hb dX1_init_31 rfl (lv_at hl 1 rfl) ?_
  refine zr_get (C := RX1) (T := TX1) (N := 4) (v := .ref qw) hx hb hts hi_X1_init_X1 hown hw (show zc L f_12 h (.inr (1, [.ref qw, .ref qr, .null, .null])) from hN.1.1 0 (by decide)) rfl 0 (by decide) hf_X1_init_16 rfl dX1_init_32 ?_
  refine lv_iload_n hx hb dX1_init_35 rfl (lv_at hl 0 rfl) ?_
  refine zr_new (C := RX0) (T := TX0) (N := 8) (ci := 0) (fs := [.int 0, .int 0, .null, .int 0, .int 0, .int 0, .int 0, .int 0]) hx hb hts hi_X1_init_X0 tyX0 tyX0_ok hown hn1_X1_init hn2_X1_init hn3_X1_init hw rfl zfsX0 (Nat.le_of_ble_eq_true rfl) (Nat.le_of_ble_eq_true rfl) dX1_init_36 (fun w_7 H hq hw => ?_)
  obtain ⟨f_14, hf_14⟩ : ∃ z, va_up f_12 w_7 (.inr (0, [.int 0, .int 0, .null, .int 0, .int 0, .int 0, .int 0, .int 0])) = z := ⟨_, rfl⟩
  have hw : zW g A s (L ++ [w_7]) f_14 H locs := by rw [← hf_14]; exact hw
  have hN := zN_f hf_14 (hN.add hq _)
  generalize L ++ [w_7] = L at hw hN
  refine lv_dup hx hb dX1_init_39 rfl ?_
  refine z_callI (As := []) (rest := [.ref w_7, .int 2, .ref qw]) ⟨hx, hb, hml, hown, hts⟩ hw hX (c_X0_init l g L f_14 w_7 (show zc L f_14 w_7 (.inr (0, [.int 0, .int 0, .null, .int 0, .int 0, .int 0, .int 0, .int 0])) from hN.1.1 7 (by decide))) (cwI 0 hts gX1_init_X0_init rfl rfl rfl (hts (.initialized RX0) (by decide +kernel)) (hts (.methodLink RX1 20 yX0_init) (by decide +kernel)) (hts (.instanceMethod yX0_init) (by decide +kernel)) rfl (by decide +kernel) ⟨(Nat.le_of_ble_eq_true rfl), (Nat.le_of_ble_eq_true rfl)⟩) rfl hl.1 rfl (Nat.le_of_ble_eq_true rfl) dX1_init_40 ⟨(Nat.le_of_ble_eq_true rfl), (Nat.le_of_ble_eq_true rfl)⟩ (fun _ _ _ _ _ _ _ hp => False.elim hp) (fun r9 L9 f9 H locs hp hw => ?_)
  obtain ⟨rfl, s_7, hs9, rfl, hu9⟩ := hp
  refine W.eq (g2 := F0 m 43 ls [.ref w_7, .int 2, .ref qw]) rfl ?_
  have hN := zN_f hu9 ((hN.push hs9 _).up (j := 7) (by decide) rfl _)
  obtain ⟨f_15, rfl⟩ : ∃ z, z = f9 := ⟨_, rfl⟩
  generalize L ++ [s_7] = L at hw hN
  refine zr_wast hx hb hw (show zc L f_15 qw (.inl (g.2 4, 8, .inr (.inr (.inr (.inr (va_up (va_up (fun _ => none) 0 (some w_5)) 1 (some w_6))))))) from hN.1.1 4 (by decide)) (show zc L f_15 w_7 (.inr (0, zwf (45, 0, s_7, 0, 0, 0, 0, -1))) from hN.1.1 7 (by decide)) (vp_in_iff.mpr (by decide)) dX1_init_43 (fun H locs hw => ?_)
  obtain ⟨f_16, hf_16⟩ : ∃ z, va_up f_15 qw (.inl (g.2 4, 8, .inr (.inr (.inr (.inr (va_up (va_up (va_up (fun _ => none) 0 (some w_5)) 1 (some w_6)) 2 (some w_7))))))) = z := ⟨_, rfl⟩
  have hw : zW g A s L f_16 H locs := by rw [← hf_16]; exact hw
  have hN := zN_f hf_16 (hN.up (j := 4) (by decide) rfl _)
  refine lv_iinc (v := 3) (lv' := [(1, .int 3), (0, .ref h)]) hx hb dX1_init_44 hl (k := 0) rfl rfl (by decide) rfl (fun ls hl => ?_)
  refine lv_goto (tgt := 25) hx hb dX1_init_47 (by decide) ?_
  refine lv_iload_n hx hb dX1_init_25 rfl (lv_at hl 0 rfl) ?_
  refine lv_bipush (v := 8) hx hb dX1_init_26 (by decide) ?_
  refine lv_icmp_ge (tgt := 50) hx hb dX1_init_28 (by decide) (fun c_17 => absurd c_17 (by decide)) (fun c_17 => ?_)
  refine lv_aload_n hx hb dX1_init_31 rfl (lv_at hl 1 rfl) ?_
  refine zr_get (C := RX1) (T := TX1) (N := 4) (v := .ref qw) hx hb hts hi_X1_init_X1 hown hw (show zc L f_16 h (.inr (1, [.ref qw, .ref qr, .null, .null])) from hN.1.1 0 (by decide)) rfl 0 (by decide) hf_X1_init_16 rfl dX1_init_32 ?_
  refine lv_iload_n hx hb dX1_init_35 rfl (lv_at hl 0 rfl) ?_
  refine zr_new (C := RX0) (T := TX0) (N := 8) (ci := 0) (fs := [.int 0, .int 0, .null, .int 0, .int 0, .int 0, .int 0, .int 0]) hx hb hts hi_X1_init_X0 tyX0 tyX0_ok hown hn1_X1_init hn2_X1_init hn3_X1_init hw rfl zfsX0 (Nat.le_of_ble_eq_true rfl) (Nat.le_of_ble_eq_true rfl) dX1_init_36 (fun w_8 H hq hw => ?_)
  obtain ⟨f_18, hf_18⟩ : ∃ z, va_up f_16 w_8 (.inr (0, [.int 0, .int 0, .null, .int 0, .int 0, .int 0, .int 0, .int 0])) = z := ⟨_, rfl⟩
  have hw : zW g A s (L ++ [w_8]) f_18 H locs := by rw [← hf_18]; exact hw
  have hN := zN_f hf_18 (hN.add hq _)
  generalize L ++ [w_8] = L at hw hN
  refine lv_dup hx hb dX1_init_39 rfl ?_
  refine z_callI (As := []) (rest := [.ref w_8, .int 3, .ref qw]) ⟨hx, hb, hml, hown, hts⟩ hw hX (c_X0_init l g L f_18 w_8 (show zc L f_18 w_8 (.inr (0, [.int 0, .int 0, .null, .int 0, .int 0, .int 0, .int 0, .int 0])) from hN.1.1 8 (by decide))) (cwI 0 hts gX1_init_X0_init rfl rfl rfl (hts (.initialized RX0) (by decide +kernel)) (hts (.methodLink RX1 20 yX0_init) (by decide +kernel)) (hts (.instanceMethod yX0_init) (by decide +kernel)) rfl (by decide +kernel) ⟨(Nat.le_of_ble_eq_true rfl), (Nat.le_of_ble_eq_true rfl)⟩) rfl hl.1 rfl (Nat.le_of_ble_eq_true rfl) dX1_init_40 ⟨(Nat.le_of_ble_eq_true rfl), (Nat.le_of_ble_eq_true rfl)⟩ (fun _ _ _ _ _ _ _ hp => False.elim hp) (fun r9 L9 f9 H locs hp hw => ?_)
  obtain ⟨rfl, s_8, hs9, rfl, hu9⟩ := hp
  refine W.eq (g2 := F0 m 43 ls [.ref w_8, .int 3, .ref qw]) rfl ?_
  have hN := zN_f hu9 ((hN.push hs9 _).up (j := 8) (by decide) rfl _)
  obtain ⟨f_19, rfl⟩ : ∃ z, z = f9 := ⟨_, rfl⟩
  generalize L ++ [s_8] = L at hw hN
  refine zr_wast hx hb hw (show zc L f_19 qw (.inl (g.2 4, 8, .inr (.inr (.inr (.inr (va_up (va_up (va_up (fun _ => none) 0 (some w_5)) 1 (some w_6)) 2 (some w_7))))))) from hN.1.1 4 (by decide)) (show zc L f_19 w_8 (.inr (0, zwf (45, 0, s_8, 0, 0, 0, 0, -1))) from hN.1.1 8 (by decide)) (vp_in_iff.mpr (by decide)) dX1_init_43 (fun H locs hw => ?_)
  obtain ⟨f_20, hf_20⟩ : ∃ z, va_up f_19 qw (.inl (g.2 4, 8, .inr (.inr (.inr (.inr (va_up (va_up (va_up (va_up (fun _ => none) 0 (some w_5)) 1 (some w_6)) 2 (some w_7)) 3 (some w_8))))))) = z := ⟨_, rfl⟩
  have hw : zW g A s L f_20 H locs := by rw [← hf_20]; exact hw
  have hN := zN_f hf_20 (hN.up (j := 4) (by decide) rfl _)
  refine lv_iinc (v := 4) (lv' := [(1, .int 4), (0, .ref h)]) hx hb dX1_init_44 hl (k := 0) rfl rfl (by decide) rfl (fun ls hl => ?_)
  refine lv_goto (tgt := 25) hx hb dX1_init_47 (by decide) ?_
  refine lv_iload_n hx hb dX1_init_25 rfl (lv_at hl 0 rfl) ?_
  refine lv_bipush (v := 8) hx hb dX1_init_26 (by decide) ?_
  refine lv_icmp_ge (tgt := 50) hx hb dX1_init_28 (by decide) (fun c_21 => absurd c_21 (by decide)) (fun c_21 => ?_)
  refine lv_aload_n hx hb dX1_init_31 rfl (lv_at hl 1 rfl) ?_
  refine zr_get (C := RX1) (T := TX1) (N := 4) (v := .ref qw) hx hb hts hi_X1_init_X1 hown hw (show zc L f_20 h (.inr (1, [.ref qw, .ref qr, .null, .null])) from hN.1.1 0 (by decide)) rfl 0 (by decide) hf_X1_init_16 rfl dX1_init_32 ?_
  refine lv_iload_n hx hb dX1_init_35 rfl (lv_at hl 0 rfl) ?_
  refine zr_new (C := RX0) (T := TX0) (N := 8) (ci := 0) (fs := [.int 0, .int 0, .null, .int 0, .int 0, .int 0, .int 0, .int 0]) hx hb hts hi_X1_init_X0 tyX0 tyX0_ok hown hn1_X1_init hn2_X1_init hn3_X1_init hw rfl zfsX0 (Nat.le_of_ble_eq_true rfl) (Nat.le_of_ble_eq_true rfl) dX1_init_36 (fun w_9 H hq hw => ?_)
  obtain ⟨f_22, hf_22⟩ : ∃ z, va_up f_20 w_9 (.inr (0, [.int 0, .int 0, .null, .int 0, .int 0, .int 0, .int 0, .int 0])) = z := ⟨_, rfl⟩
  have hw : zW g A s (L ++ [w_9]) f_22 H locs := by rw [← hf_22]; exact hw
  have hN := zN_f hf_22 (hN.add hq _)
  generalize L ++ [w_9] = L at hw hN
  refine lv_dup hx hb dX1_init_39 rfl ?_
  refine z_callI (As := []) (rest := [.ref w_9, .int 4, .ref qw]) ⟨hx, hb, hml, hown, hts⟩ hw hX (c_X0_init l g L f_22 w_9 (show zc L f_22 w_9 (.inr (0, [.int 0, .int 0, .null, .int 0, .int 0, .int 0, .int 0, .int 0])) from hN.1.1 9 (by decide))) (cwI 0 hts gX1_init_X0_init rfl rfl rfl (hts (.initialized RX0) (by decide +kernel)) (hts (.methodLink RX1 20 yX0_init) (by decide +kernel)) (hts (.instanceMethod yX0_init) (by decide +kernel)) rfl (by decide +kernel) ⟨(Nat.le_of_ble_eq_true rfl), (Nat.le_of_ble_eq_true rfl)⟩) rfl hl.1 rfl (Nat.le_of_ble_eq_true rfl) dX1_init_40 ⟨(Nat.le_of_ble_eq_true rfl), (Nat.le_of_ble_eq_true rfl)⟩ (fun _ _ _ _ _ _ _ hp => False.elim hp) (fun r9 L9 f9 H locs hp hw => ?_)
  obtain ⟨rfl, s_9, hs9, rfl, hu9⟩ := hp
  refine W.eq (g2 := F0 m 43 ls [.ref w_9, .int 4, .ref qw]) rfl ?_
  have hN := zN_f hu9 ((hN.push hs9 _).up (j := 9) (by decide) rfl _)
  obtain ⟨f_23, rfl⟩ : ∃ z, z = f9 := ⟨_, rfl⟩
  generalize L ++ [s_9] = L at hw hN
  refine zr_wast hx hb hw (show zc L f_23 qw (.inl (g.2 4, 8, .inr (.inr (.inr (.inr (va_up (va_up (va_up (va_up (fun _ => none) 0 (some w_5)) 1 (some w_6)) 2 (some w_7)) 3 (some w_8))))))) from hN.1.1 4 (by decide)) (show zc L f_23 w_9 (.inr (0, zwf (45, 0, s_9, 0, 0, 0, 0, -1))) from hN.1.1 9 (by decide)) (vp_in_iff.mpr (by decide)) dX1_init_43 (fun H locs hw => ?_)
  obtain ⟨f_24, hf_24⟩ : ∃ z, va_up f_23 qw (.inl (g.2 4, 8, .inr (.inr (.inr (.inr (va_up (va_up (va_up (va_up (va_up (fun _ => none) 0 (some w_5)) 1 (some w_6)) 2 (some w_7)) 3 (some w_8)) 4 (some w_9))))))) = z := ⟨_, rfl⟩
  have hw : zW g A s L f_24 H locs := by rw [← hf_24]; exact hw
  have hN := zN_f hf_24 (hN.up (j := 4) (by decide) rfl _)
  refine lv_iinc (v := 5) (lv' := [(1, .int 5), (0, .ref h)]) hx hb dX1_init_44 hl (k := 0) rfl rfl (by decide) rfl (fun ls hl => ?_)
  refine lv_goto (tgt := 25) hx hb dX1_init_47 (by decide) ?_
  refine lv_iload_n hx hb dX1_init_25 rfl (lv_at hl 0 rfl) ?_
  refine lv_bipush (v := 8) hx hb dX1_init_26 (by decide) ?_
  refine lv_icmp_ge (tgt := 50) hx hb dX1_init_28 (by decide) (fun c_25 => absurd c_25 (by decide)) (fun c_25 => ?_)
  refine lv_aload_n hx hb dX1_init_31 rfl (lv_at hl 1 rfl) ?_
  refine zr_get (C := RX1) (T := TX1) (N := 4) (v := .ref qw) hx hb hts hi_X1_init_X1 hown hw (show zc L f_24 h (.inr (1, [.ref qw, .ref qr, .null, .null])) from hN.1.1 0 (by decide)) rfl 0 (by decide) hf_X1_init_16 rfl dX1_init_32 ?_
  refine lv_iload_n hx hb dX1_init_35 rfl (lv_at hl 0 rfl) ?_
  refine zr_new (C := RX0) (T := TX0) (N := 8) (ci := 0) (fs := [.int 0, .int 0, .null, .int 0, .int 0, .int 0, .int 0, .int 0]) hx hb hts hi_X1_init_X0 tyX0 tyX0_ok hown hn1_X1_init hn2_X1_init hn3_X1_init hw rfl zfsX0 (Nat.le_of_ble_eq_true rfl) (Nat.le_of_ble_eq_true rfl) dX1_init_36 (fun w_10 H hq hw => ?_)
  obtain ⟨f_26, hf_26⟩ : ∃ z, va_up f_24 w_10 (.inr (0, [.int 0, .int 0, .null, .int 0, .int 0, .int 0, .int 0, .int 0])) = z := ⟨_, rfl⟩
  have hw : zW g A s (L ++ [w_10]) f_26 H locs := by rw [← hf_26]; exact hw
  have hN := zN_f hf_26 (hN.add hq _)
  generalize L ++ [w_10] = L at hw hN
  refine lv_dup hx hb dX1_init_39 rfl ?_
  refine z_callI (As := []) (rest := [.ref w_10, .int 5, .ref qw]) ⟨hx, hb, hml, hown, hts⟩ hw hX (c_X0_init l g L f_26 w_10 (show zc L f_26 w_10 (.inr (0, [.int 0, .int 0, .null, .int 0, .int 0, .int 0, .int 0, .int 0])) from hN.1.1 10 (by decide))) (cwI 0 hts gX1_init_X0_init rfl rfl rfl (hts (.initialized RX0) (by decide +kernel)) (hts (.methodLink RX1 20 yX0_init) (by decide +kernel)) (hts (.instanceMethod yX0_init) (by decide +kernel)) rfl (by decide +kernel) ⟨(Nat.le_of_ble_eq_true rfl), (Nat.le_of_ble_eq_true rfl)⟩) rfl hl.1 rfl (Nat.le_of_ble_eq_true rfl) dX1_init_40 ⟨(Nat.le_of_ble_eq_true rfl), (Nat.le_of_ble_eq_true rfl)⟩ (fun _ _ _ _ _ _ _ hp => False.elim hp) (fun r9 L9 f9 H locs hp hw => ?_)
  obtain ⟨rfl, s_10, hs9, rfl, hu9⟩ := hp
  refine W.eq (g2 := F0 m 43 ls [.ref w_10, .int 5, .ref qw]) rfl ?_
  have hN := zN_f hu9 ((hN.push hs9 _).up (j := 10) (by decide) rfl _)
  obtain ⟨f_27, rfl⟩ : ∃ z, z = f9 := ⟨_, rfl⟩
  generalize L ++ [s_10] = L at hw hN
  refine zr_wast hx hb hw (show zc L f_27 qw (.inl (g.2 4, 8, .inr (.inr (.inr (.inr (va_up (va_up (va_up (va_up (va_up (fun _ => none) 0 (some w_5)) 1 (some w_6)) 2 (some w_7)) 3 (some w_8)) 4 (some w_9))))))) from hN.1.1 4 (by decide)) (show zc L f_27 w_10 (.inr (0, zwf (45, 0, s_10, 0, 0, 0, 0, -1))) from hN.1.1 10 (by decide)) (vp_in_iff.mpr (by decide)) dX1_init_43 (fun H locs hw => ?_)
  obtain ⟨f_28, hf_28⟩ : ∃ z, va_up f_27 qw (.inl (g.2 4, 8, .inr (.inr (.inr (.inr (va_up (va_up (va_up (va_up (va_up (va_up (fun _ => none) 0 (some w_5)) 1 (some w_6)) 2 (some w_7)) 3 (some w_8)) 4 (some w_9)) 5 (some w_10))))))) = z := ⟨_, rfl⟩
  have hw : zW g A s L f_28 H locs := by rw [← hf_28]; exact hw
  have hN := zN_f hf_28 (hN.up (j := 4) (by decide) rfl _)
  refine lv_iinc (v := 6) (lv' := [(1, .int 6), (0, .ref h)]) hx hb dX1_init_44 hl (k := 0) rfl rfl (by decide) rfl (fun ls hl => ?_)
  refine lv_goto (tgt := 25) hx hb dX1_init_47 (by decide) ?_
  refine lv_iload_n hx hb dX1_init_25 rfl (lv_at hl 0 rfl) ?_
  refine lv_bipush (v := 8) hx hb dX1_init_26 (by decide) ?_
  refine lv_icmp_ge (tgt := 50) hx hb dX1_init_28 (by decide) (fun c_29 => absurd c_29 (by decide)) (fun c_29 => ?_)
  refine lv_aload_n hx hb dX1_init_31 rfl (lv_at hl 1 rfl) ?_
  refine zr_get (C := RX1) (T := TX1) (N := 4) (v := .ref qw) hx hb hts hi_X1_init_X1 hown hw (show zc L f_28 h (.inr (1, [.ref qw, .ref qr, .null, .null])) from hN.1.1 0 (by decide)) rfl 0 (by decide) hf_X1_init_16 rfl dX1_init_32 ?_
  refine lv_iload_n hx hb dX1_init_35 rfl (lv_at hl 0 rfl) ?_
  refine zr_new (C := RX0) (T := TX0) (N := 8) (ci := 0) (fs := [.int 0, .int 0, .null, .int 0, .int 0, .int 0, .int 0, .int 0]) hx hb hts hi_X1_init_X0 tyX0 tyX0_ok hown hn1_X1_init hn2_X1_init hn3_X1_init hw rfl zfsX0 (Nat.le_of_ble_eq_true rfl) (Nat.le_of_ble_eq_true rfl) dX1_init_36 (fun w_11 H hq hw => ?_)
  obtain ⟨f_30, hf_30⟩ : ∃ z, va_up f_28 w_11 (.inr (0, [.int 0, .int 0, .null, .int 0, .int 0, .int 0, .int 0, .int 0])) = z := ⟨_, rfl⟩
  have hw : zW g A s (L ++ [w_11]) f_30 H locs := by rw [← hf_30]; exact hw
  have hN := zN_f hf_30 (hN.add hq _)
  generalize L ++ [w_11] = L at hw hN
  refine lv_dup hx hb dX1_init_39 rfl ?_
  refine z_callI (As := []) (rest := [.ref w_11, .int 6, .ref qw]) ⟨hx, hb, hml, hown, hts⟩ hw hX (c_X0_init l g L f_30 w_11 (show zc L f_30 w_11 (.inr (0, [.int 0, .int 0, .null, .int 0, .int 0, .int 0, .int 0, .int 0])) from hN.1.1 11 (by decide))) (cwI 0 hts gX1_init_X0_init rfl rfl rfl (hts (.initialized RX0) (by decide +kernel)) (hts (.methodLink RX1 20 yX0_init) (by decide +kernel)) (hts (.instanceMethod yX0_init) (by decide +kernel)) rfl (by decide +kernel) ⟨(Nat.le_of_ble_eq_true rfl), (Nat.le_of_ble_eq_true rfl)⟩) rfl hl.1 rfl (Nat.le_of_ble_eq_true rfl) dX1_init_40 ⟨(Nat.le_of_ble_eq_true rfl), (Nat.le_of_ble_eq_true rfl)⟩ (fun _ _ _ _ _ _ _ hp => False.elim hp) (fun r9 L9 f9 H locs hp hw => ?_)
  obtain ⟨rfl, s_11, hs9, rfl, hu9⟩ := hp
  refine W.eq (g2 := F0 m 43 ls [.ref w_11, .int 6, .ref qw]) rfl ?_
  have hN := zN_f hu9 ((hN.push hs9 _).up (j := 11) (by decide) rfl _)
  obtain ⟨f_31, rfl⟩ : ∃ z, z = f9 := ⟨_, rfl⟩
  generalize L ++ [s_11] = L at hw hN
  refine zr_wast hx hb hw (show zc L f_31 qw (.inl (g.2 4, 8, .inr (.inr (.inr (.inr (va_up (va_up (va_up (va_up (va_up (va_up (fun _ => none) 0 (some w_5)) 1 (some w_6)) 2 (some w_7)) 3 (some w_8)) 4 (some w_9)) 5 (some w_10))))))) from hN.1.1 4 (by decide)) (show zc L f_31 w_11 (.inr (0, zwf (45, 0, s_11, 0, 0, 0, 0, -1))) from hN.1.1 11 (by decide)) (vp_in_iff.mpr (by decide)) dX1_init_43 (fun H locs hw => ?_)
  obtain ⟨f_32, hf_32⟩ : ∃ z, va_up f_31 qw (.inl (g.2 4, 8, .inr (.inr (.inr (.inr (va_up (va_up (va_up (va_up (va_up (va_up (va_up (fun _ => none) 0 (some w_5)) 1 (some w_6)) 2 (some w_7)) 3 (some w_8)) 4 (some w_9)) 5 (some w_10)) 6 (some w_11))))))) = z := ⟨_, rfl⟩
  have hw : zW g A s L f_32 H locs := by rw [← hf_32]; exact hw
  have hN := zN_f hf_32 (hN.up (j := 4) (by decide) rfl _)
  refine lv_iinc (v := 7) (lv' := [(1, .int 7), (0, .ref h)]) hx hb dX1_init_44 hl (k := 0) rfl rfl (by decide) rfl (fun ls hl => ?_)
  refine lv_goto (tgt := 25) hx hb dX1_init_47 (by decide) ?_
  refine lv_iload_n hx hb dX1_init_25 rfl (lv_at hl 0 rfl) ?_
  refine lv_bipush (v := 8) hx hb dX1_init_26 (by decide) ?_
  refine lv_icmp_ge (tgt := 50) hx hb dX1_init_28 (by decide) (fun c_33 => absurd c_33 (by decide)) (fun c_33 => ?_)
  refine lv_aload_n hx hb dX1_init_31 rfl (lv_at hl 1 rfl) ?_
  refine zr_get (C := RX1) (T := TX1) (N := 4) (v := .ref qw) hx hb hts hi_X1_init_X1 hown hw (show zc L f_32 h (.inr (1, [.ref qw, .ref qr, .null, .null])) from hN.1.1 0 (by decide)) rfl 0 (by decide) hf_X1_init_16 rfl dX1_init_32 ?_
  refine lv_iload_n hx hb dX1_init_35 rfl (lv_at hl 0 rfl) ?_
  refine zr_new (C := RX0) (T := TX0) (N := 8) (ci := 0) (fs := [.int 0, .int 0, .null, .int 0, .int 0, .int 0, .int 0, .int 0]) hx hb hts hi_X1_init_X0 tyX0 tyX0_ok hown hn1_X1_init hn2_X1_init hn3_X1_init hw rfl zfsX0 (Nat.le_of_ble_eq_true rfl) (Nat.le_of_ble_eq_true rfl) dX1_init_36 (fun w_12 H hq hw => ?_)
  obtain ⟨f_34, hf_34⟩ : ∃ z, va_up f_32 w_12 (.inr (0, [.int 0, .int 0, .null, .int 0, .int 0, .int 0, .int 0, .int 0])) = z := ⟨_, rfl⟩
  have hw : zW g A s (L ++ [w_12]) f_34 H locs := by rw [← hf_34]; exact hw
  have hN := zN_f hf_34 (hN.add hq _)
  generalize L ++ [w_12] = L at hw hN
  refine lv_dup hx hb dX1_init_39 rfl ?_
  refine z_callI (As := []) (rest := [.ref w_12, .int 7, .ref qw]) ⟨hx, hb, hml, hown, hts⟩ hw hX (c_X0_init l g L f_34 w_12 (show zc L f_34 w_12 (.inr (0, [.int 0, .int 0, .null, .int 0, .int 0, .int 0, .int 0, .int 0])) from hN.1.1 12 (by decide))) (cwI 0 hts gX1_init_X0_init rfl rfl rfl (hts (.initialized RX0) (by decide +kernel)) (hts (.methodLink RX1 20 yX0_init) (by decide +kernel)) (hts (.instanceMethod yX0_init) (by decide +kernel)) rfl (by decide +kernel) ⟨(Nat.le_of_ble_eq_true rfl), (Nat.le_of_ble_eq_true rfl)⟩) rfl hl.1 rfl (Nat.le_of_ble_eq_true rfl) dX1_init_40 ⟨(Nat.le_of_ble_eq_true rfl), (Nat.le_of_ble_eq_true rfl)⟩ (fun _ _ _ _ _ _ _ hp => False.elim hp) (fun r9 L9 f9 H locs hp hw => ?_)
  obtain ⟨rfl, s_12, hs9, rfl, hu9⟩ := hp
  refine W.eq (g2 := F0 m 43 ls [.ref w_12, .int 7, .ref qw]) rfl ?_
  have hN := zN_f hu9 ((hN.push hs9 _).up (j := 12) (by decide) rfl _)
  obtain ⟨f_35, rfl⟩ : ∃ z, z = f9 := ⟨_, rfl⟩
  generalize L ++ [s_12] = L at hw hN
  refine zr_wast hx hb hw (show zc L f_35 qw (.inl (g.2 4, 8, .inr (.inr (.inr (.inr (va_up (va_up (va_up (va_up (va_up (va_up (va_up (fun _ => none) 0 (some w_5)) 1 (some w_6)) 2 (some w_7)) 3 (some w_8)) 4 (some w_9)) 5 (some w_10)) 6 (some w_11))))))) from hN.1.1 4 (by decide)) (show zc L f_35 w_12 (.inr (0, zwf (45, 0, s_12, 0, 0, 0, 0, -1))) from hN.1.1 12 (by decide)) (vp_in_iff.mpr (by decide)) dX1_init_43 (fun H locs hw => ?_)
  obtain ⟨f_36, hf_36⟩ : ∃ z, va_up f_35 qw (.inl (g.2 4, 8, .inr (.inr (.inr (.inr (va_up (va_up (va_up (va_up (va_up (va_up (va_up (va_up (fun _ => none) 0 (some w_5)) 1 (some w_6)) 2 (some w_7)) 3 (some w_8)) 4 (some w_9)) 5 (some w_10)) 6 (some w_11)) 7 (some w_12))))))) = z := ⟨_, rfl⟩
  have hw : zW g A s L f_36 H locs := by rw [← hf_36]; exact hw
  have hN := zN_f hf_36 (hN.up (j := 4) (by decide) rfl _)
  refine lv_iinc (v := 8) (lv' := [(1, .int 8), (0, .ref h)]) hx hb dX1_init_44 hl (k := 0) rfl rfl (by decide) rfl (fun ls hl => ?_)
  refine lv_goto (tgt := 25) hx hb dX1_init_47 (by decide) ?_
  refine lv_iload_n hx hb dX1_init_25 rfl (lv_at hl 0 rfl) ?_
  refine lv_bipush (v := 8) hx hb dX1_init_26 (by decide) ?_
  refine lv_icmp_ge (tgt := 50) hx hb dX1_init_28 (by decide) (fun c_37 => ?_) (fun c_37 => absurd (by decide) c_37)
  refine lv_aload_n hx hb dX1_init_50 rfl (lv_at hl 1 rfl) ?_
  refine zr_new (C := RX0) (T := TX0) (N := 8) (ci := 0) (fs := [.int 0, .int 0, .null, .int 0, .int 0, .int 0, .int 0, .int 0]) hx hb hts hi_X1_init_X0 tyX0 tyX0_ok hown hn1_X1_init hn2_X1_init hn3_X1_init hw rfl zfsX0 (Nat.le_of_ble_eq_true rfl) (Nat.le_of_ble_eq_true rfl) dX1_init_51 (fun w_13 H hq hw => ?_)
  obtain ⟨f_38, hf_38⟩ : ∃ z, va_up f_36 w_13 (.inr (0, [.int 0, .int 0, .null, .int 0, .int 0, .int 0, .int 0, .int 0])) = z := ⟨_, rfl⟩
  have hw : zW g A s (L ++ [w_13]) f_38 H locs := by rw [← hf_38]; exact hw
  have hN := zN_f hf_38 (hN.add hq _)
  generalize L ++ [w_13] = L at hw hN
  refine lv_dup hx hb dX1_init_54 rfl ?_
  refine z_callI (As := []) (rest := [.ref w_13, .ref h]) ⟨hx, hb, hml, hown, hts⟩ hw hX (c_X0_init l g L f_38 w_13 (show zc L f_38 w_13 (.inr (0, [.int 0, .int 0, .null, .int 0, .int 0, .int 0, .int 0, .int 0])) from hN.1.1 13 (by decide))) (cwI 0 hts gX1_init_X0_init rfl rfl rfl (hts (.initialized RX0) (by decide +kernel)) (hts (.methodLink RX1 20 yX0_init) (by decide +kernel)) (hts (.instanceMethod yX0_init) (by decide +kernel)) rfl (by decide +kernel) ⟨(Nat.le_of_ble_eq_true rfl), (Nat.le_of_ble_eq_true rfl)⟩) rfl hl.1 rfl (Nat.le_of_ble_eq_true rfl) dX1_init_55 ⟨(Nat.le_of_ble_eq_true rfl), (Nat.le_of_ble_eq_true rfl)⟩ (fun _ _ _ _ _ _ _ hp => False.elim hp) (fun r9 L9 f9 H locs hp hw => ?_)
  obtain ⟨rfl, s_13, hs9, rfl, hu9⟩ := hp
  refine W.eq (g2 := F0 m 58 ls [.ref w_13, .ref h]) rfl ?_
  have hN := zN_f hu9 ((hN.push hs9 _).up (j := 13) (by decide) rfl _)
  obtain ⟨f_39, rfl⟩ : ∃ z, z = f9 := ⟨_, rfl⟩
  generalize L ++ [s_13] = L at hw hN
  refine zr_putF (C := RX1) (T := TX1) (N := 4) (ty := tyX1 2) hx hb hts hi_X1_init_X1 tyX1 tyX1_ok nmX1 hown hw (show zc L f_39 h (.inr (1, [.ref qw, .ref qr, .null, .null])) from hN.1.1 0 (by decide)) rfl 2 (by decide) hf_X1_init_21 rfl hin rfl rfl rfl rfl (Nat.le_of_ble_eq_true rfl) dX1_init_58 (fun H locs hw => ?_)
  obtain ⟨f_40, hf_40⟩ : ∃ z, va_up f_39 h (.inr (1, [.ref qw, .ref qr, .ref w_13, .null])) = z := ⟨_, rfl⟩
  have hw : zW g A s L f_40 H locs := by rw [← hf_40]; exact hw
  have hN := zN_f hf_40 (hN.up (j := 0) (by decide) rfl _)
  refine lv_aload_n hx hb dX1_init_61 rfl (lv_at hl 1 rfl) ?_
  refine zr_new (C := RX0) (T := TX0) (N := 8) (ci := 0) (fs := [.int 0, .int 0, .null, .int 0, .int 0, .int 0, .int 0, .int 0]) hx hb hts hi_X1_init_X0 tyX0 tyX0_ok hown hn1_X1_init hn2_X1_init hn3_X1_init hw rfl zfsX0 (Nat.le_of_ble_eq_true rfl) (Nat.le_of_ble_eq_true rfl) dX1_init_62 (fun w_14 H hq hw => ?_)
  obtain ⟨f_41, hf_41⟩ : ∃ z, va_up f_40 w_14 (.inr (0, [.int 0, .int 0, .null, .int 0, .int 0, .int 0, .int 0, .int 0])) = z := ⟨_, rfl⟩
  have hw : zW g A s (L ++ [w_14]) f_41 H locs := by rw [← hf_41]; exact hw
  have hN := zN_f hf_41 (hN.add hq _)
  generalize L ++ [w_14] = L at hw hN
  refine lv_dup hx hb dX1_init_65 rfl ?_
  refine z_callI (As := []) (rest := [.ref w_14, .ref h]) ⟨hx, hb, hml, hown, hts⟩ hw hX (c_X0_init l g L f_41 w_14 (show zc L f_41 w_14 (.inr (0, [.int 0, .int 0, .null, .int 0, .int 0, .int 0, .int 0, .int 0])) from hN.1.1 14 (by decide))) (cwI 0 hts gX1_init_X0_init rfl rfl rfl (hts (.initialized RX0) (by decide +kernel)) (hts (.methodLink RX1 20 yX0_init) (by decide +kernel)) (hts (.instanceMethod yX0_init) (by decide +kernel)) rfl (by decide +kernel) ⟨(Nat.le_of_ble_eq_true rfl), (Nat.le_of_ble_eq_true rfl)⟩) rfl hl.1 rfl (Nat.le_of_ble_eq_true rfl) dX1_init_66 ⟨(Nat.le_of_ble_eq_true rfl), (Nat.le_of_ble_eq_true rfl)⟩ (fun _ _ _ _ _ _ _ hp => False.elim hp) (fun r9 L9 f9 H locs hp hw => ?_)
  obtain ⟨rfl, s_14, hs9, rfl, hu9⟩ := hp
  refine W.eq (g2 := F0 m 69 ls [.ref w_14, .ref h]) rfl ?_
  have hN := zN_f hu9 ((hN.push hs9 _).up (j := 14) (by decide) rfl _)
  obtain ⟨f_42, rfl⟩ : ∃ z, z = f9 := ⟨_, rfl⟩
  generalize L ++ [s_14] = L at hw hN
  refine zr_putF (C := RX1) (T := TX1) (N := 4) (ty := tyX1 3) hx hb hts hi_X1_init_X1 tyX1 tyX1_ok nmX1 hown hw (show zc L f_42 h (.inr (1, [.ref qw, .ref qr, .ref w_13, .null])) from hN.1.1 0 (by decide)) rfl 3 (by decide) hf_X1_init_25 rfl hin rfl rfl rfl rfl (Nat.le_of_ble_eq_true rfl) dX1_init_69 (fun H locs hw => ?_)
  obtain ⟨f_43, hf_43⟩ : ∃ z, va_up f_42 h (.inr (1, [.ref qw, .ref qr, .ref w_13, .ref w_14])) = z := ⟨_, rfl⟩
  have hw : zW g A s L f_43 H locs := by rw [← hf_43]; exact hw
  have hN := zN_f hf_43 (hN.up (j := 0) (by decide) rfl _)
  have hQ := zC0_of (g := g) (h := h) hN (va_up (va_up (va_up (va_up (va_up (va_up (va_up (va_up (fun _ => none) 0 (some w_5)) 1 (some w_6)) 2 (some w_7)) 3 (some w_8)) 4 (some w_9)) 5 (some w_10)) 6 (some w_11)) 7 (some w_12)) (fun i => if i < 2 then some (r9 i) else none) (fun i => [s_5, s_6, s_7, s_8, s_9, s_10, s_11, s_12, s_13, s_14].getD i 0) rfl rfl rfl rfl rfl rfl rfl rfl (fun i hi => by
      match i, hi with
      | 0, _ => rfl
      | 1, _ => rfl
      | 2, _ => rfl
      | 3, _ => rfl
      | 4, _ => rfl
      | 5, _ => rfl
      | 6, _ => rfl
      | 7, _ => rfl
      ) (fun i hi => by
      match i, hi with
      | 0, _ => rfl
      | 1, _ => rfl
      | 2, _ => rfl
      | 3, _ => rfl
      | 4, _ => rfl
      | 5, _ => rfl
      | 6, _ => rfl
      | 7, _ => rfl
      | 8, _ => rfl
      | 9, _ => rfl
      )
  exact z_vret hx hb hr hlocks hw (Nat.le_of_ble_eq_true rfl) (Nat.le_of_ble_eq_true rfl) dX1_init_72 ⟨rfl, hQ⟩

