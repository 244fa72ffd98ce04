theorem zvi {w h : Int32} {n : Nat} (hh : h.toInt = n) (h0 : ¬ w < 0) (h1 : w < h) : vp_in w n := by
  rw [vp_in_iff]
  have h2 := Int32.lt_iff_toInt_lt.mp h1
  have h3 := Int32.le_iff_toInt_le.mp (Int32.not_lt.mp h0)
  have h4 : (0 : Int32).toInt = 0 := rfl
  omega
theorem zvo {w h : Int32} {n : Nat} (hh : h.toInt = n) (h1 : vp_in w n) : ¬ w < 0 ∧ w < h := by
  rw [vp_in_iff] at h1
  have h4 : (0 : Int32).toInt = 0 := rfl
  refine ⟨fun q => ?_, Int32.lt_iff_toInt_lt.mpr (by omega)⟩
  have := Int32.lt_iff_toInt_lt.mp q
  omega
/-- the house's own cells: the object, its two rows, ten windows -/
def zCe (g : zG) (ah : Nat → Nat) (G Rw : Nat → Option Nat) (wn : Nat → ZW) : Nat → va_E := fun k => match k with
  | 0 => .inr (1, [.ref (ah 1), .ref (ah 2), .ref (ah 11), .ref (ah 12)])
  | 1 => .inl (g.2 4, 8, .inr (.inr (.inr (.inr G))))
  | 2 => .inl (g.2 5, 2, .inr (.inr (.inr (.inr Rw))))
  | k + 3 => .inr (0, zwf (wn k))

theorem hk_X1_checkIndex_216 : Cond.classLink RX1 216 "java/lang/IndexOutOfBoundsException" ∈ wsX1_checkIndex := by decide +kernel
theorem hj_X1_checkIndex_216 : Cond.initialized "java/lang/IndexOutOfBoundsException" ∈ wsX1_checkIndex := by decide +kernel
theorem hg_X1_checkIndex_220 : ∀ w ∈ (vx_atS RX1 220 "java/lang/IndexOutOfBoundsException" zNm).filter goodWord, w ∈ wsX1_checkIndex := by decide +kernel
set_option maxRecDepth 100000 in
set_option maxHeartbeats 4000000 in
theorem c_X1_checkIndex (l : Launch) (hl0 : l.stackTraces = false) (g : zG) (L : List Nat) (f : Nat → va_E) (p0 : Int32) (p1 : Int32) : zC l yX1_checkIndex wsX1_checkIndex { frames := 6, cells := 1, slots := 6, locals := 82 } 1 6 g [.int p0, .int p1] L f (fun r L1 f1 => none = r ∧ L = L1 ∧ f = f1 ∧ (¬ p0 < 0 ∧ p0 < p1)) (fun E L1 f1 => E = "java/lang/IndexOutOfBoundsException" ∧ L = L1 ∧ f = f1 ∧ ¬ (¬ p0 < 0 ∧ p0 < p1)) := by
  refine z_ofW (cc := cX1_checkIndex) (maxL := 2) (ret := none) (by decide) rfl (Nat.le_of_ble_eq_true rfl) ?_
  intro p e s m args below meth c ls A hx hb hr hts hown hlocks hml htab hin hw hX hl
  have hl : lv_has ls 2 [(0, .int p0), (1, .int p1)] := hl
  have hown : s.vm.findClass RX1 = some m.cls := hown
  refine lv_iload_n hx hb dX1_checkIndex_0 rfl (lv_at hl 0 rfl) ?_
  refine lv_if_lt (tgt := 9) hx hb dX1_checkIndex_1 (by decide) (fun c_1 => ?_) (fun c_1 => ?_)
  · exact z_throw (ik := 216) (is := 221) (ic := 220) (E := "java/lang/IndexOutOfBoundsException") (text := "the index is out of range") hx hb hl0 hown hts hlocks (hml.trans hl.1.symm) htab (by decide) (by decide +kernel) hk_X1_checkIndex_216 hj_X1_checkIndex_216 hg_X1_checkIndex_220 zt_ng_220 zt_ot_220 (by decide) hw hX dX1_checkIndex_9 dX1_checkIndex_12 dX1_checkIndex_13 dX1_checkIndex_15 dX1_checkIndex_18 (Nat.le_of_ble_eq_true rfl) (Nat.le_of_ble_eq_true rfl) (Nat.le_of_ble_eq_true rfl) (Nat.le_of_ble_eq_true rfl) (Nat.le_of_ble_eq_true rfl) (Nat.le_of_ble_eq_true rfl) ⟨rfl, rfl, rfl, (fun h => h.1 c_1)⟩
  · refine lv_iload_n hx hb dX1_checkIndex_4 rfl (lv_at hl 0 rfl) ?_
    refine lv_iload_n hx hb dX1_checkIndex_5 rfl (lv_at hl 1 rfl) ?_
    refine lv_icmp_lt (tgt := 19) hx hb dX1_checkIndex_6 (by decide) (fun c_2 => ?_) (fun c_2 => ?_)
    · exact z_vret hx hb hr hlocks hw (Nat.le_of_ble_eq_true rfl) (Nat.le_of_ble_eq_true rfl) dX1_checkIndex_19 ⟨rfl, rfl, rfl, ⟨c_1, c_2⟩⟩
    · exact z_throw (ik := 216) (is := 221) (ic := 220) (E := "java/lang/IndexOutOfBoundsException") (text := "the index is out of range") hx hb hl0 hown hts hlocks (hml.trans hl.1.symm) htab (by decide) (by decide +kernel) hk_X1_checkIndex_216 hj_X1_checkIndex_216 hg_X1_checkIndex_220 zt_ng_220 zt_ot_220 (by decide) hw hX dX1_checkIndex_9 dX1_checkIndex_12 dX1_checkIndex_13 dX1_checkIndex_15 dX1_checkIndex_18 (Nat.le_of_ble_eq_true rfl) (Nat.le_of_ble_eq_true rfl) (Nat.le_of_ble_eq_true rfl) (Nat.le_of_ble_eq_true rfl) (Nat.le_of_ble_eq_true rfl) (Nat.le_of_ble_eq_true rfl) ⟨rfl, rfl, rfl, (fun h => c_2 h.2)⟩

theorem hk_X1_checkPart_216 : Cond.classLink RX1 216 "java/lang/IndexOutOfBoundsException" ∈ wsX1_checkPart := by decide +kernel
theorem hj_X1_checkPart_216 : Cond.initialized "java/lang/IndexOutOfBoundsException" ∈ wsX1_checkPart := by decide +kernel
theorem hg_X1_checkPart_220 : ∀ w ∈ (vx_atS RX1 220 "java/lang/IndexOutOfBoundsException" zNm).filter goodWord, w ∈ wsX1_checkPart := by decide +kernel
set_option maxRecDepth 100000 in
set_option maxHeartbeats 4000000 in
theorem c_X1_checkPart (l : Launch) (hl0 : l.stackTraces = false) (g : zG) (L : List Nat) (f : Nat → va_E) (p0 : Int32) (p1 : Int32) (p2 : Int32) : zC l yX1_checkPart wsX1_checkPart { frames := 6, cells := 1, slots := 6, locals := 82 } 1 6 g [.int p0, .int p1, .int p2] L f (fun r L1 f1 => none = r ∧ L = L1 ∧ f = f1 ∧ (¬ p0 < 0 ∧ ¬ p2 < p0 ∧ ¬ p1 < 0 ∧ p1 ≤ p2 - p0)) (fun E L1 f1 => E = "java/lang/IndexOutOfBoundsException" ∧ L = L1 ∧ f = f1 ∧ ¬ (¬ p0 < 0 ∧ ¬ p2 < p0 ∧ ¬ p1 < 0 ∧ p1 ≤ p2 - p0)) := by
  refine z_ofW (cc := cX1_checkPart) (maxL := 3) (ret := none) (by decide) rfl (Nat.le_of_ble_eq_true rfl) ?_
  intro p e s m args below meth c ls A hx hb hr hts hown hlocks hml htab hin hw hX hl
  have hl : lv_has ls 3 [(0, .int p0), (1, .int p1), (2, .int p2)] := hl
  have hown : s.vm.findClass RX1 = some m.cls := hown
  refine lv_iload_n hx hb dX1_checkPart_0 rfl (lv_at hl 0 rfl) ?_
  refine lv_if_lt (tgt := 20) hx hb dX1_checkPart_1 (by decide) (fun c_1 => ?_) (fun c_1 => ?_)
  · exact z_throw (ik := 216) (is := 223) (ic := 220) (E := "java/lang/IndexOutOfBoundsException") (text := "there is no such part") hx hb hl0 hown hts hlocks (hml.trans hl.1.symm) htab (by decide) (by decide +kernel) hk_X1_checkPart_216 hj_X1_checkPart_216 hg_X1_checkPart_220 zt_ng_220 zt_ot_220 (by decide) hw hX dX1_checkPart_20 dX1_checkPart_23 dX1_checkPart_24 dX1_checkPart_26 dX1_checkPart_29 (Nat.le_of_ble_eq_true rfl) (Nat.le_of_ble_eq_true rfl) (Nat.le_of_ble_eq_true rfl) (Nat.le_of_ble_eq_true rfl) (Nat.le_of_ble_eq_true rfl) (Nat.le_of_ble_eq_true rfl) ⟨rfl, rfl, rfl, (fun h => h.1 c_1)⟩
  · refine lv_iload_n hx hb dX1_checkPart_4 rfl (lv_at hl 0 rfl) ?_
    refine lv_iload_n hx hb dX1_checkPart_5 rfl (lv_at hl 2 rfl) ?_
    refine lv_icmp_gt (tgt := 20) hx hb dX1_checkPart_6 (by decide) (fun c_2 => ?_) (fun c_2 => ?_)
    · exact z_throw (ik := 216) (is := 223) (ic := 220) (E := "java/lang/IndexOutOfBoundsException") (text := "there is no such part") hx hb hl0 hown hts hlocks (hml.trans hl.1.symm) htab (by decide) (by decide +kernel) hk_X1_checkPart_216 hj_X1_checkPart_216 hg_X1_checkPart_220 zt_ng_220 zt_ot_220 (by decide) hw hX dX1_checkPart_20 dX1_checkPart_23 dX1_checkPart_24 dX1_checkPart_26 dX1_checkPart_29 (Nat.le_of_ble_eq_true rfl) (Nat.le_of_ble_eq_true rfl) (Nat.le_of_ble_eq_true rfl) (Nat.le_of_ble_eq_true rfl) (Nat.le_of_ble_eq_true rfl) (Nat.le_of_ble_eq_true rfl) ⟨rfl, rfl, rfl, (fun h => h.2.1 c_2)⟩
    · refine lv_iload_n hx hb dX1_checkPart_9 rfl (lv_at hl 1 rfl) ?_
      refine lv_if_lt (tgt := 20) hx hb dX1_checkPart_10 (by decide) (fun c_3 => ?_) (fun c_3 => ?_)
      · exact z_throw (ik := 216) (is := 223) (ic := 220) (E := "java/lang/IndexOutOfBoundsException") (text := "there is no such part") hx hb hl0 hown hts hlocks (hml.trans hl.1.symm) htab (by decide) (by decide +kernel) hk_X1_checkPart_216 hj_X1_checkPart_216 hg_X1_checkPart_220 zt_ng_220 zt_ot_220 (by decide) hw hX dX1_checkPart_20 dX1_checkPart_23 dX1_checkPart_24 dX1_checkPart_26 dX1_checkPart_29 (Nat.le_of_ble_eq_true rfl) (Nat.le_of_ble_eq_true rfl) (Nat.le_of_ble_eq_true rfl) (Nat.le_of_ble_eq_true rfl) (Nat.le_of_ble_eq_true rfl) (Nat.le_of_ble_eq_true rfl) ⟨rfl, rfl, rfl, (fun h => h.2.2.1 c_3)⟩
      · refine lv_iload_n hx hb dX1_checkPart_13 rfl (lv_at hl 1 rfl) ?_
        refine lv_iload_n hx hb dX1_checkPart_14 rfl (lv_at hl 2 rfl) ?_
        refine lv_iload_n hx hb dX1_checkPart_15 rfl (lv_at hl 0 rfl) ?_
        refine lv_isub hx hb dX1_checkPart_16 ?_
        refine lv_icmp_le (tgt := 30) hx hb dX1_checkPart_17 (by decide) (fun c_4 => ?_) (fun c_4 => ?_)
        · exact z_vret hx hb hr hlocks hw (Nat.le_of_ble_eq_true rfl) (Nat.le_of_ble_eq_true rfl) dX1_checkPart_30 ⟨rfl, rfl, rfl, ⟨c_1, c_2, c_3, c_4⟩⟩
        · exact z_throw (ik := 216) (is := 223) (ic := 220) (E := "java/lang/IndexOutOfBoundsException") (text := "there is no such part") hx hb hl0 hown hts hlocks (hml.trans hl.1.symm) htab (by decide) (by decide +kernel) hk_X1_checkPart_216 hj_X1_checkPart_216 hg_X1_checkPart_220 zt_ng_220 zt_ot_220 (by decide) hw hX dX1_checkPart_20 dX1_checkPart_23 dX1_checkPart_24 dX1_checkPart_26 dX1_checkPart_29 (Nat.le_of_ble_eq_true rfl) (Nat.le_of_ble_eq_true rfl) (Nat.le_of_ble_eq_true rfl) (Nat.le_of_ble_eq_true rfl) (Nat.le_of_ble_eq_true rfl) (Nat.le_of_ble_eq_true rfl) ⟨rfl, rfl, rfl, (fun h => c_4 h.2.2.2)⟩

theorem hk_X1_checkBound_160 : Cond.classLink RX1 160 "java/lang/IllegalArgumentException" ∈ wsX1_checkBound := by decide +kernel
theorem hj_X1_checkBound_160 : Cond.initialized "java/lang/IllegalArgumentException" ∈ wsX1_checkBound := by decide +kernel
theorem hg_X1_checkBound_164 : ∀ w ∈ (vx_atS RX1 164 "java/lang/IllegalArgumentException" zNm).filter goodWord, w ∈ wsX1_checkBound := by decide +kernel
set_option maxRecDepth 100000 in
set_option maxHeartbeats 4000000 in
theorem c_X1_checkBound (l : Launch) (hl0 : l.stackTraces = false) (g : zG) (L : List Nat) (f : Nat → va_E) (p0 : Int32) (p1 : Int32) : zC l yX1_checkBound wsX1_checkBound { frames := 6, cells := 1, slots := 6, locals := 82 } 1 6 g [.int p0, .int p1] L f (fun r L1 f1 => none = r ∧ L = L1 ∧ f = f1 ∧ (¬ p0 < 0 ∧ p0 ≤ p1)) (fun E L1 f1 => E = "java/lang/IllegalArgumentException" ∧ L = L1 ∧ f = f1 ∧ ¬ (¬ p0 < 0 ∧ p0 ≤ p1)) := by
  refine z_ofW (cc := cX1_checkBound) (maxL := 2) (ret := none) (by decide) rfl (Nat.le_of_ble_eq_true rfl) ?_
  intro p e s m args below meth c ls A hx hb hr hts hown hlocks hml htab hin hw hX hl
  have hl : lv_has ls 2 [(0, .int p0), (1, .int p1)] := hl
  have hown : s.vm.findClass RX1 = some m.cls := hown
  refine lv_iload_n hx hb dX1_checkBound_0 rfl (lv_at hl 0 rfl) ?_
  refine lv_if_lt (tgt := 9) hx hb dX1_checkBound_1 (by decide) (fun c_1 => ?_) (fun c_1 => ?_)
  · exact z_throw (ik := 160) (is := 225) (ic := 164) (E := "java/lang/IllegalArgumentException") (text := "it is out of range") hx hb hl0 hown hts hlocks (hml.trans hl.1.symm) htab (by decide) (by decide +kernel) hk_X1_checkBound_160 hj_X1_checkBound_160 hg_X1_checkBound_164 zt_ng_164 zt_ot_164 (by decide) hw hX dX1_checkBound_9 dX1_checkBound_12 dX1_checkBound_13 dX1_checkBound_15 dX1_checkBound_18 (Nat.le_of_ble_eq_true rfl) (Nat.le_of_ble_eq_true rfl) (Nat.le_of_ble_eq_true rfl) (Nat.le_of_ble_eq_true rfl) (Nat.le_of_ble_eq_true rfl) (Nat.le_of_ble_eq_true rfl) ⟨rfl, rfl, rfl, (fun h => h.1 c_1)⟩
  · refine lv_iload_n hx hb dX1_checkBound_4 rfl (lv_at hl 0 rfl) ?_
    refine lv_iload_n hx hb dX1_checkBound_5 rfl (lv_at hl 1 rfl) ?_
    refine lv_icmp_le (tgt := 19) hx hb dX1_checkBound_6 (by decide) (fun c_2 => ?_) (fun c_2 => ?_)
    · exact z_vret hx hb hr hlocks hw (Nat.le_of_ble_eq_true rfl) (Nat.le_of_ble_eq_true rfl) dX1_checkBound_19 ⟨rfl, rfl, rfl, ⟨c_1, c_2⟩⟩
    · exact z_throw (ik := 160) (is := 225) (ic := 164) (E := "java/lang/IllegalArgumentException") (text := "it is out of range") hx hb hl0 hown hts hlocks (hml.trans hl.1.symm) htab (by decide) (by decide +kernel) hk_X1_checkBound_160 hj_X1_checkBound_160 hg_X1_checkBound_164 zt_ng_164 zt_ot_164 (by decide) hw hX dX1_checkBound_9 dX1_checkBound_12 dX1_checkBound_13 dX1_checkBound_15 dX1_checkBound_18 (Nat.le_of_ble_eq_true rfl) (Nat.le_of_ble_eq_true rfl) (Nat.le_of_ble_eq_true rfl) (Nat.le_of_ble_eq_true rfl) (Nat.le_of_ble_eq_true rfl) (Nat.le_of_ble_eq_true rfl) ⟨rfl, rfl, rfl, (fun h => c_2 h.2)⟩

theorem hk_X1_checkLength_160 : Cond.classLink RX1 160 "java/lang/IllegalArgumentException" ∈ wsX1_checkLength := by decide +kernel
theorem hj_X1_checkLength_160 : Cond.initialized "java/lang/IllegalArgumentException" ∈ wsX1_checkLength := by decide +kernel
theorem hg_X1_checkLength_164 : ∀ w ∈ (vx_atS RX1 164 "java/lang/IllegalArgumentException" zNm).filter goodWord, w ∈ wsX1_checkLength := by decide +kernel
set_option maxRecDepth 100000 in
set_option maxHeartbeats 4000000 in
theorem c_X1_checkLength (l : Launch) (hl0 : l.stackTraces = false) (g : zG) (L : List Nat) (f : Nat → va_E) (p0 : Int32) : zC l yX1_checkLength wsX1_checkLength { frames := 6, cells := 1, slots := 6, locals := 82 } 1 6 g [.int p0] L f (fun r L1 f1 => none = r ∧ L = L1 ∧ f = f1 ∧ (¬ p0 < 0 ∧ p0 ≤ 64)) (fun E L1 f1 => E = "java/lang/IllegalArgumentException" ∧ L = L1 ∧ f = f1 ∧ ¬ (¬ p0 < 0 ∧ p0 ≤ 64)) := by
  refine z_ofW (cc := cX1_checkLength) (maxL := 1) (ret := none) (by decide) rfl (Nat.le_of_ble_eq_true rfl) ?_
  intro p e s m args below meth c ls A hx hb hr hts hown hlocks hml htab hin hw hX hl
  have hl : lv_has ls 1 [(0, .int p0)] := hl
  have hown : s.vm.findClass RX1 = some m.cls := hown
  refine lv_iload_n hx hb dX1_checkLength_0 rfl (lv_at hl 0 rfl) ?_
  refine lv_if_lt (tgt := 10) hx hb dX1_checkLength_1 (by decide) (fun c_1 => ?_) (fun c_1 => ?_)
  · exact z_throw (ik := 160) (is := 227) (ic := 164) (E := "java/lang/IllegalArgumentException") (text := "the length is out of range") hx hb hl0 hown hts hlocks (hml.trans hl.1.symm) htab (by decide) (by decide +kernel) hk_X1_checkLength_160 hj_X1_checkLength_160 hg_X1_checkLength_164 zt_ng_164 zt_ot_164 (by decide) hw hX dX1_checkLength_10 dX1_checkLength_13 dX1_checkLength_14 dX1_checkLength_16 dX1_checkLength_19 (Nat.le_of_ble_eq_true rfl) (Nat.le_of_ble_eq_true rfl) (Nat.le_of_ble_eq_true rfl) (Nat.le_of_ble_eq_true rfl) (Nat.le_of_ble_eq_true rfl) (Nat.le_of_ble_eq_true rfl) ⟨rfl, rfl, rfl, (fun h => h.1 c_1)⟩
  · refine lv_iload_n hx hb dX1_checkLength_4 rfl (lv_at hl 0 rfl) ?_
    refine lv_bipush (v := 64) hx hb dX1_checkLength_5 (by decide) ?_
    refine lv_icmp_le (tgt := 20) hx hb dX1_checkLength_7 (by decide) (fun c_2 => ?_) (fun c_2 => ?_)
    · exact z_vret hx hb hr hlocks hw (Nat.le_of_ble_eq_true rfl) (Nat.le_of_ble_eq_true rfl) dX1_checkLength_20 ⟨rfl, rfl, rfl, ⟨c_1, c_2⟩⟩
    · exact z_throw (ik := 160) (is := 227) (ic := 164) (E := "java/lang/IllegalArgumentException") (text := "the length is out of range") hx hb hl0 hown hts hlocks (hml.trans hl.1.symm) htab (by decide) (by decide +kernel) hk_X1_checkLength_160 hj_X1_checkLength_160 hg_X1_checkLength_164 zt_ng_164 zt_ot_164 (by decide) hw hX dX1_checkLength_10 dX1_checkLength_13 dX1_checkLength_14 dX1_checkLength_16 dX1_checkLength_19 (Nat.le_of_ble_eq_true rfl) (Nat.le_of_ble_eq_true rfl) (Nat.le_of_ble_eq_true rfl) (Nat.le_of_ble_eq_true rfl) (Nat.le_of_ble_eq_true rfl) (Nat.le_of_ble_eq_true rfl) ⟨rfl, rfl, rfl, (fun h => c_2 h.2)⟩

theorem hk_X1_checkKind_160 : Cond.classLink RX1 160 "java/lang/IllegalArgumentException" ∈ wsX1_checkKind := by decide +kernel
theorem hj_X1_checkKind_160 : Cond.initialized "java/lang/IllegalArgumentException" ∈ wsX1_checkKind := by decide +kernel
theorem hg_X1_checkKind_164 : ∀ w ∈ (vx_atS RX1 164 "java/lang/IllegalArgumentException" zNm).filter goodWord, w ∈ wsX1_checkKind := by decide +kernel
set_option maxRecDepth 100000 in
set_option maxHeartbeats 4000000 in
theorem c_X1_checkKind (l : Launch) (hl0 : l.stackTraces = false) (g : zG) (L : List Nat) (f : Nat → va_E) (p0 : Int32) : zC l yX1_checkKind wsX1_checkKind { frames := 6, cells := 1, slots := 6, locals := 82 } 1 6 g [.int p0] L f (fun r L1 f1 => none = r ∧ L = L1 ∧ f = f1 ∧ (zKind p0)) (fun E L1 f1 => E = "java/lang/IllegalArgumentException" ∧ L = L1 ∧ f = f1 ∧ ¬ (zKind p0)) := by
  refine z_ofW (cc := cX1_checkKind) (maxL := 1) (ret := none) (by decide) rfl (Nat.le_of_ble_eq_true rfl) ?_
  intro p e s m args below meth c ls A hx hb hr hts hown hlocks hml htab hin hw hX hl
  have hl : lv_has ls 1 [(0, .int p0)] := hl
  have hown : s.vm.findClass RX1 = some m.cls := hown
  refine lv_iload_n hx hb dX1_checkKind_0 rfl (lv_at hl 0 rfl) ?_
  refine lv_bipush (v := 105) hx hb dX1_checkKind_1 (by decide) ?_
  refine lv_icmp_eq (tgt := 34) hx hb dX1_checkKind_3 (by decide) (fun c_1 => ?_) (fun c_1 => ?_)
  · exact z_vret hx hb hr hlocks hw (Nat.le_of_ble_eq_true rfl) (Nat.le_of_ble_eq_true rfl) dX1_checkKind_34 ⟨rfl, rfl, rfl, (by unfold zKind; first | exact Or.inl (by assumption) | exact Or.inr (Or.inl (by assumption)) | exact Or.inr (Or.inr (Or.inl (by assumption))) | exact Or.inr (Or.inr (Or.inr (by assumption))))⟩
  · refine lv_iload_n hx hb dX1_checkKind_6 rfl (lv_at hl 0 rfl) ?_
    refine lv_bipush (v := 108) hx hb dX1_checkKind_7 (by decide) ?_
    refine lv_icmp_eq (tgt := 34) hx hb dX1_checkKind_9 (by decide) (fun c_2 => ?_) (fun c_2 => ?_)
    · exact z_vret hx hb hr hlocks hw (Nat.le_of_ble_eq_true rfl) (Nat.le_of_ble_eq_true rfl) dX1_checkKind_34 ⟨rfl, rfl, rfl, (by unfold zKind; first | exact Or.inl (by assumption) | exact Or.inr (Or.inl (by assumption)) | exact Or.inr (Or.inr (Or.inl (by assumption))) | exact Or.inr (Or.inr (Or.inr (by assumption))))⟩
    · refine lv_iload_n hx hb dX1_checkKind_12 rfl (lv_at hl 0 rfl) ?_
      refine lv_bipush (v := 99) hx hb dX1_checkKind_13 (by decide) ?_
      refine lv_icmp_eq (tgt := 34) hx hb dX1_checkKind_15 (by decide) (fun c_3 => ?_) (fun c_3 => ?_)
      · exact z_vret hx hb hr hlocks hw (Nat.le_of_ble_eq_true rfl) (Nat.le_of_ble_eq_true rfl) dX1_checkKind_34 ⟨rfl, rfl, rfl, (by unfold zKind; first | exact Or.inl (by assumption) | exact Or.inr (Or.inl (by assumption)) | exact Or.inr (Or.inr (Or.inl (by assumption))) | exact Or.inr (Or.inr (Or.inr (by assumption))))⟩
      · refine lv_iload_n hx hb dX1_checkKind_18 rfl (lv_at hl 0 rfl) ?_
        refine lv_bipush (v := 115) hx hb dX1_checkKind_19 (by decide) ?_
        refine lv_icmp_eq (tgt := 34) hx hb dX1_checkKind_21 (by decide) (fun c_4 => ?_) (fun c_4 => ?_)
        · exact z_vret hx hb hr hlocks hw (Nat.le_of_ble_eq_true rfl) (Nat.le_of_ble_eq_true rfl) dX1_checkKind_34 ⟨rfl, rfl, rfl, (by unfold zKind; first | exact Or.inl (by assumption) | exact Or.inr (Or.inl (by assumption)) | exact Or.inr (Or.inr (Or.inl (by assumption))) | exact Or.inr (Or.inr (Or.inr (by assumption))))⟩
        · exact z_throw (ik := 160) (is := 229) (ic := 164) (E := "java/lang/IllegalArgumentException") (text := "there is no such kind") hx hb hl0 hown hts hlocks (hml.trans hl.1.symm) htab (by decide) (by decide +kernel) hk_X1_checkKind_160 hj_X1_checkKind_160 hg_X1_checkKind_164 zt_ng_164 zt_ot_164 (by decide) hw hX dX1_checkKind_24 dX1_checkKind_27 dX1_checkKind_28 dX1_checkKind_30 dX1_checkKind_33 (Nat.le_of_ble_eq_true rfl) (Nat.le_of_ble_eq_true rfl) (Nat.le_of_ble_eq_true rfl) (Nat.le_of_ble_eq_true rfl) (Nat.le_of_ble_eq_true rfl) (Nat.le_of_ble_eq_true rfl) ⟨rfl, rfl, rfl, (by unfold zKind; rintro (h | h | h | h) <;> contradiction)⟩

theorem hk_X1_checkMany_160 : Cond.classLink RX1 160 "java/lang/IllegalArgumentException" ∈ wsX1_checkMany := by decide +kernel
theorem hj_X1_checkMany_160 : Cond.initialized "java/lang/IllegalArgumentException" ∈ wsX1_checkMany := by decide +kernel
theorem hg_X1_checkMany_164 : ∀ w ∈ (vx_atS RX1 164 "java/lang/IllegalArgumentException" zNm).filter goodWord, w ∈ wsX1_checkMany := by decide +kernel
set_option maxRecDepth 100000 in
set_option maxHeartbeats 4000000 in
theorem c_X1_checkMany (l : Launch) (hl0 : l.stackTraces = false) (g : zG) (L : List Nat) (f : Nat → va_E) (p0 : Int32) : zC l yX1_checkMany wsX1_checkMany { frames := 6, cells := 1, slots := 6, locals := 82 } 1 6 g [.int p0] L f (fun r L1 f1 => none = r ∧ L = L1 ∧ f = f1 ∧ (0 ≤ p0)) (fun E L1 f1 => E = "java/lang/IllegalArgumentException" ∧ L = L1 ∧ f = f1 ∧ ¬ (0 ≤ p0)) := by
  refine z_ofW (cc := cX1_checkMany) (maxL := 1) (ret := none) (by decide) rfl (Nat.le_of_ble_eq_true rfl) ?_
  intro p e s m args below meth c ls A hx hb hr hts hown hlocks hml htab hin hw hX hl
  have hl : lv_has ls 1 [(0, .int p0)] := hl
  have hown : s.vm.findClass RX1 = some m.cls := hown
  refine lv_iload_n hx hb dX1_checkMany_0 rfl (lv_at hl 0 rfl) ?_
  refine lv_if_ge (tgt := 14) hx hb dX1_checkMany_1 (by decide) (fun c_1 => ?_) (fun c_1 => ?_)
  · exact z_vret hx hb hr hlocks hw (Nat.le_of_ble_eq_true rfl) (Nat.le_of_ble_eq_true rfl) dX1_checkMany_14 ⟨rfl, rfl, rfl, c_1⟩
  · exact z_throw (ik := 160) (is := 231) (ic := 164) (E := "java/lang/IllegalArgumentException") (text := "it is fewer than 0") hx hb hl0 hown hts hlocks (hml.trans hl.1.symm) htab (by decide) (by decide +kernel) hk_X1_checkMany_160 hj_X1_checkMany_160 hg_X1_checkMany_164 zt_ng_164 zt_ot_164 (by decide) hw hX dX1_checkMany_4 dX1_checkMany_7 dX1_checkMany_8 dX1_checkMany_10 dX1_checkMany_13 (Nat.le_of_ble_eq_true rfl) (Nat.le_of_ble_eq_true rfl) (Nat.le_of_ble_eq_true rfl) (Nat.le_of_ble_eq_true rfl) (Nat.le_of_ble_eq_true rfl) (Nat.le_of_ble_eq_true rfl) ⟨rfl, rfl, rfl, c_1⟩

theorem hi_X1_checkWritable_X0 : ∀ w ∈ wsX00, w ∈ wsX1_checkWritable := by decide +kernel
theorem hf_X1_checkWritable_85 : Cond.fieldLink RX1 85 (TX0 1).1 (TX0 1).2.1 (TX0 1).2.2.1 ∈ wsX1_checkWritable := by decide +kernel
theorem hk_X1_checkWritable_233 : Cond.classLink RX1 233 "java/lang/UnsupportedOperationException" ∈ wsX1_checkWritable := by decide +kernel
theorem hj_X1_checkWritable_233 : Cond.initialized "java/lang/UnsupportedOperationException" ∈ wsX1_checkWritable := by decide +kernel
theorem hg_X1_checkWritable_237 : ∀ w ∈ (vx_atS RX1 237 "java/lang/UnsupportedOperationException" zNm).filter goodWord, w ∈ wsX1_checkWritable := by decide +kernel
set_option maxRecDepth 100000 in
set_option maxHeartbeats 4000000 in
theorem c_X1_checkWritable (l : Launch) (hl0 : l.stackTraces = false) (g : zG) (L : List Nat) (f : Nat → va_E) (a : Nat) (x : ZW)  (hc : zc L f a (.inr (0, zwf x))) : zC l yX1_checkWritable wsX1_checkWritable { frames := 6, cells := 1, slots := 6, locals := 82 } 1 6 g [.ref a] L f (fun r L1 f1 => none = r ∧ L = L1 ∧ f = f1 ∧ (zwo x = 0)) (fun E L1 f1 => E = "java/lang/UnsupportedOperationException" ∧ L = L1 ∧ f = f1 ∧ ¬ (zwo x = 0)) := by
  refine z_ofW (cc := cX1_checkWritable) (maxL := 1) (ret := none) (by decide) rfl (Nat.le_of_ble_eq_true rfl) ?_
  intro p e s m args below meth c ls A hx hb hr hts hown hlocks hml htab hin hw hX hl
  have hl : lv_has ls 1 [(0, .ref a)] := hl
  have hown : s.vm.findClass RX1 = some m.cls := hown
  refine lv_aload_n hx hb dX1_checkWritable_0 rfl (lv_at hl 0 rfl) ?_
  refine zr_get (C := RX0) (T := TX0) (N := 8) (v := .int (zwo x)) hx hb hts hi_X1_checkWritable_X0 hown hw hc rfl 1 (by decide) hf_X1_checkWritable_85 rfl dX1_checkWritable_1 ?_
  refine lv_if_eq (tgt := 17) hx hb dX1_checkWritable_4 (by decide) (fun c_1 => ?_) (fun c_1 => ?_)
  · exact z_vret hx hb hr hlocks hw (Nat.le_of_ble_eq_true rfl) (Nat.le_of_ble_eq_true rfl) dX1_checkWritable_17 ⟨rfl, rfl, rfl, c_1⟩
  · exact z_throw (ik := 233) (is := 235) (ic := 237) (E := "java/lang/UnsupportedOperationException") (text := "the window only reads") hx hb hl0 hown hts hlocks (hml.trans hl.1.symm) htab (by decide) (by decide +kernel) hk_X1_checkWritable_233 hj_X1_checkWritable_233 hg_X1_checkWritable_237 zt_ng_237 zt_ot_237 (by decide) hw hX dX1_checkWritable_7 dX1_checkWritable_10 dX1_checkWritable_11 dX1_checkWritable_13 dX1_checkWritable_16 (Nat.le_of_ble_eq_true rfl) (Nat.le_of_ble_eq_true rfl) (Nat.le_of_ble_eq_true rfl) (Nat.le_of_ble_eq_true rfl) (Nat.le_of_ble_eq_true rfl) (Nat.le_of_ble_eq_true rfl) ⟨rfl, rfl, rfl, c_1⟩

theorem hk_X1_checkEnoughToGet_168 : Cond.classLink RX1 168 "java/util/NoSuchElementException" ∈ wsX1_checkEnoughToGet := by decide +kernel
theorem hj_X1_checkEnoughToGet_168 : Cond.initialized "java/util/NoSuchElementException" ∈ wsX1_checkEnoughToGet := by decide +kernel
theorem hg_X1_checkEnoughToGet_172 : ∀ w ∈ (zx_at RX1 172 "java/util/NoSuchElementException" zNm).filter goodWord, w ∈ wsX1_checkEnoughToGet := by decide +kernel
set_option maxRecDepth 100000 in
set_option maxHeartbeats 4000000 in
theorem c_X1_checkEnoughToGet (l : Launch) (hl0 : l.stackTraces = false) (g : zG) (L : List Nat) (f : Nat → va_E) (a : Nat) (x : ZW) (p0 : Int32) (hc : zc L f a (.inr (0, zwf x))) : zC l yX1_checkEnoughToGet wsX1_checkEnoughToGet { frames := 6, cells := 1, slots := 6, locals := 82 } 1 6 g [.ref a, .int p0] L f (fun r L1 f1 => none = r ∧ L = L1 ∧ f = f1 ∧ (p0 ≤ zwe x - zwp x)) (fun E L1 f1 => E = "java/util/NoSuchElementException" ∧ L = L1 ∧ f = f1 ∧ ¬ (p0 ≤ zwe x - zwp x)) := by
  refine z_ofW (cc := cX1_checkEnoughToGet) (maxL := 2) (ret := none) (by decide) rfl (Nat.le_of_ble_eq_true rfl) ?_
  intro p e s m args below meth c ls A hx hb hr hts hown hlocks hml htab hin hw hX hl
  have hl : lv_has ls 2 [(0, .ref a), (1, .int p0)] := hl
  have hown : s.vm.findClass RX1 = some m.cls := hown
  refine lv_iload_n hx hb dX1_checkEnoughToGet_0 rfl (lv_at hl 1 rfl) ?_
  refine lv_aload_n hx hb dX1_checkEnoughToGet_1 rfl (lv_at hl 0 rfl) ?_
  refine z_callV (As := []) (rest := [.int p0]) ⟨hx, hb, hml, hown, hts⟩ hw hX hc rfl (c_X0_rest l g L f a ((zwk x), (zwo x), (zws x), (zwr x), (zwc x), (zwp x), (zwe x), (zwm x)) hc) (cwV 0 hts gX1_checkEnoughToGet_X0_rest rfl rfl rfl (by decide +kernel) ⟨(Nat.le_of_ble_eq_true rfl), (Nat.le_of_ble_eq_true rfl)⟩) rfl hl.1 rfl (Nat.le_of_ble_eq_true rfl) dX1_checkEnoughToGet_2 ⟨(Nat.le_of_ble_eq_true rfl), (Nat.le_of_ble_eq_true rfl)⟩ (fun _ _ _ _ _ _ _ hp => False.elim hp) (fun r9 L9 f9 H locs hp hw => ?_)
  obtain ⟨rfl, rfl, rfl⟩ := hp
  refine W.eq (g2 := F0 m 5 ls [.int ((zwe x) - (zwp x)), .int p0]) rfl ?_
  refine lv_icmp_le (tgt := 18) hx hb dX1_checkEnoughToGet_5 (by decide) (fun c_1 => ?_) (fun c_1 => ?_)
  · exact z_vret hx hb hr hlocks hw (Nat.le_of_ble_eq_true rfl) (Nat.le_of_ble_eq_true rfl) dX1_checkEnoughToGet_18 ⟨rfl, rfl, rfl, c_1⟩
  · exact z_throwN (ik := 168) (is := 240) (ic := 172) (E := "java/util/NoSuchElementException") (text := "not so many are left") hx hb hl0 hown hts hlocks (hml.trans hl.1.symm) htab (by decide) (by decide +kernel) hk_X1_checkEnoughToGet_168 hj_X1_checkEnoughToGet_168 hg_X1_checkEnoughToGet_172 zt_ng_172 zt_ot_172 rfl hw hX dX1_checkEnoughToGet_8 dX1_checkEnoughToGet_11 dX1_checkEnoughToGet_12 dX1_checkEnoughToGet_14 dX1_checkEnoughToGet_17 (Nat.le_of_ble_eq_true rfl) (Nat.le_of_ble_eq_true rfl) (Nat.le_of_ble_eq_true rfl) (Nat.le_of_ble_eq_true rfl) (Nat.le_of_ble_eq_true rfl) (Nat.le_of_ble_eq_true rfl) ⟨rfl, rfl, rfl, c_1⟩

theorem hk_X1_checkEnoughToPut_108 : Cond.classLink RX1 108 "java/lang/IllegalStateException" ∈ wsX1_checkEnoughToPut := by decide +kernel
theorem hj_X1_checkEnoughToPut_108 : Cond.initialized "java/lang/IllegalStateException" ∈ wsX1_checkEnoughToPut := by decide +kernel
theorem hg_X1_checkEnoughToPut_112 : ∀ w ∈ (vx_atS RX1 112 "java/lang/IllegalStateException" zNm).filter goodWord, w ∈ wsX1_checkEnoughToPut := by decide +kernel
set_option maxRecDepth 100000 in
set_option maxHeartbeats 4000000 in
theorem c_X1_checkEnoughToPut (l : Launch) (hl0 : l.stackTraces = false) (g : zG) (L : List Nat) (f : Nat → va_E) (a : Nat) (x : ZW) (p0 : Int32) (hc : zc L f a (.inr (0, zwf x))) : zC l yX1_checkEnoughToPut wsX1_checkEnoughToPut { frames := 6, cells := 1, slots := 6, locals := 82 } 1 6 g [.ref a, .int p0] L f (fun r L1 f1 => none = r ∧ L = L1 ∧ f = f1 ∧ (p0 ≤ zwe x - zwp x)) (fun E L1 f1 => E = "java/lang/IllegalStateException" ∧ L = L1 ∧ f = f1 ∧ ¬ (p0 ≤ zwe x - zwp x)) := by
  refine z_ofW (cc := cX1_checkEnoughToPut) (maxL := 2) (ret := none) (by decide) rfl (Nat.le_of_ble_eq_true rfl) ?_
  intro p e s m args below meth c ls A hx hb hr hts hown hlocks hml htab hin hw hX hl
  have hl : lv_has ls 2 [(0, .ref a), (1, .int p0)] := hl
  have hown : s.vm.findClass RX1 = some m.cls := hown
  refine lv_iload_n hx hb dX1_checkEnoughToPut_0 rfl (lv_at hl 1 rfl) ?_
  refine lv_aload_n hx hb dX1_checkEnoughToPut_1 rfl (lv_at hl 0 rfl) ?_
  refine z_callV (As := []) (rest := [.int p0]) ⟨hx, hb, hml, hown, hts⟩ hw hX hc rfl (c_X0_rest l g L f a ((zwk x), (zwo x), (zws x), (zwr x), (zwc x), (zwp x), (zwe x), (zwm x)) hc) (cwV 0 hts gX1_checkEnoughToPut_X0_rest rfl rfl rfl (by decide +kernel) ⟨(Nat.le_of_ble_eq_true rfl), (Nat.le_of_ble_eq_true rfl)⟩) rfl hl.1 rfl (Nat.le_of_ble_eq_true rfl) dX1_checkEnoughToPut_2 ⟨(Nat.le_of_ble_eq_true rfl), (Nat.le_of_ble_eq_true rfl)⟩ (fun _ _ _ _ _ _ _ hp => False.elim hp) (fun r9 L9 f9 H locs hp hw => ?_)
  obtain ⟨rfl, rfl, rfl⟩ := hp
  refine W.eq (g2 := F0 m 5 ls [.int ((zwe x) - (zwp x)), .int p0]) rfl ?_
  refine lv_icmp_le (tgt := 18) hx hb dX1_checkEnoughToPut_5 (by decide) (fun c_1 => ?_) (fun c_1 => ?_)
  · exact z_vret hx hb hr hlocks hw (Nat.le_of_ble_eq_true rfl) (Nat.le_of_ble_eq_true rfl) dX1_checkEnoughToPut_18 ⟨rfl, rfl, rfl, c_1⟩
  · exact z_throw (ik := 108) (is := 240) (ic := 112) (E := "java/lang/IllegalStateException") (text := "not so many are left") hx hb hl0 hown hts hlocks (hml.trans hl.1.symm) htab (by decide) (by decide +kernel) hk_X1_checkEnoughToPut_108 hj_X1_checkEnoughToPut_108 hg_X1_checkEnoughToPut_112 zt_ng_112 zt_ot_112 (by decide) hw hX dX1_checkEnoughToPut_8 dX1_checkEnoughToPut_11 dX1_checkEnoughToPut_12 dX1_checkEnoughToPut_14 dX1_checkEnoughToPut_17 (Nat.le_of_ble_eq_true rfl) (Nat.le_of_ble_eq_true rfl) (Nat.le_of_ble_eq_true rfl) (Nat.le_of_ble_eq_true rfl) (Nat.le_of_ble_eq_true rfl) (Nat.le_of_ble_eq_true rfl) ⟨rfl, rfl, rfl, c_1⟩

theorem hi_X1_slotOf_X1 : ∀ w ∈ wsX10, w ∈ wsX1_slotOf := by decide +kernel
theorem hf_X1_slotOf_16 : Cond.fieldLink RX1 16 (TX1 0).1 (TX1 0).2.1 (TX1 0).2.2.1 ∈ wsX1_slotOf := by decide +kernel
set_option maxRecDepth 100000 in
set_option maxHeartbeats 4000000 in
theorem c_X1_slotOf (l : Launch) (hl0 : l.stackTraces = false) (g : zG) (L : List Nat) (f : Nat → va_E) (ah : Nat → Nat) (G Rw : Nat → Option Nat) (rs : Nat → Nat) (wn : Nat → ZW) (p0 : Int32) (hE : zHE L f ah 13 (zCe g ah G Rw wn)) (hG : ∀ i, i < 8 → G i = some (ah (i + 3))) (hRw : ∀ i, i < 2 → Rw i = some (rs i)) : zC l yX1_slotOf wsX1_slotOf { frames := 7, cells := 1, slots := 6, locals := 103 } 1 6 g [.ref (ah 0), .int p0] L f (fun r L1 f1 => (vp_in p0 8) ∧ some (.ref (ah ((Int32.toNatClampNeg p0) + 3))) = r ∧ L = L1 ∧ f = f1) (fun E L1 f1 => ¬ (vp_in p0 8) ∧ E = "java/lang/IndexOutOfBoundsException" ∧ L = L1 ∧ f = f1) := by
  refine z_ofW (cc := cX1_slotOf) (maxL := 2) (ret := (some (.object "Windowhouse$Window"))) (by decide) rfl (Nat.le_of_ble_eq_true rfl) ?_
  intro p e s m args below meth c ls A hx hb hr hts hown hlocks hml htab hin hw hX hl
  have hl : lv_has ls 2 [(0, .ref (ah 0)), (1, .int p0)] := hl
  have hown : s.vm.findClass RX1 = some m.cls := hown
  refine lv_iload_n hx hb dX1_slotOf_0 rfl (lv_at hl 1 rfl) ?_
  refine lv_bipush (v := 8) hx hb dX1_slotOf_1 (by decide) ?_
  refine z_callS (As := [.int p0, .int 8]) (rest := []) ⟨hx, hb, hml, hown, hts⟩ hw hX (c_X1_checkIndex l hl0 g L f p0 8) (va_cwS 2 hts gX1_slotOf_X1_checkIndex rfl rfl rfl (by decide +kernel) ⟨(Nat.le_of_ble_eq_true rfl), (Nat.le_of_ble_eq_true rfl)⟩) rfl hl.1 rfl (Nat.le_of_ble_eq_true rfl) dX1_slotOf_3 ⟨(Nat.le_of_ble_eq_true rfl), (Nat.le_of_ble_eq_true rfl)⟩ (fun E ce q9 L9 f9 H locs hp hw hce hcv hcl => ?_) (fun r9 L9 f9 H locs hp hw => ?_)
  · obtain ⟨rfl, rfl, rfl, ck_1⟩ := hp
    exact z_out htab hlocks hw hce hcv hcl (Nat.le_of_ble_eq_true rfl) (Nat.le_of_ble_eq_true rfl) ⟨(fun q => ck_1 (zvo (h := 8) rfl q)), rfl, rfl, rfl⟩
  obtain ⟨rfl, rfl, rfl, ck_1⟩ := hp
  refine W.eq (g2 := F0 m 6 ls []) rfl ?_
  refine lv_aload_n hx hb dX1_slotOf_6 rfl (lv_at hl 0 rfl) ?_
  refine zr_get (C := RX1) (T := TX1) (N := 4) (v := .ref (ah 1)) hx hb hts hi_X1_slotOf_X1 hown hw (hE.1 0 (by decide)) rfl 0 (by decide) hf_X1_slotOf_16 rfl dX1_slotOf_7 ?_
  refine lv_iload_n hx hb dX1_slotOf_10 rfl (lv_at hl 1 rfl) ?_
  refine zr_aald (v := ah ((Int32.toNatClampNeg p0) + 3)) hx hb hw (hE.1 1 (by decide)) (zvi (h := 8) rfl ck_1.1 ck_1.2) (hG _ (vp_lt (zvi (h := 8) rfl ck_1.1 ck_1.2))) dX1_slotOf_11 ?_
  exact z_aret hx hb hr hlocks (Or.inl ⟨_, rfl⟩) hw (Nat.le_of_ble_eq_true rfl) (Nat.le_of_ble_eq_true rfl) dX1_slotOf_12 ⟨zvi (h := 8) rfl ck_1.1 ck_1.2, rfl, rfl, rfl⟩

theorem hi_X1_rowOf_X1 : ∀ w ∈ wsX10, w ∈ wsX1_rowOf := by decide +kernel
theorem hf_X1_rowOf_11 : Cond.fieldLink RX1 11 (TX1 1).1 (TX1 1).2.1 (TX1 1).2.2.1 ∈ wsX1_rowOf := by decide +kernel
set_option maxRecDepth 100000 in
set_option maxHeartbeats 4000000 in
theorem c_X1_rowOf (l : Launch) (hl0 : l.stackTraces = false) (g : zG) (L : List Nat) (f : Nat → va_E) (ah : Nat → Nat) (G Rw : Nat → Option Nat) (rs : Nat → Nat) (wn : Nat → ZW) (p0 : Int32) (hE : zHE L f ah 13 (zCe g ah G Rw wn)) (hG : ∀ i, i < 8 → G i = some (ah (i + 3))) (hRw : ∀ i, i < 2 → Rw i = some (rs i)) : zC l yX1_rowOf wsX1_rowOf { frames := 7, cells := 1, slots := 6, locals := 103 } 1 6 g [.ref (ah 0), .int p0] L f (fun r L1 f1 => (vp_in p0 2) ∧ some (.ref (rs (Int32.toNatClampNeg p0))) = r ∧ L = L1 ∧ f = f1) (fun E L1 f1 => ¬ (vp_in p0 2) ∧ E = "java/lang/IndexOutOfBoundsException" ∧ L = L1 ∧ f = f1) := by
  refine z_ofW (cc := cX1_rowOf) (maxL := 2) (ret := (some (.array .long))) (by decide) rfl (Nat.le_of_ble_eq_true rfl) ?_
  intro p e s m args below meth c ls A hx hb hr hts hown hlocks hml htab hin hw hX hl
  have hl : lv_has ls 2 [(0, .ref (ah 0)), (1, .int p0)] := hl
  have hown : s.vm.findClass RX1 = some m.cls := hown
  refine lv_iload_n hx hb dX1_rowOf_0 rfl (lv_at hl 1 rfl) ?_
  refine lv_iconst (v := 2) hx hb dX1_rowOf_1 (by decide) ?_
  refine z_callS (As := [.int p0, .int 2]) (rest := []) ⟨hx, hb, hml, hown, hts⟩ hw hX (c_X1_checkIndex l hl0 g L f p0 2) (va_cwS 2 hts gX1_rowOf_X1_checkIndex rfl rfl rfl (by decide +kernel) ⟨(Nat.le_of_ble_eq_true rfl), (Nat.le_of_ble_eq_true rfl)⟩) rfl hl.1 rfl (Nat.le_of_ble_eq_true rfl) dX1_rowOf_2 ⟨(Nat.le_of_ble_eq_true rfl), (Nat.le_of_ble_eq_true rfl)⟩ (fun E ce q9 L9 f9 H locs hp hw hce hcv hcl => ?_) (fun r9 L9 f9 H locs hp hw => ?_)
  · obtain ⟨rfl, rfl, rfl, ck_1⟩ := hp
    exact z_out htab hlocks hw hce hcv hcl (Nat.le_of_ble_eq_true rfl) (Nat.le_of_ble_eq_true rfl) ⟨(fun q => ck_1 (zvo (h := 2) rfl q)), rfl, rfl, rfl⟩
  obtain ⟨rfl, rfl, rfl, ck_1⟩ := hp
  refine W.eq (g2 := F0 m 5 ls []) rfl ?_
  refine lv_aload_n hx hb dX1_rowOf_5 rfl (lv_at hl 0 rfl) ?_
  refine zr_get (C := RX1) (T := TX1) (N := 4) (v := .ref (ah 2)) hx hb hts hi_X1_rowOf_X1 hown hw (hE.1 0 (by decide)) rfl 1 (by decide) hf_X1_rowOf_11 rfl dX1_rowOf_6 ?_
  refine lv_iload_n hx hb dX1_rowOf_9 rfl (lv_at hl 1 rfl) ?_
  refine zr_gald (v := rs (Int32.toNatClampNeg p0)) hx hb hw (hE.1 2 (by decide)) (zvi (h := 2) rfl ck_1.1 ck_1.2) (hRw _ (vp_lt (zvi (h := 2) rfl ck_1.1 ck_1.2))) dX1_rowOf_10 ?_
  exact z_aret hx hb hr hlocks (Or.inr ⟨_, rfl⟩) hw (Nat.le_of_ble_eq_true rfl) (Nat.le_of_ble_eq_true rfl) dX1_rowOf_11 ⟨zvi (h := 2) rfl ck_1.1 ck_1.2, rfl, rfl, rfl⟩

theorem hk_X1_windowOf_216 : Cond.classLink RX1 216 "java/lang/IndexOutOfBoundsException" ∈ wsX1_windowOf := by decide +kernel
theorem hj_X1_windowOf_216 : Cond.initialized "java/lang/IndexOutOfBoundsException" ∈ wsX1_windowOf := by decide +kernel
theorem hg_X1_windowOf_220 : ∀ w ∈ (vx_atS RX1 220 "java/lang/IndexOutOfBoundsException" zNm).filter goodWord, w ∈ wsX1_windowOf := by decide +kernel
set_option maxRecDepth 100000 in
set_option maxHeartbeats 4000000 in
theorem c_X1_windowOf (l : Launch) (hl0 : l.stackTraces = false) (g : zG) (L : List Nat) (f : Nat → va_E) (ah : Nat → Nat) (G Rw : Nat → Option Nat) (rs : Nat → Nat) (wn : Nat → ZW) (p0 : Int32) (hE : zHE L f ah 13 (zCe g ah G Rw wn)) (hG : ∀ i, i < 8 → G i = some (ah (i + 3))) (hRw : ∀ i, i < 2 → Rw i = some (rs i)) : zC l yX1_windowOf wsX1_windowOf { frames := 8, cells := 2, slots := 12, locals := 124 } 2 12 g [.ref (ah 0), .int p0] L f (fun r L1 f1 => (vp_in p0 8 ∧ ¬ zwk (wn (Int32.toNatClampNeg p0)) = 45) ∧ some (.ref (ah ((Int32.toNatClampNeg p0) + 3))) = r ∧ L = L1 ∧ f = f1) (fun E L1 f1 => ¬ (vp_in p0 8 ∧ ¬ zwk (wn (Int32.toNatClampNeg p0)) = 45) ∧ E = "java/lang/IndexOutOfBoundsException" ∧ L = L1 ∧ f = f1) := by
  refine z_ofW (cc := cX1_windowOf) (maxL := 3) (ret := (some (.object "Windowhouse$Window"))) (by decide) rfl (Nat.le_of_ble_eq_true rfl) ?_
  intro p e s m args below meth c ls A hx hb hr hts hown hlocks hml htab hin hw hX hl
  have hl : lv_has ls 3 [(0, .ref (ah 0)), (1, .int p0)] := hl
  have hown : s.vm.findClass RX1 = some m.cls := hown
  refine lv_aload_n hx hb dX1_windowOf_0 rfl (lv_at hl 0 rfl) ?_
  refine lv_iload_n hx hb dX1_windowOf_1 rfl (lv_at hl 1 rfl) ?_
  refine z_callV (As := [.int p0]) (rest := []) ⟨hx, hb, hml, hown, hts⟩ hw hX (hE.1 0 (by decide)) rfl (c_X1_slotOf l hl0 g L f ah G Rw rs wn p0 hE hG hRw) (cwV 1 hts gX1_windowOf_X1_slotOf rfl rfl rfl (by decide +kernel) ⟨(Nat.le_of_ble_eq_true rfl), (Nat.le_of_ble_eq_true rfl)⟩) rfl hl.1 rfl (Nat.le_of_ble_eq_true rfl) dX1_windowOf_2 ⟨(Nat.le_of_ble_eq_true rfl), (Nat.le_of_ble_eq_true rfl)⟩ (fun E ce q9 L9 f9 H locs hp hw hce hcv hcl => ?_) (fun r9 L9 f9 H locs hp hw => ?_)
  · obtain ⟨ck_1, rfl, rfl, rfl⟩ := hp
    exact z_out htab hlocks hw hce hcv hcl (Nat.le_of_ble_eq_true rfl) (Nat.le_of_ble_eq_true rfl) ⟨(fun q => ck_1 q.1), rfl, rfl, rfl⟩
  obtain ⟨ck_1, rfl, rfl, rfl⟩ := hp
  refine W.eq (g2 := F0 m 5 ls [.ref (ah ((Int32.toNatClampNeg p0) + 3))]) rfl ?_
  have hc_2 : zc L f (ah ((Int32.toNatClampNeg p0) + 3)) (.inr (0, zwf (wn (Int32.toNatClampNeg p0)))) := hE.1 ((Int32.toNatClampNeg p0) + 3) (by have := vp_lt ck_1; omega)
  refine lv_astore_n (lv' := [(2, .ref (ah ((Int32.toNatClampNeg p0) + 3))), (0, .ref (ah 0)), (1, .int p0)]) hx hb dX1_windowOf_5 rfl hl (by decide) rfl (fun ls hl => ?_)
  refine lv_aload_n hx hb dX1_windowOf_6 rfl (lv_at hl 0 rfl) ?_
  refine z_callV (As := []) (rest := []) ⟨hx, hb, hml, hown, hts⟩ hw hX hc_2 rfl (c_X0_isThere l g L f (ah ((Int32.toNatClampNeg p0) + 3)) ((zwk (wn (Int32.toNatClampNeg p0))), (zwo (wn (Int32.toNatClampNeg p0))), (zws (wn (Int32.toNatClampNeg p0))), (zwr (wn (Int32.toNatClampNeg p0))), (zwc (wn (Int32.toNatClampNeg p0))), (zwp (wn (Int32.toNatClampNeg p0))), (zwe (wn (Int32.toNatClampNeg p0))), (zwm (wn (Int32.toNatClampNeg p0)))) hc_2) (cwV 0 hts gX1_windowOf_X0_isThere rfl rfl rfl (by decide +kernel) ⟨(Nat.le_of_ble_eq_true rfl), (Nat.le_of_ble_eq_true rfl)⟩) rfl hl.1 rfl (Nat.le_of_ble_eq_true rfl) dX1_windowOf_7 ⟨(Nat.le_of_ble_eq_true rfl), (Nat.le_of_ble_eq_true rfl)⟩ (fun _ _ _ _ _ _ _ hp => False.elim hp) (fun r9 L9 f9 H locs hp hw => ?_)
  obtain ⟨rfl, rfl, rfl⟩ := hp
  refine W.eq (g2 := F0 m 10 ls [.int (zb (decide (¬ (zwk (wn (Int32.toNatClampNeg p0))) = 45)))]) rfl ?_
  refine zr_bne hx hb dX1_windowOf_10 (tgt := 23) (by decide) (fun c_3 => ?_) (fun c_3 => ?_)
  · refine lv_aload_n hx hb dX1_windowOf_23 rfl (lv_at hl 0 rfl) ?_
    exact z_aret hx hb hr hlocks (Or.inl ⟨_, rfl⟩) hw (Nat.le_of_ble_eq_true rfl) (Nat.le_of_ble_eq_true rfl) dX1_windowOf_24 ⟨⟨ck_1, of_decide_eq_true c_3⟩, rfl, rfl, rfl⟩
  · exact z_throw (ik := 216) (is := 218) (ic := 220) (E := "java/lang/IndexOutOfBoundsException") (text := "there is no such window") hx hb hl0 hown hts hlocks (hml.trans hl.1.symm) htab (by decide) (by decide +kernel) hk_X1_windowOf_216 hj_X1_windowOf_216 hg_X1_windowOf_220 zt_ng_220 zt_ot_220 (by decide) hw hX dX1_windowOf_13 dX1_windowOf_16 dX1_windowOf_17 dX1_windowOf_19 dX1_windowOf_22 (Nat.le_of_ble_eq_true rfl) (Nat.le_of_ble_eq_true rfl) (Nat.le_of_ble_eq_true rfl) (Nat.le_of_ble_eq_true rfl) (Nat.le_of_ble_eq_true rfl) (Nat.le_of_ble_eq_true rfl) ⟨(fun q => c_3 (decide_eq_true q.2)), rfl, rfl, rfl⟩

theorem hi_X0_sumOver_X0 : ∀ w ∈ wsX00, w ∈ wsX0_sumOver := by decide +kernel
theorem hf_X0_sumOver_23 : Cond.fieldLink RX0 23 (TX0 6).1 (TX0 6).2.1 (TX0 6).2.2.1 ∈ wsX0_sumOver := by decide +kernel
set_option maxRecDepth 100000 in
set_option maxHeartbeats 4000000 in
theorem c_X0_sumOver (l : Launch) (g : zG) (L : List Nat) (f : Nat → va_E) (a : Nat) (x : ZW) (p0 : Int64) (p1 : Int32)  {n : Nat} {ct : Nat → Int64} (mm : Nat) (hc : zc L f a (.inr (0, zwf x))) (hs : zc L f (zws x) (.inl (g.2 1, n, .inr (.inl ct)))) (hm64 : mm ≤ 64) (hcmp : ∀ k, k ≤ mm → (zwe x ≤ p1 + nI k ↔ mm ≤ k)) (hbd : ∀ k, k < mm → vp_in (zwr x + (p1 + nI k)) n) : zC l yX0_sumOver wsX0_sumOver { frames := 1, cells := 0, slots := 0, locals := 23 } 0 0 g [.ref a, .long p0, .int p1] L f (fun r L1 f1 => some (.long (zSm (fun k => ct (Int32.toNatClampNeg (zwr x + (p1 + nI k)))) p0 mm)) = r ∧ L = L1 ∧ f = f1) zNo := by
  refine z_ofW (cc := cX0_sumOver) (maxL := 7) (ret := (some .long)) (by decide) rfl (Nat.le_of_ble_eq_true rfl) ?_
  intro p e s m args below meth c ls A hx hb hr hts hown hlocks hml htab hin hw hX hl
  have hl : lv_has ls 7 [(0, .ref a), (1, .long p0), (3, .int p1)] := hl
  have hown : s.vm.findClass RX0 = some m.cls := hown
  refine lv_lload_n hx hb dX0_sumOver_0 rfl (lv_at hl 1 rfl) ?_
  refine lv_lstore (lv' := [(4, .long p0), (0, .ref a), (1, .long p0), (3, .int p1)]) hx hb dX0_sumOver_1 hl (by decide) rfl (fun ls hl => ?_)
  refine lv_iload_n hx hb dX0_sumOver_3 rfl (lv_at hl 3 rfl) ?_
  refine lv_istore (lv' := [(6, .int p1), (4, .long p0), (0, .ref a), (1, .long p0), (3, .int p1)]) hx hb dX0_sumOver_4 hl (by decide) rfl (fun ls hl => ?_)
  have loop_6 : ∀ (n9 : Nat) (k : Nat) (H : Heap) (locs : List Loc) (ls : Array Slot), (k ≤ mm) → (mm + 1 ≤ k + n9) → zW g A s L f H locs → lv_has ls 7 [(0, .ref a), (1, .long p0), (3, .int p1), (4, .long (zSm (fun k => ct (Int32.toNatClampNeg (zwr x + (p1 + nI k)))) p0 k)), (6, .int (p1 + nI k))] → W p l e { frames := 1, cells := 0, slots := 0, locals := 23 } s m args below meth c H locs 0 0 (vx_MQ below (zQ g A (fun r L1 f1 => some (.long (zSm (fun k => ct (Int32.toNatClampNeg (zwr x + (p1 + nI k)))) p0 mm)) = r ∧ L = L1 ∧ f = f1)) (zXC g A zNo) args s 0 0 A) (F0 m 6 ls []) := by
    intro n9
    induction n9 with
    | zero => intro k H locs ls hk hn hw hl; exact absurd hn (by omega)
    | succ n9 ih_6 =>
      intro k H locs ls hk hn hw hl
      refine lv_iload hx hb dX0_sumOver_6 (lv_at hl 4 rfl) ?_
      refine lv_aload_n hx hb dX0_sumOver_8 rfl (lv_at hl 0 rfl) ?_
      refine zr_get (C := RX0) (T := TX0) (N := 8) (v := .int (zwe x)) hx hb hts hi_X0_sumOver_X0 hown hw hc rfl 6 (by decide) hf_X0_sumOver_23 rfl dX0_sumOver_9 ?_
      refine lv_icmp_ge (tgt := 34) hx hb dX0_sumOver_12 (by decide) (fun c_1 => ?_) (fun c_1 => ?_)
      · have hke : k = mm := Nat.le_antisymm hk ((hcmp k hk).mp c_1)
        refine lv_lload hx hb dX0_sumOver_34 (lv_at hl 3 rfl) ?_
        exact z_lret hx hb hr hlocks hw (Nat.le_of_ble_eq_true rfl) (Nat.le_of_ble_eq_true rfl) dX0_sumOver_36 ⟨by rw [hke], rfl, rfl⟩
      · have hlt : k < mm := Nat.lt_of_not_le (fun q => c_1 ((hcmp k hk).mpr q))
        refine lv_lload hx hb dX0_sumOver_15 (lv_at hl 3 rfl) ?_
        refine lv_aload_n hx hb dX0_sumOver_17 rfl (lv_at hl 0 rfl) ?_
        refine lv_iload hx hb dX0_sumOver_18 (lv_at hl 4 rfl) ?_
        refine z_callV (As := [.int (p1 + nI k)]) (rest := [.long (zSm (fun k => ct (Int32.toNatClampNeg (zwr x + (p1 + nI k)))) p0 k)]) ⟨hx, hb, hml, hown, hts⟩ hw hX hc rfl (c_X0_valueAt l g L f a ((zwk x), (zwo x), (zws x), (zwr x), (zwc x), (zwp x), (zwe x), (zwm x)) (p1 + nI k) hc hs (hbd k hlt)) (cwV 1 hts gX0_sumOver_X0_valueAt rfl rfl rfl (by decide +kernel) ⟨(Nat.le_of_ble_eq_true rfl), (Nat.le_of_ble_eq_true rfl)⟩) rfl hl.1 rfl (Nat.le_of_ble_eq_true rfl) dX0_sumOver_20 ⟨(Nat.le_of_ble_eq_true rfl), (Nat.le_of_ble_eq_true rfl)⟩ (fun _ _ _ _ _ _ _ hp => False.elim hp) (fun r9 L9 f9 H locs hp hw => ?_)
        obtain ⟨rfl, rfl, rfl⟩ := hp
        refine W.eq (g2 := F0 m 23 ls [.long (ct (Int32.toNatClampNeg ((zwr x) + (p1 + nI k)))), .long (zSm (fun k => ct (Int32.toNatClampNeg (zwr x + (p1 + nI k)))) p0 k)]) rfl ?_
        refine z_callSN (As := [.long (zSm (fun k => ct (Int32.toNatClampNeg (zwr x + (p1 + nI k)))) p0 k), .long (ct (Int32.toNatClampNeg ((zwr x) + (p1 + nI k))))]) (rest := []) ⟨hx, hb, hml, hown, hts⟩ hw hX (c_X1_summed l g L f (zSm (fun k => ct (Int32.toNatClampNeg (zwr x + (p1 + nI k)))) p0 k) (ct (Int32.toNatClampNeg ((zwr x) + (p1 + nI k))))) ⟨va_cnB (host := "Windowhouse") 2 hts gX0_sumOver_X1_summed_n57 rfl rfl rfl (hX.2.2.2.2.1 (RX0, 57, yX1_summed, "Windowhouse") (by decide +kernel)) (hts (.initialized RX1) (by decide +kernel)) (by decide +kernel) ⟨(Nat.le_of_ble_eq_true rfl), (Nat.le_of_ble_eq_true rfl)⟩, hts (.static yX1_summed) (by decide +kernel), trivial⟩ rfl hl.1 rfl (Nat.le_of_ble_eq_true rfl) dX0_sumOver_23 ⟨(Nat.le_of_ble_eq_true rfl), (Nat.le_of_ble_eq_true rfl)⟩ (fun _ _ _ _ _ _ _ hp => False.elim hp) (fun r9 L9 f9 H locs hp hw => ?_)
        obtain ⟨rfl, rfl, rfl⟩ := hp
        refine W.eq (g2 := F0 m 26 ls [.long (31 * (zSm (fun k => ct (Int32.toNatClampNeg (zwr x + (p1 + nI k)))) p0 k) + (ct (Int32.toNatClampNeg ((zwr x) + (p1 + nI k)))))]) rfl ?_
        refine lv_lstore (lv' := [(4, .long (31 * (zSm (fun k => ct (Int32.toNatClampNeg (zwr x + (p1 + nI k)))) p0 k) + (ct (Int32.toNatClampNeg ((zwr x) + (p1 + nI k)))))), (0, .ref a), (1, .long p0), (3, .int p1), (6, .int (p1 + nI k))]) hx hb dX0_sumOver_26 hl (by decide) rfl (fun ls hl => ?_)
        refine lv_iinc (v := ((p1 + nI k) + 1)) (lv' := [(6, .int ((p1 + nI k) + 1)), (4, .long (31 * (zSm (fun k => ct (Int32.toNatClampNeg (zwr x + (p1 + nI k)))) p0 k) + (ct (Int32.toNatClampNeg ((zwr x) + (p1 + nI k)))))), (0, .ref a), (1, .long p0), (3, .int p1)]) hx hb dX0_sumOver_28 hl (k := 4) rfl rfl (by decide) rfl (fun ls hl => ?_)
        refine lv_goto (tgt := 6) hx hb dX0_sumOver_31 (by decide) ?_
        refine ih_6 (k + 1) _ _ _ (by omega) (by omega) hw ?_
        have hl := lv_sub hl (l' := [(0, .ref a), (1, .long p0), (3, .int p1), (4, .long (31 * (zSm (fun k => ct (Int32.toNatClampNeg (zwr x + (p1 + nI k)))) p0 k) + (ct (Int32.toNatClampNeg ((zwr x) + (p1 + nI k)))))), (6, .int ((p1 + nI k) + 1))]) [2, 3, 4, 1, 0] rfl
        rw [nI_succ, ← Int32.add_assoc]
        exact hl
  refine loop_6 (mm + 1) 0 _ _ _ (Nat.zero_le _) (by omega) hw ?_
  have hl := lv_sub hl (l' := [(0, .ref a), (1, .long p0), (3, .int p1), (4, .long p0), (6, .int p1)]) [2, 3, 4, 1, 0] rfl
  rw [nI_0, Int32.add_zero]
  exact hl

theorem hi_X0_sumOfAll_X0 : ∀ w ∈ wsX00, w ∈ wsX0_sumOfAll := by decide +kernel
theorem hf_X0_sumOfAll_9 : Cond.fieldLink RX0 9 (TX0 0).1 (TX0 0).2.1 (TX0 0).2.2.1 ∈ wsX0_sumOfAll := by decide +kernel
theorem hf_X0_sumOfAll_23 : Cond.fieldLink RX0 23 (TX0 6).1 (TX0 6).2.1 (TX0 6).2.2.1 ∈ wsX0_sumOfAll := by decide +kernel
theorem hf_X0_sumOfAll_26 : Cond.fieldLink RX0 26 (TX0 5).1 (TX0 5).2.1 (TX0 5).2.2.1 ∈ wsX0_sumOfAll := by decide +kernel
theorem hf_X0_sumOfAll_29 : Cond.fieldLink RX0 29 (TX0 4).1 (TX0 4).2.1 (TX0 4).2.2.1 ∈ wsX0_sumOfAll := by decide +kernel
set_option maxRecDepth 100000 in
set_option maxHeartbeats 4000000 in
theorem c_X0_sumOfAll_y (l : Launch) (g : zG) (L : List Nat) (f : Nat → va_E) (a : Nat) (x : ZW) (p0 : Int64)  {n : Nat} {ct : Nat → Int64} (mm : Nat) (hc : zc L f a (.inr (0, zwf x))) (hs : zc L f (zws x) (.inl (g.2 1, n, .inr (.inl ct)))) (hm64 : mm ≤ 64) (hcmp : ∀ k, k ≤ mm → (zwe x ≤ 0 + nI k ↔ mm ≤ k)) (hbd : ∀ k, k < mm → vp_in (zwr x + (0 + nI k)) n) (hk : ¬ zwk x = 45) : zC l yX0_sumOfAll wsX0_sumOfAll { frames := 2, cells := 0, slots := 0, locals := 49 } 0 0 g [.ref a, .long p0] L f (fun r L1 f1 => some (.long (zSm (fun k => ct (Int32.toNatClampNeg (zwr x + (0 + nI k)))) (31 * (31 * (31 * (31 * p0 + (zwk x).toInt64) + (zwp x).toInt64) + (zwe x).toInt64) + (zwc x).toInt64) mm)) = r ∧ L = L1 ∧ f = f1) zNo := by
  refine z_ofW (cc := cX0_sumOfAll) (maxL := 5) (ret := (some .long)) (by decide) rfl (Nat.le_of_ble_eq_true rfl) ?_
  intro p e s m args below meth c ls A hx hb hr hts hown hlocks hml htab hin hw hX hl
  have hl : lv_has ls 5 [(0, .ref a), (1, .long p0)] := hl
  have hown : s.vm.findClass RX0 = some m.cls := hown
  refine lv_lload_n hx hb dX0_sumOfAll_0 rfl (lv_at hl 1 rfl) ?_
  refine lv_aload_n hx hb dX0_sumOfAll_1 rfl (lv_at hl 0 rfl) ?_
  refine zr_get (C := RX0) (T := TX0) (N := 8) (v := .int (zwk x)) hx hb hts hi_X0_sumOfAll_X0 hown hw hc rfl 0 (by decide) hf_X0_sumOfAll_9 rfl dX0_sumOfAll_2 ?_
  refine lv_i2l (v := (zwk x).toInt64) hx hb dX0_sumOfAll_5 rfl ?_
  refine z_callSN (As := [.long p0, .long (zwk x).toInt64]) (rest := []) ⟨hx, hb, hml, hown, hts⟩ hw hX (c_X1_summed l g L f p0 ((zwk x).toInt64)) ⟨va_cnB (host := "Windowhouse") 2 hts gX0_sumOfAll_X1_summed_n57 rfl rfl rfl (hX.2.2.2.2.1 (RX0, 57, yX1_summed, "Windowhouse") (by decide +kernel)) (hts (.initialized RX1) (by decide +kernel)) (by decide +kernel) ⟨(Nat.le_of_ble_eq_true rfl), (Nat.le_of_ble_eq_true rfl)⟩, hts (.static yX1_summed) (by decide +kernel), trivial⟩ rfl hl.1 rfl (Nat.le_of_ble_eq_true rfl) dX0_sumOfAll_6 ⟨(Nat.le_of_ble_eq_true rfl), (Nat.le_of_ble_eq_true rfl)⟩ (fun _ _ _ _ _ _ _ hp => False.elim hp) (fun r9 L9 f9 H locs hp hw => ?_)
  obtain ⟨rfl, rfl, rfl⟩ := hp
  refine W.eq (g2 := F0 m 9 ls [.long (31 * p0 + (zwk x).toInt64)]) rfl ?_
  refine lv_lstore_n (lv' := [(3, .long (31 * p0 + (zwk x).toInt64)), (0, .ref a), (1, .long p0)]) hx hb dX0_sumOfAll_9 rfl hl (by decide) rfl (fun ls hl => ?_)
  refine lv_aload_n hx hb dX0_sumOfAll_10 rfl (lv_at hl 1 rfl) ?_
  refine z_callV (As := []) (rest := []) ⟨hx, hb, hml, hown, hts⟩ hw hX hc rfl (c_X0_isThere l g L f a ((zwk x), (zwo x), (zws x), (zwr x), (zwc x), (zwp x), (zwe x), (zwm x)) hc) (cwV 0 hts gX0_sumOfAll_X0_isThere rfl rfl rfl (by decide +kernel) ⟨(Nat.le_of_ble_eq_true rfl), (Nat.le_of_ble_eq_true rfl)⟩) rfl hl.1 rfl (Nat.le_of_ble_eq_true rfl) dX0_sumOfAll_11 ⟨(Nat.le_of_ble_eq_true rfl), (Nat.le_of_ble_eq_true rfl)⟩ (fun _ _ _ _ _ _ _ hp => False.elim hp) (fun r9 L9 f9 H locs hp hw => ?_)
  obtain ⟨rfl, rfl, rfl⟩ := hp
  refine W.eq (g2 := F0 m 14 ls [.int (zb (decide (¬ (zwk x) = 45)))]) rfl ?_
  refine zr_bne hx hb dX0_sumOfAll_14 (tgt := 19) (by decide) (fun c_1 => ?_) (fun c_1 => absurd (decide_eq_true hk) c_1)
  refine lv_lload_n hx hb dX0_sumOfAll_19 rfl (lv_at hl 0 rfl) ?_
  refine lv_aload_n hx hb dX0_sumOfAll_20 rfl (lv_at hl 1 rfl) ?_
  refine zr_get (C := RX0) (T := TX0) (N := 8) (v := .int (zwp x)) hx hb hts hi_X0_sumOfAll_X0 hown hw hc rfl 5 (by decide) hf_X0_sumOfAll_26 rfl dX0_sumOfAll_21 ?_
  refine lv_i2l (v := (zwp x).toInt64) hx hb dX0_sumOfAll_24 rfl ?_
  refine z_callSN (As := [.long (31 * p0 + (zwk x).toInt64), .long (zwp x).toInt64]) (rest := []) ⟨hx, hb, hml, hown, hts⟩ hw hX (c_X1_summed l g L f (31 * p0 + (zwk x).toInt64) ((zwp x).toInt64)) ⟨va_cnB (host := "Windowhouse") 2 hts gX0_sumOfAll_X1_summed_n57 rfl rfl rfl (hX.2.2.2.2.1 (RX0, 57, yX1_summed, "Windowhouse") (by decide +kernel)) (hts (.initialized RX1) (by decide +kernel)) (by decide +kernel) ⟨(Nat.le_of_ble_eq_true rfl), (Nat.le_of_ble_eq_true rfl)⟩, hts (.static yX1_summed) (by decide +kernel), trivial⟩ rfl hl.1 rfl (Nat.le_of_ble_eq_true rfl) dX0_sumOfAll_25 ⟨(Nat.le_of_ble_eq_true rfl), (Nat.le_of_ble_eq_true rfl)⟩ (fun _ _ _ _ _ _ _ hp => False.elim hp) (fun r9 L9 f9 H locs hp hw => ?_)
  obtain ⟨rfl, rfl, rfl⟩ := hp
  refine W.eq (g2 := F0 m 28 ls [.long (31 * (31 * p0 + (zwk x).toInt64) + (zwp x).toInt64)]) rfl ?_
  refine lv_lstore_n (lv' := [(3, .long (31 * (31 * p0 + (zwk x).toInt64) + (zwp x).toInt64)), (0, .ref a), (1, .long p0)]) hx hb dX0_sumOfAll_28 rfl hl (by decide) rfl (fun ls hl => ?_)
  refine lv_lload_n hx hb dX0_sumOfAll_29 rfl (lv_at hl 0 rfl) ?_
  refine lv_aload_n hx hb dX0_sumOfAll_30 rfl (lv_at hl 1 rfl) ?_
  refine zr_get (C := RX0) (T := TX0) (N := 8) (v := .int (zwe x)) hx hb hts hi_X0_sumOfAll_X0 hown hw hc rfl 6 (by decide) hf_X0_sumOfAll_23 rfl dX0_sumOfAll_31 ?_
  refine lv_i2l (v := (zwe x).toInt64) hx hb dX0_sumOfAll_34 rfl ?_
  refine z_callSN (As := [.long (31 * (31 * p0 + (zwk x).toInt64) + (zwp x).toInt64), .long (zwe x).toInt64]) (rest := []) ⟨hx, hb, hml, hown, hts⟩ hw hX (c_X1_summed l g L f (31 * (31 * p0 + (zwk x).toInt64) + (zwp x).toInt64) ((zwe x).toInt64)) ⟨va_cnB (host := "Windowhouse") 2 hts gX0_sumOfAll_X1_summed_n57 rfl rfl rfl (hX.2.2.2.2.1 (RX0, 57, yX1_summed, "Windowhouse") (by decide +kernel)) (hts (.initialized RX1) (by decide +kernel)) (by decide +kernel) ⟨(Nat.le_of_ble_eq_true rfl), (Nat.le_of_ble_eq_true rfl)⟩, hts (.static yX1_summed) (by decide +kernel), trivial⟩ rfl hl.1 rfl (Nat.le_of_ble_eq_true rfl) dX0_sumOfAll_35 ⟨(Nat.le_of_ble_eq_true rfl), (Nat.le_of_ble_eq_true rfl)⟩ (fun _ _ _ _ _ _ _ hp => False.elim hp) (fun r9 L9 f9 H locs hp hw => ?_)
  obtain ⟨rfl, rfl, rfl⟩ := hp
  refine W.eq (g2 := F0 m 38 ls [.long (31 * (31 * (31 * p0 + (zwk x).toInt64) + (zwp x).toInt64) + (zwe x).toInt64)]) rfl ?_
  refine lv_lstore_n (lv' := [(3, .long (31 * (31 * (31 * p0 + (zwk x).toInt64) + (zwp x).toInt64) + (zwe x).toInt64)), (0, .ref a), (1, .long p0)]) hx hb dX0_sumOfAll_38 rfl hl (by decide) rfl (fun ls hl => ?_)
  refine lv_lload_n hx hb dX0_sumOfAll_39 rfl (lv_at hl 0 rfl) ?_
  refine lv_aload_n hx hb dX0_sumOfAll_40 rfl (lv_at hl 1 rfl) ?_
  refine zr_get (C := RX0) (T := TX0) (N := 8) (v := .int (zwc x)) hx hb hts hi_X0_sumOfAll_X0 hown hw hc rfl 4 (by decide) hf_X0_sumOfAll_29 rfl dX0_sumOfAll_41 ?_
  refine lv_i2l (v := (zwc x).toInt64) hx hb dX0_sumOfAll_44 rfl ?_
  refine z_callSN (As := [.long (31 * (31 * (31 * p0 + (zwk x).toInt64) + (zwp x).toInt64) + (zwe x).toInt64), .long (zwc x).toInt64]) (rest := []) ⟨hx, hb, hml, hown, hts⟩ hw hX (c_X1_summed l g L f (31 * (31 * (31 * p0 + (zwk x).toInt64) + (zwp x).toInt64) + (zwe x).toInt64) ((zwc x).toInt64)) ⟨va_cnB (host := "Windowhouse") 2 hts gX0_sumOfAll_X1_summed_n57 rfl rfl rfl (hX.2.2.2.2.1 (RX0, 57, yX1_summed, "Windowhouse") (by decide +kernel)) (hts (.initialized RX1) (by decide +kernel)) (by decide +kernel) ⟨(Nat.le_of_ble_eq_true rfl), (Nat.le_of_ble_eq_true rfl)⟩, hts (.static yX1_summed) (by decide +kernel), trivial⟩ rfl hl.1 rfl (Nat.le_of_ble_eq_true rfl) dX0_sumOfAll_45 ⟨(Nat.le_of_ble_eq_true rfl), (Nat.le_of_ble_eq_true rfl)⟩ (fun _ _ _ _ _ _ _ hp => False.elim hp) (fun r9 L9 f9 H locs hp hw => ?_)
  obtain ⟨rfl, rfl, rfl⟩ := hp
  refine W.eq (g2 := F0 m 48 ls [.long (31 * (31 * (31 * (31 * p0 + (zwk x).toInt64) + (zwp x).toInt64) + (zwe x).toInt64) + (zwc x).toInt64)]) rfl ?_
  refine lv_lstore_n (lv' := [(3, .long (31 * (31 * (31 * (31 * p0 + (zwk x).toInt64) + (zwp x).toInt64) + (zwe x).toInt64) + (zwc x).toInt64)), (0, .ref a), (1, .long p0)]) hx hb dX0_sumOfAll_48 rfl hl (by decide) rfl (fun ls hl => ?_)
  refine lv_aload_n hx hb dX0_sumOfAll_49 rfl (lv_at hl 1 rfl) ?_
  refine lv_lload_n hx hb dX0_sumOfAll_50 rfl (lv_at hl 0 rfl) ?_
  refine lv_iconst (v := 0) hx hb dX0_sumOfAll_51 (by decide) ?_
  refine z_callV (As := [.long (31 * (31 * (31 * (31 * p0 + (zwk x).toInt64) + (zwp x).toInt64) + (zwe x).toInt64) + (zwc x).toInt64), .int 0]) (rest := []) ⟨hx, hb, hml, hown, hts⟩ hw hX hc rfl (c_X0_sumOver l g L f a ((zwk x), (zwo x), (zws x), (zwr x), (zwc x), (zwp x), (zwe x), (zwm x)) (31 * (31 * (31 * (31 * p0 + (zwk x).toInt64) + (zwp x).toInt64) + (zwe x).toInt64) + (zwc x).toInt64) 0 mm hc hs hm64 hcmp hbd) (cwV 2 hts gX0_sumOfAll_X0_sumOver rfl rfl rfl (by decide +kernel) ⟨(Nat.le_of_ble_eq_true rfl), (Nat.le_of_ble_eq_true rfl)⟩) rfl hl.1 rfl (Nat.le_of_ble_eq_true rfl) dX0_sumOfAll_52 ⟨(Nat.le_of_ble_eq_true rfl), (Nat.le_of_ble_eq_true rfl)⟩ (fun _ _ _ _ _ _ _ hp => False.elim hp) (fun r9 L9 f9 H locs hp hw => ?_)
  obtain ⟨rfl, rfl, rfl⟩ := hp
  refine W.eq (g2 := F0 m 55 ls [.long (zSm (fun k => ct (Int32.toNatClampNeg ((zwr x) + (0 + nI k)))) (31 * (31 * (31 * (31 * p0 + (zwk x).toInt64) + (zwp x).toInt64) + (zwe x).toInt64) + (zwc x).toInt64) mm)]) rfl ?_
  exact z_lret hx hb hr hlocks hw (Nat.le_of_ble_eq_true rfl) (Nat.le_of_ble_eq_true rfl) dX0_sumOfAll_55 ⟨rfl, rfl, rfl⟩

set_option maxRecDepth 100000 in
set_option maxHeartbeats 4000000 in
theorem c_X0_sumOfAll_n (l : Launch) (g : zG) (L : List Nat) (f : Nat → va_E) (a : Nat) (x : ZW) (p0 : Int64)  (hc : zc L f a (.inr (0, zwf x))) (hk : zwk x = 45) : zC l yX0_sumOfAll wsX0_sumOfAll { frames := 2, cells := 0, slots := 0, locals := 49 } 0 0 g [.ref a, .long p0] L f (fun r L1 f1 => some (.long (31 * p0 + (zwk x).toInt64)) = r ∧ L = L1 ∧ f = f1) zNo := by
  refine z_ofW (cc := cX0_sumOfAll) (maxL := 5) (ret := (some .long)) (by decide) rfl (Nat.le_of_ble_eq_true rfl) ?_
  intro p e s m args below meth c ls A hx hb hr hts hown hlocks hml htab hin hw hX hl
  have hl : lv_has ls 5 [(0, .ref a), (1, .long p0)] := hl
  have hown : s.vm.findClass RX0 = some m.cls := hown
  refine lv_lload_n hx hb dX0_sumOfAll_0 rfl (lv_at hl 1 rfl) ?_
  refine lv_aload_n hx hb dX0_sumOfAll_1 rfl (lv_at hl 0 rfl) ?_
  refine zr_get (C := RX0) (T := TX0) (N := 8) (v := .int (zwk x)) hx hb hts hi_X0_sumOfAll_X0 hown hw hc rfl 0 (by decide) hf_X0_sumOfAll_9 rfl dX0_sumOfAll_2 ?_
  refine lv_i2l (v := (zwk x).toInt64) hx hb dX0_sumOfAll_5 rfl ?_
  refine z_callSN (As := [.long p0, .long (zwk x).toInt64]) (rest := []) ⟨hx, hb, hml, hown, hts⟩ hw hX (c_X1_summed l g L f p0 ((zwk x).toInt64)) ⟨va_cnB (host := "Windowhouse") 2 hts gX0_sumOfAll_X1_summed_n57 rfl rfl rfl (hX.2.2.2.2.1 (RX0, 57, yX1_summed, "Windowhouse") (by decide +kernel)) (hts (.initialized RX1) (by decide +kernel)) (by decide +kernel) ⟨(Nat.le_of_ble_eq_true rfl), (Nat.le_of_ble_eq_true rfl)⟩, hts (.static yX1_summed) (by decide +kernel), trivial⟩ rfl hl.1 rfl (Nat.le_of_ble_eq_true rfl) dX0_sumOfAll_6 ⟨(Nat.le_of_ble_eq_true rfl), (Nat.le_of_ble_eq_true rfl)⟩ (fun _ _ _ _ _ _ _ hp => False.elim hp) (fun r9 L9 f9 H locs hp hw => ?_)
  obtain ⟨rfl, rfl, rfl⟩ := hp
  refine W.eq (g2 := F0 m 9 ls [.long (31 * p0 + (zwk x).toInt64)]) rfl ?_
  refine lv_lstore_n (lv' := [(3, .long (31 * p0 + (zwk x).toInt64)), (0, .ref a), (1, .long p0)]) hx hb dX0_sumOfAll_9 rfl hl (by decide) rfl (fun ls hl => ?_)
  refine lv_aload_n hx hb dX0_sumOfAll_10 rfl (lv_at hl 1 rfl) ?_
  refine z_callV (As := []) (rest := []) ⟨hx, hb, hml, hown, hts⟩ hw hX hc rfl (c_X0_isThere l g L f a ((zwk x), (zwo x), (zws x), (zwr x), (zwc x), (zwp x), (zwe x), (zwm x)) hc) (cwV 0 hts gX0_sumOfAll_X0_isThere rfl rfl rfl (by decide +kernel) ⟨(Nat.le_of_ble_eq_true rfl), (Nat.le_of_ble_eq_true rfl)⟩) rfl hl.1 rfl (Nat.le_of_ble_eq_true rfl) dX0_sumOfAll_11 ⟨(Nat.le_of_ble_eq_true rfl), (Nat.le_of_ble_eq_true rfl)⟩ (fun _ _ _ _ _ _ _ hp => False.elim hp) (fun r9 L9 f9 H locs hp hw => ?_)
  obtain ⟨rfl, rfl, rfl⟩ := hp
  refine W.eq (g2 := F0 m 14 ls [.int (zb (decide (¬ (zwk x) = 45)))]) rfl ?_
  refine zr_bne hx hb dX0_sumOfAll_14 (tgt := 19) (by decide) (fun c_1 => absurd c_1 (fun q => (of_decide_eq_true q) hk)) (fun c_1 => ?_)
  refine lv_lload_n hx hb dX0_sumOfAll_17 rfl (lv_at hl 0 rfl) ?_
  exact z_lret hx hb hr hlocks hw (Nat.le_of_ble_eq_true rfl) (Nat.le_of_ble_eq_true rfl) dX0_sumOfAll_18 ⟨rfl, rfl, rfl⟩

set_option maxRecDepth 100000 in
set_option maxHeartbeats 4000000 in
theorem c_X1_sumOfRow (l : Launch) (g : zG) (L : List Nat) (f : Nat → va_E) (p0 : Int64) (q : Nat)  {n : Nat} {ct : Nat → Int64} (hs : zc L f q (.inl (g.2 1, n, .inr (.inl ct)))) (hn64 : n ≤ 64) : zC l yX1_sumOfRow wsX1_sumOfRow { frames := 1, cells := 0, slots := 0, locals := 23 } 0 0 g [.long p0, .ref q] L f (fun r L1 f1 => some (.long (zSm ct p0 n)) = r ∧ L = L1 ∧ f = f1) zNo := by
  refine z_ofW (cc := cX1_sumOfRow) (maxL := 6) (ret := (some .long)) (by decide) rfl (Nat.le_of_ble_eq_true rfl) ?_
  intro p e s m args below meth c ls A hx hb hr hts hown hlocks hml htab hin hw hX hl
  have hl : lv_has ls 6 [(0, .long p0), (2, .ref q)] := hl
  have hown : s.vm.findClass RX1 = some m.cls := hown
  refine lv_lload_n hx hb dX1_sumOfRow_0 rfl (lv_at hl 0 rfl) ?_
  refine lv_lstore_n (lv' := [(3, .long p0), (0, .long p0), (2, .ref q)]) hx hb dX1_sumOfRow_1 rfl hl (by decide) rfl (fun ls hl => ?_)
  refine lv_iconst (v := 0) hx hb dX1_sumOfRow_2 (by decide) ?_
  refine lv_istore (lv' := [(5, .int 0), (3, .long p0), (0, .long p0), (2, .ref q)]) hx hb dX1_sumOfRow_3 hl (by decide) rfl (fun ls hl => ?_)
  have loop_5 : ∀ (n9 : Nat) (k : Nat) (H : Heap) (locs : List Loc) (ls : Array Slot), (k ≤ n) → (n + 1 ≤ k + n9) → zW g A s L f H locs → lv_has ls 6 [(0, .long p0), (2, .ref q), (3, .long (zSm ct p0 k)), (5, .int (nI k))] → W p l e { frames := 1, cells := 0, slots := 0, locals := 23 } s m args below meth c H locs 0 0 (vx_MQ below (zQ g A (fun r L1 f1 => some (.long (zSm ct p0 n)) = r ∧ L = L1 ∧ f = f1)) (zXC g A zNo) args s 0 0 A) (F0 m 5 ls []) := by
    intro n9
    induction n9 with
    | zero => intro k H locs ls hk hn hw hl; exact absurd hn (by omega)
    | succ n9 ih_5 =>
      intro k H locs ls hk hn hw hl
      refine lv_iload hx hb dX1_sumOfRow_5 (lv_at hl 3 rfl) ?_
      refine lv_aload_n hx hb dX1_sumOfRow_7 rfl (lv_at hl 1 rfl) ?_
      refine zr_alen (t0 := 1) (v := nI n) hx hb hw hs rfl rfl dX1_sumOfRow_8 ?_
      refine lv_icmp_ge (tgt := 27) hx hb dX1_sumOfRow_9 (by decide) (fun c_1 => ?_) (fun c_1 => ?_)
      · have hke : k = n := zn_ge c_1 hk (by omega)
        refine lv_lload_n hx hb dX1_sumOfRow_27 rfl (lv_at hl 2 rfl) ?_
        exact z_lret hx hb hr hlocks hw (Nat.le_of_ble_eq_true rfl) (Nat.le_of_ble_eq_true rfl) dX1_sumOfRow_28 ⟨by rw [hke], rfl, rfl⟩
      · have hlt : k < n := zn_lt c_1 hk (by omega)
        refine lv_lload_n hx hb dX1_sumOfRow_12 rfl (lv_at hl 2 rfl) ?_
        refine lv_aload_n hx hb dX1_sumOfRow_13 rfl (lv_at hl 1 rfl) ?_
        refine lv_iload hx hb dX1_sumOfRow_14 (lv_at hl 3 rfl) ?_
        refine zr_lald hx hb hw hs (vp_in_nI hlt (by omega)) dX1_sumOfRow_16 ?_
        refine z_callS (As := [.long (zSm ct p0 k), .long (ct (Int32.toNatClampNeg (nI k)))]) (rest := []) ⟨hx, hb, hml, hown, hts⟩ hw hX (c_X1_summed l g L f (zSm ct p0 k) (ct (Int32.toNatClampNeg (nI k)))) (va_cwS 2 hts gX1_sumOfRow_X1_summed rfl rfl rfl (by decide +kernel) ⟨(Nat.le_of_ble_eq_true rfl), (Nat.le_of_ble_eq_true rfl)⟩) rfl hl.1 rfl (Nat.le_of_ble_eq_true rfl) dX1_sumOfRow_17 ⟨(Nat.le_of_ble_eq_true rfl), (Nat.le_of_ble_eq_true rfl)⟩ (fun _ _ _ _ _ _ _ hp => False.elim hp) (fun r9 L9 f9 H locs hp hw => ?_)
        obtain ⟨rfl, rfl, rfl⟩ := hp
        refine W.eq (g2 := F0 m 20 ls [.long (31 * (zSm ct p0 k) + (ct (Int32.toNatClampNeg (nI k))))]) rfl ?_
        refine lv_lstore_n (lv' := [(3, .long (31 * (zSm ct p0 k) + (ct (Int32.toNatClampNeg (nI k))))), (0, .long p0), (2, .ref q), (5, .int (nI k))]) hx hb dX1_sumOfRow_20 rfl hl (by decide) rfl (fun ls hl => ?_)
        refine lv_iinc (v := ((nI k) + 1)) (lv' := [(5, .int ((nI k) + 1)), (3, .long (31 * (zSm ct p0 k) + (ct (Int32.toNatClampNeg (nI k))))), (0, .long p0), (2, .ref q)]) hx hb dX1_sumOfRow_21 hl (k := 3) rfl rfl (by decide) rfl (fun ls hl => ?_)
        refine lv_goto (tgt := 5) hx hb dX1_sumOfRow_24 (by decide) ?_
        refine ih_5 (k + 1) _ _ _ (by omega) (by omega) hw ?_
        have hl := lv_sub hl (l' := [(0, .long p0), (2, .ref q), (3, .long (31 * (zSm ct p0 k) + (ct (Int32.toNatClampNeg (nI k))))), (5, .int ((nI k) + 1))]) [2, 3, 1, 0] rfl
        rw [zSm, ← nI_1 k]; have hz := nI_clamp (n := k) (by omega); rw [hz] at hl
        exact hl
  refine loop_5 (n + 1) 0 _ _ _ (Nat.zero_le _) (by omega) hw ?_
  have hl := lv_sub hl (l' := [(0, .long p0), (2, .ref q), (3, .long p0), (5, .int 0)]) [2, 3, 1, 0] rfl
  exact hl

