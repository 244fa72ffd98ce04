/-- place, end and mark of a window anew -/
def zStands (σ : ZS) (i : Nat) (pl en : Int32) : ZS := zsMK (zsEN (zsPL σ (upd (zPL σ) i pl)) (upd (zEN σ) i en)) (upd (zMK σ) i (-1))
def zBecomes (σ : ZS) (i : Nat) (k si fr sz rd : Int32) : ZS := zsRD (zsMK (zsEN (zsPL (zsSZ (zsFR (zsSI (zsK σ (upd (zK σ) i k)) (upd (zSI σ) i si)) (upd (zFR σ) i fr)) (upd (zSZ σ) i sz)) (upd (zPL σ) i 0)) (upd (zEN σ) i sz)) (upd (zMK σ) i (-1))) (upd (zRD σ) i (vp_nar .boolean rd))
/-- a value, cut to a kind -/
def zcut (k : Int32) (v : Int64) : Int64 := if k = 105 then v.toInt32.toInt64 else if k = 99 then v &&& 255 else if k = 115 then v.toInt32.toInt16.toInt32.toInt64 else v
/-- where the value at a place of window i lies -/
def zAt (σ : ZS) (i : Nat) (at9 : Int32) : Int32 := 64 * zSI σ i + zFR σ i + at9
def zVal (σ : ZS) (i : Nat) (at9 : Int32) : Int64 := zST σ (Int32.toNatClampNeg (zAt σ i at9))
def zLay (σ : ZS) (i : Nat) (at9 : Int32) (v : Int64) : ZS := zsST σ (vp_updL (zST σ) (Int32.toNatClampNeg (zAt σ i at9)) (zcut (zK σ i) v))

