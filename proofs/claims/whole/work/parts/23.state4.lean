/-! what the reference's public methods answer -/
theorem rzn {a : Int} {b : Nat} (h : a = (b : Int)) : Value.int (iI a) = .int (nI b) := by rw [nI_z, h]
def muf (w : MV) (t : Nat) : Option Nat := fnd (fun u => mIs w u && !mti w.1 t u) t 0
theorem muf_lt {w : MV} {t u : Nat} (h : muf w t = some u) : u < t := by have := fnd_lt h; omega
def mfai (w : MV) : Option Nat := fnd (fun t => mIs w t && (!rgt w.1 t || (muf w t).isSome)) (mTm w) 0
def mfaR (w : MV) : Nat := match mfai w with
  | none => 0
  | some t => if rgt w.1 t = true then 2 else 1
def mfaS (w : MV) : MV := match mfai w with
  | none => w
  | some t => if rgt w.1 t = true then mCul w (nI t) (oI (muf w t)) else mCul w (nI t) (iI (-1))
def mcuC (w : MV) (x : Int32) : Int32 := if x = 0 then mFi w else if x = 1 then mSe w else iI (-1)
def mcoC (w : MV) (x y : Int32) : Nat := if inB x 32 = true ∧ inB y 32 = true then cnt (fun t => mth w (nI t) && cov w.1 t x.toNatClampNeg y.toNatClampNeg) (mTm w) 0 else 0
def mwhC (w : MV) (x y : Int32) : Option Nat := if inB x 32 = true ∧ inB y 32 = true then fnd (fun t => mth w (nI t) && cov w.1 t x.toNatClampNeg y.toNatClampNeg) (mTm w) 0 else none
def mloC (w : MV) (x y : Int32) : Option Nat := fnd (fun t => mIs w t && (rgt w.1 t && has w.1 t x.toInt y.toInt)) (mTm w) 0
def mbeC (w : MV) (t k : Int32) : Option Nat := if mth w t = true ∧ inB k 3 = true then mnb w t.toNatClampNeg k.toNatClampNeg else none
def mgoC (w : MV) (t k : Int32) : Bool := (mth w t && inB k 3) && god w.1 t.toNatClampNeg k.toNatClampNeg (mnb w t.toNatClampNeg k.toNatClampNeg) (bey w.1 t.toNatClampNeg k.toNatClampNeg)
def mcrC (w : MV) (t k : Int32) : Option Nat := if mth w t = true ∧ inB k 3 = true then some (gc w.1 t.toNatClampNeg k.toNatClampNeg) else none
theorem mth_of {w : MV} (hw : mTm w < 2 ^ 31) {t : Int32} (h : mth w t = true) : ∃ j, j < mTm w ∧ t = nI j ∧ mIs w j = true := by
  unfold mth at h
  simp at h
  obtain ⟨j, hj, e⟩ := inB_of hw h.1
  refine ⟨j, hj, e, ?_⟩
  have h2 := h.2
  rw [e, nI_clamp (by omega)] at h2
  exact h2
theorem toInt_l (x : Int32) : x.toInt64 = lI x.toInt := Int64.toInt_inj.mp (by
  have h1 := x.minValue_le_toInt; have h2 := x.toInt_le
  have e1 : Int32.minValue.toInt = -2147483648 := by decide
  have e2 : Int32.maxValue.toInt = 2147483647 := by decide
  rw [Int32.toInt_toInt64, lI_toInt ⟨by omega, by omega⟩])
theorem toInt_ok (x : Int32) : zOk x.toInt := by
  have h1 := x.minValue_le_toInt; have h2 := x.toInt_le
  have e1 : Int32.minValue.toInt = -2147483648 := by decide
  have e2 : Int32.maxValue.toInt = 2147483647 := by decide
  exact ⟨by omega, by omega⟩
def hsd (g : GG) (t x y : Nat) : Bool := (fnd (fun k => (decide (gc g t k = x) && decide (gc g t (k + 1) = y)) || (decide (gc g t k = y) && decide (gc g t (k + 1) = x))) 3 0).isSome
def anf (P : Nat → Bool) : Nat → Nat → Bool
  | 0, _ => false
  | k + 1, n => P n || anf P k (n + 1)
theorem anf_s {P : Nat → Bool} {k n : Nat} (hk : 0 < k) : anf P k n = (P n || anf P (k - 1) (n + 1)) := by
  obtain ⟨k, rfl⟩ : ∃ j, k = j + 1 := ⟨k - 1, by omega⟩
  rfl
def mcpC (w : MV) : Nat := cnt (fun p => anf (fun t => mIs w t && hcr w.1 t p) (mTm w) 0) (mPn w) 0
def msiC (w : MV) : Nat := smN (fun x => cnt (fun y => anf (fun t => mIs w t && hsd w.1 t x y) (mTm w) 0) x 0) (mPn w) 0
def medA (w : MV) : Nat := smN (fun t => if mIs w t = true then cnt (fun k => decide (mnb w t k = none)) 3 0 else 0) (mTm w) 0
def medG (w : MV) : Nat := smN (fun t => if mIs w t = true then cnt (fun k => !god w.1 t k (mnb w t k) (bey w.1 t k)) 3 0 else 0) (mTm w) 0
def mpaC (w : MV) (x : Int32) : Int := if x = 3 then smZ (fun t => if (mIs w t && rgt w.1 t) = true then twi w.1 t else 0) (mTm w) 0 else
  smZ (fun i => smZ (fun j => if x = 2 then ((cnt (fun t => mth w (nI t) && cov w.1 t i j) (mTm w) 0 : Nat) : Int) else if x.toInt < (cnt (fun t => mth w (nI t) && cov w.1 t i j) (mTm w) 0 : Nat) then 1 else 0) 32 0) 32 0
