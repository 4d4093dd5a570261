/-! how the states change -/
abbrev up3 (f : Nat → Nat) (t x y z : Nat) : Nat → Nat := va_up (va_up (va_up f (3 * t) x) (3 * t + 1) y) (3 * t + 2) z
abbrev gPut (g : GG) (t x y z : Nat) : GG := (g.1, g.2.1, up3 g.2.2 t x y z)
abbrev gMov (g : GG) (q x y : Nat) : GG := (va_up g.1 q x, va_up g.2.1 q y, g.2.2)
abbrev sPut (v : SV) (q x y : Nat) : SV := (gMov v.1 q x y, v.2)
abbrev sAddP (v : SV) (x y : Nat) : SV := (gMov v.1 (sPn v) x y, sPn v + 1, v.2.2)
abbrev sPutT (v : SV) (t x y z : Nat) : SV := (gPut v.1 t x y z, v.2)
abbrev sAddT (v : SV) (x y z : Nat) : SV := (gPut v.1 (sTm v) x y z, sPn v, va_up (sTh v) (sTn v) (sTm v), sTn v + 1, sTm v + 1, v.2.2.2.2.2)
def rmv (t : Nat) : Nat → (Nat → Nat) → Nat → Nat → (Nat → Nat) × Nat
  | 0, f, _, kp => (f, kp)
  | k + 1, f, i, kp => if f i = t then rmv t k f (i + 1) kp else rmv t k (va_up f kp (f i)) (i + 1) (kp + 1)
theorem rmv_t {t k : Nat} {f : Nat → Nat} {i kp : Nat} (hk : 0 < k) (h : f i = t) : rmv t k f i kp = rmv t (k - 1) f (i + 1) kp := by
  obtain ⟨k, rfl⟩ : ∃ j, k = j + 1 := ⟨k - 1, by omega⟩
  simp [rmv, h]
theorem rmv_f {t k : Nat} {f : Nat → Nat} {i kp : Nat} (hk : 0 < k) (h : ¬ f i = t) : rmv t k f i kp = rmv t (k - 1) (va_up f kp (f i)) (i + 1) (kp + 1) := by
  obtain ⟨k, rfl⟩ : ∃ j, k = j + 1 := ⟨k - 1, by omega⟩
  simp [rmv, h]
abbrev sRem (v : SV) (t : Nat) : SV := (v.1, sPn v, (rmv t (sTn v) (sTh v) 0 0).1, (rmv t (sTn v) (sTh v) 0 0).2, sTm v, v.2.2.2.2.2)
abbrev sCul (v : SV) (x y : Int32) : SV := (v.1, sPn v, sTh v, sTn v, sTm v, sJo v, sPi v, x, y)
theorem up_lt {f : Nat → Nat} {N k x : Nat} (h : ∀ j, f j < N) (hx : x < N) : ∀ j, va_up f k x j < N := by
  intro j; unfold va_up; split
  · exact hx
  · exact h j
def fai (g : GG) (th : Nat → Nat) (tn : Nat) : Option Nat := fnd (fun i => !rgt g (th i) || (fub g th i).isSome) tn 0
def faR (v : SV) : Nat := match fai v.1 (sTh v) (sTn v) with
  | none => 0
  | some i => if rgt v.1 (sTh v i) = true then 2 else 1
def faS (v : SV) : SV := match fai v.1 (sTh v) (sTn v) with
  | none => v
  | some i => if rgt v.1 (sTh v i) = true then sCul v (nI (sTh v i)) (oI (fub v.1 (sTh v) i)) else sCul v (nI (sTh v i)) (iI (-1))
def tub (g : GG) (t k d : Nat) : Bool := decide (0 < tof g (gc g t k) d (gc g t (k + 2))) && decide (0 < tof g d (gc g t (k + 1)) (gc g t (k + 2)))
def gTu (g : GG) (t k u d : Nat) : GG := gPut (gPut g t (gc g t (k + 2)) (gc g t k) d) u d (gc g t (k + 1)) (gc g t (k + 2))
def tuB (g : GG) (th : Nat → Nat) (tn t k : Nat) : Bool := match nbr g th tn t k with
  | none => false
  | some u => tub g t k (oth g u (gc g t (k + 1)) (gc g t k))
def tuS (v : SV) (t k : Nat) : SV := match nbr v.1 (sTh v) (sTn v) t k with
  | none => v
  | some u => if tub v.1 t k (oth v.1 u (gc v.1 t (k + 1)) (gc v.1 t k)) = true then (gTu v.1 t k u (oth v.1 u (gc v.1 t (k + 1)) (gc v.1 t k)), v.2) else v
theorem tuS_f {v : SV} {t k : Nat} (h : tuB v.1 (sTh v) (sTn v) t k = false) : tuS v t k = v := by
  unfold tuB at h; unfold tuS
  cases hq : nbr v.1 (sTh v) (sTn v) t k with
  | none => rfl
  | some u => rw [hq] at h; simp only at h ⊢; rw [if_neg (by rw [h]; decide)]
def tfk (g : GG) (th : Nat → Nat) (tn i : Nat) : Option Nat := fnd (fun k => !goc g th tn (th i) k && tuB g th tn (th i) k) 3 0
def tfi (g : GG) (th : Nat → Nat) (tn : Nat) : Option Nat := fnd (fun i => (tfk g th tn i).isSome) tn 0
def tfS (v : SV) : SV := match tfi v.1 (sTh v) (sTn v) with
  | none => v
  | some i => match tfk v.1 (sTh v) (sTn v) i with
    | none => v
    | some k => tuS v (sTh v i) k
/-! the reference's -/
abbrev mThx (w : MV) (x : Int32) : MV := (w.1, x, w.2.2)
abbrev mSet (w : MV) (t x y z : Nat) : MV := (gPut w.1 t x y z, w.2)
abbrev mAdd (w : MV) (x y z : Nat) : MV := (gPut w.1 (mTm w) x y z, mThr w, mPn w, mTm w + 1, mTn w + 1, va_up (mIs w) (mTm w) true, w.2.2.2.2.2.2)
abbrev mCul (w : MV) (x y : Int32) : MV := (w.1, mThr w, mPn w, mTm w, mTn w, mIs w, x, y, mMk w)
def mtB (w : MV) (t k : Nat) : Bool := match mnb w t k with
  | none => false
  | some u => tub w.1 t k (bey w.1 t k u)
def mtS (w : MV) (t k : Nat) : MV := match mnb w t k with
  | none => w
  | some u => if tub w.1 t k (bey w.1 t k u) = true then (gTu w.1 t k u (bey w.1 t k u), w.2) else w
theorem mtS_f {w : MV} {t k : Nat} (h : mtB w t k = false) : mtS w t k = w := by
  unfold mtB at h; unfold mtS
  cases hq : mnb w t k with
  | none => rfl
  | some u => rw [hq] at h; simp only at h ⊢; rw [if_neg (by rw [h]; decide)]
def mfk (w : MV) (t : Nat) : Option Nat := fnd (fun k => !god w.1 t k (mnb w t k) (bey w.1 t k) && mtB w t k) 3 0
def mfi (w : MV) : Option Nat := fnd (fun t => mIs w t && (mfk w t).isSome) (mTm w) 0
def mfS (w : MV) : MV := match mfi w with
  | none => w
  | some t => match mfk w t with
    | none => w
    | some k => mtS w t k
