/-! more of the reference: parts, improvements, what is painted -/
abbrev mPt (w : MV) (x y : Nat) : MV := (gMov w.1 (mPn w) x y, nI 0, mPn w + 1, w.2.2.2)
abbrev mPar (w : MV) (t x y : Nat) : MV := mAdd (mAdd (mSet (mPt (mThx w (nI 0)) x y) t (gc w.1 t 0) (gc w.1 t 1) (mPn w)) (gc w.1 t 1) (gc w.1 t 2) (mPn w)) (gc w.1 t 2) (gc w.1 t 0) (mPn w)
def mimp : Nat → MV → Nat × MV
  | 0, w => (0, w)
  | k + 1, w => if (mfi w).isSome = true then ((mimp k (mfS w)).1 + 1, (mimp k (mfS w)).2) else (0, w)
theorem mimp_t {k : Nat} {w : MV} (hk : 0 < k) (h : (mfi w).isSome = true) : mimp k w = ((mimp (k - 1) (mfS w)).1 + 1, (mimp (k - 1) (mfS w)).2) := by
  obtain ⟨k, rfl⟩ : ∃ j, k = j + 1 := ⟨k - 1, by omega⟩
  simp [mimp, h]
theorem mimp_f {k : Nat} {w : MV} (h : (mfi w).isSome = false) : mimp k w = (0, w) := by
  cases k with
  | zero => rfl
  | succ k => simp [mimp, h]
theorem okG_put {g : GG} (h : okG g) {t x y z : Nat} (hx : x < 60) (hy : y < 60) (hz : z < 60) : okG (gPut g t x y z) := ⟨h.1, h.2.1, up_lt (up_lt (up_lt h.2.2 hx) hy) hz⟩
theorem okG_mov {g : GG} (h : okG g) {q x y : Nat} (hx : x < 512) (hy : y < 512) : okG (gMov g q x y) := ⟨up_lt h.1 hx, up_lt h.2.1 hy, h.2.2⟩
theorem okG_gTu {g : GG} (h : okG g) {t k u d : Nat} (hd : d < 60) : okG (gTu g t k u d) := okG_put (okG_put h (gc_lt h) (gc_lt h) hd) hd (gc_lt h) (gc_lt h)
theorem mtS_ok {w : MV} (h : okM w) {t k : Nat} : okM (mtS w t k) := by
  unfold mtS
  cases hq : mnb w t k with
  | none => exact h
  | some u =>
    simp only
    split
    · exact ⟨okG_gTu h.1 (gc_lt h.1), h.2⟩
    · exact h
theorem mtS_2 {w : MV} {t k : Nat} : (mtS w t k).2 = w.2 := by
  unfold mtS
  cases hq : mnb w t k with
  | none => rfl
  | some u => simp only; split <;> rfl
theorem mfS_ok {w : MV} (h : okM w) : okM (mfS w) := by
  unfold mfS
  split
  · exact h
  · split
    · exact h
    · exact mtS_ok h
theorem mfS_2 {w : MV} : (mfS w).2 = w.2 := by
  unfold mfS
  split
  · rfl
  · split
    · rfl
    · exact mtS_2
def mp3 (w : MV) : Int := smZ (fun t => if (mIs w t && rgt w.1 t) = true then twi w.1 t else 0) (mTm w) 0
def hmC (w : MV) (i j : Nat) : Nat := cnt (fun t => mth w (nI t) && cov w.1 t i j) (mTm w) 0
def mpx (w : MV) (x : Nat) : Int := smZ (fun i => smZ (fun j => if x = 2 then ((hmC w i j : Nat) : Int) else if x < hmC w i j then 1 else 0) 32 0) 32 0
theorem smZ_0 {f : Nat → Int} {n : Nat} : smZ f 0 n = 0 := rfl
theorem hmC_le {w : MV} {i j : Nat} : hmC w i j ≤ mTm w := cnt_le
theorem mfS_n {w : MV} (h : (mfi w).isSome = false) : mfS w = w := by
  unfold mfS
  cases hq : mfi w with
  | none => rfl
  | some t => rw [hq] at h; cases h
