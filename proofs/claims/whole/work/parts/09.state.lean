/-! WHAT A STATE IS: the places of the points, the corners; for the class and for the reference a list of cells -/
abbrev GG : Type := (Nat → Nat) × (Nat → Nat) × (Nat → Nat)
/-- the class: geometry, points, the list of those there, how many, how many came, the scratch rows, the culprits -/
abbrev SV : Type := GG × Nat × (Nat → Nat) × Nat × Nat × (Nat → Int64) × (Nat → Nat) × Int32 × Int32
abbrev sPn (v : SV) : Nat := v.2.1
abbrev sTh (v : SV) : Nat → Nat := v.2.2.1
abbrev sTn (v : SV) : Nat := v.2.2.2.1
abbrev sTm (v : SV) : Nat := v.2.2.2.2.1
abbrev sJo (v : SV) : Nat → Int64 := v.2.2.2.2.2.1
abbrev sPi (v : SV) : Nat → Nat := v.2.2.2.2.2.2.1
abbrev sFa (v : SV) : Int32 := v.2.2.2.2.2.2.2.1
abbrev sFb (v : SV) : Int32 := v.2.2.2.2.2.2.2.2
/-- the reference: geometry, thrown, points, came, there, which are there, culprits, marks -/
abbrev MV : Type := GG × Int32 × Nat × Nat × Nat × (Nat → Bool) × Int32 × Int32 × (Nat → Nat)
abbrev mThr (w : MV) : Int32 := w.2.1
abbrev mPn (w : MV) : Nat := w.2.2.1
abbrev mTm (w : MV) : Nat := w.2.2.2.1
abbrev mTn (w : MV) : Nat := w.2.2.2.2.1
abbrev mIs (w : MV) : Nat → Bool := w.2.2.2.2.2.1
abbrev mFi (w : MV) : Int32 := w.2.2.2.2.2.2.1
abbrev mSe (w : MV) : Int32 := w.2.2.2.2.2.2.2.1
abbrev mMk (w : MV) : Nat → Nat := w.2.2.2.2.2.2.2.2
abbrev tyS (cI cL cZ : ClassId) : List (ClassId × FieldType) := [(cI, .int), (cL, .long), (cZ, .boolean)]
abbrev wS (cI cL : ClassId) (a : Nat → Nat) (v : SV) : va_W := [(a 0, .inr (2, [.ref (a 1), .ref (a 4), .ref (a 7), .ref (a 8), .int (sFa v), .int (sFb v)])), (a 1, .inr (0, [.ref (a 2), .ref (a 3), .int (nI (sPn v))])), (a 2, .inl (cI, 60, .inl (fun j => nI (v.1.1 j)))), (a 3, .inl (cI, 60, .inl (fun j => nI (v.1.2.1 j)))), (a 4, .inr (1, [.ref (a 5), .ref (a 6), .int (nI (sTn v)), .int (nI (sTm v))])), (a 5, .inl (cI, 600, .inl (fun j => nI (v.1.2.2 j)))), (a 6, .inl (cI, 60, .inl (fun j => nI (sTh v j)))), (a 7, .inl (cL, 60, .inr (.inl (sJo v)))), (a 8, .inl (cI, 200, .inl (fun j => nI (sPi v j))))]
abbrev wM (cI cZ : ClassId) (b : Nat → Nat) (w : MV) : va_W := [(b 0, .inr (3, [.int (mThr w), .int (nI (mPn w)), .int (nI (mTm w)), .int (nI (mTn w)), .ref (b 1), .ref (b 2), .ref (b 3), .ref (b 4), .int (mFi w), .int (mSe w), .ref (b 5)])), (b 1, .inl (cI, 60, .inl (fun j => nI (w.1.1 j)))), (b 2, .inl (cI, 60, .inl (fun j => nI (w.1.2.1 j)))), (b 3, .inl (cZ, 200, .inl (fun j => bI (mIs w j)))), (b 4, .inl (cI, 600, .inl (fun j => nI (w.1.2.2 j)))), (b 5, .inl (cI, 200, .inl (fun j => nI (mMk w j))))]
/-- every number in its range, wherever one looks -/
def okG (g : GG) : Prop := (∀ j, g.1 j < 512) ∧ (∀ j, g.2.1 j < 512) ∧ ∀ j, g.2.2 j < 60
def okS (v : SV) : Prop := okG v.1 ∧ sPn v ≤ 60 ∧ (∀ j, sTh v j < 200) ∧ sTn v ≤ 60 ∧ sTm v ≤ 200 ∧ ∀ j, sPi v j < 200
def okM (w : MV) : Prop := okG w.1 ∧ mPn w ≤ 60 ∧ mTm w ≤ 200 ∧ mTn w ≤ 60 ∧ ∀ j, mMk w j < 200
/-! the mathematics that both speak of -/
def gx (g : GG) (p : Nat) : Int := (g.1 p : Int)
def gy (g : GG) (p : Nat) : Int := (g.2.1 p : Int)
def gc (g : GG) (t k : Nat) : Nat := g.2.2 (3 * t + k % 3)
def trn (ax ay bx b_y cx cy : Int) : Int := (bx - ax) * (cy - ay) - (b_y - ay) * (cx - ax)
def tat (g : GG) (p q : Nat) (x y : Int) : Int := trn (gx g p) (gy g p) (gx g q) (gy g q) x y
def tof (g : GG) (p q r : Nat) : Int := tat g p q (gx g r) (gy g r)
def twi (g : GG) (t : Nat) : Int := tof g (gc g t 0) (gc g t 1) (gc g t 2)
def rgt (g : GG) (t : Nat) : Bool := decide (0 < twi g t)
def tbe (g : GG) (t k : Nat) (x y : Int) : Int := tat g (gc g t k) (gc g t (k + 1)) x y
/-- for all / some / the first of the numbers n, n + 1, .. (k of them) -/
def fnd (P : Nat → Bool) : Nat → Nat → Option Nat
  | 0, _ => none
  | k + 1, n => if P n = true then some n else fnd P k (n + 1)
def alf (P : Nat → Bool) : Nat → Nat → Bool
  | 0, _ => true
  | k + 1, n => P n && alf P k (n + 1)
def cnt (P : Nat → Bool) : Nat → Nat → Nat
  | 0, _ => 0
  | k + 1, n => (if P n = true then 1 else 0) + cnt P k (n + 1)
theorem fnd_hit {P : Nat → Bool} {k n : Nat} (hk : 0 < k) (h : P n = true) : fnd P k n = some n := by
  obtain ⟨k, rfl⟩ : ∃ j, k = j + 1 := ⟨k - 1, by omega⟩
  simp [fnd, h]
theorem fnd_miss {P : Nat → Bool} {k n : Nat} (hk : 0 < k) (h : P n = false) : fnd P k n = fnd P (k - 1) (n + 1) := by
  obtain ⟨k, rfl⟩ : ∃ j, k = j + 1 := ⟨k - 1, by omega⟩
  simp [fnd, h]
theorem fnd_lt {P : Nat → Bool} : ∀ {k n j : Nat}, fnd P k n = some j → n ≤ j ∧ j < n + k ∧ P j = true
  | 0, n, j, h => by simp [fnd] at h
  | k + 1, n, j, h => by
    by_cases hp : P n = true
    · simp [fnd, hp] at h; subst h; exact ⟨by omega, by omega, hp⟩
    · rw [fnd, if_neg hp] at h
      have := fnd_lt h
      exact ⟨by omega, by omega, this.2.2⟩
theorem alf_t {P : Nat → Bool} {k n : Nat} (hk : 0 < k) (h : P n = true) : alf P k n = alf P (k - 1) (n + 1) := by
  obtain ⟨k, rfl⟩ : ∃ j, k = j + 1 := ⟨k - 1, by omega⟩
  simp [alf, h]
theorem alf_f {P : Nat → Bool} {k n : Nat} (hk : 0 < k) (h : P n = false) : alf P k n = false := by
  obtain ⟨k, rfl⟩ : ∃ j, k = j + 1 := ⟨k - 1, by omega⟩
  simp [alf, h]
theorem cnt_t {P : Nat → Bool} {k n : Nat} (hk : 0 < k) (h : P n = true) : cnt P k n = 1 + cnt P (k - 1) (n + 1) := by
  obtain ⟨k, rfl⟩ : ∃ j, k = j + 1 := ⟨k - 1, by omega⟩
  simp [cnt, h]
theorem cnt_f {P : Nat → Bool} {k n : Nat} (hk : 0 < k) (h : P n = false) : cnt P k n = cnt P (k - 1) (n + 1) := by
  obtain ⟨k, rfl⟩ : ∃ j, k = j + 1 := ⟨k - 1, by omega⟩
  simp [cnt, h]
theorem cnt_le {P : Nat → Bool} : ∀ {k n : Nat}, cnt P k n ≤ k
  | 0, n => by simp [cnt]
  | k + 1, n => by
    have := cnt_le (P := P) (k := k) (n := n + 1)
    rw [cnt]; split <;> omega
/-- none is -1 -/
def oI : Option Nat → Int32
  | none => iI (-1)
  | some k => nI k
theorem zOk_m1 : zOk (-1) := ⟨by decide, by decide⟩
theorem oI_m1 {x : Option Nat} (h : ∀ k, x = some k → k < 2 ^ 31) : oI x = iI (-1) ↔ x = none := by
  cases x with
  | none => simp [oI]
  | some k =>
    have := h k rfl
    constructor
    · intro q
      have q2 : (k : Int) = -1 := (nz_eq this zOk_m1).mp q
      omega
    · intro q; cases q
theorem rb_1 {b : Bool} (h : b = true) : Value.int (nI 1) = .int (bI b) := by subst h; rfl
theorem rb_0 {b : Bool} (h : b = false) : Value.int (nI 0) = .int (bI b) := by subst h; rfl
theorem rO {x : Int32} {o : Option Nat} (h : x = oI o) : Value.int x = .int (oI o) := by rw [h]
/-- a place: 0 ≤ p < n -/
def inB (p : Int32) (n : Nat) : Bool := decide (0 ≤ p.toInt ∧ p.toInt < n)
theorem inB_neg {p : Int32} {n : Nat} (h : p < 0) : inB p n = false := by
  rw [Int32.lt_iff_toInt_lt, Int32.toInt_zero] at h
  simp [inB]; omega
theorem inB_big {p : Int32} {n : Nat} (hn : n < 2 ^ 31) (h : nI n ≤ p) : inB p n = false := by
  rw [Int32.le_iff_toInt_le, nI_toInt hn] at h
  simp [inB]; omega
theorem inB_in {p : Int32} {n : Nat} (hn : n < 2 ^ 31) (h0 : ¬ p < 0) (h : ¬ nI n ≤ p) : inB p n = true := by
  rw [Int32.le_iff_toInt_le, nI_toInt hn] at h
  rw [Int32.lt_iff_toInt_lt, Int32.toInt_zero] at h0
  simp [inB]; omega
theorem inB_of {p : Int32} {n : Nat} (hn : n < 2 ^ 31) (h : inB p n = true) : ∃ j, j < n ∧ p = nI j := by
  simp [inB] at h
  refine ⟨p.toInt.toNat, by omega, Int32.toInt_inj.mp ?_⟩
  rw [nI_toInt (by omega)]; omega
theorem inB_nI {j n : Nat} (hj : j < 2 ^ 31) : inB (nI j) n = decide (j < n) := by
  unfold inB; rw [nI_toInt hj]; congr 1; simp
/-- the point at a place -/
def pAt (g : GG) (pn : Nat) (x y : Int32) : Option Nat := fnd (fun p => decide (nI (g.1 p) = x) && decide (nI (g.2.1 p) = y)) pn 0
theorem pAt_lt {g : GG} {pn : Nat} {x y : Int32} {k : Nat} (h : pAt g pn x y = some k) : k < pn := by
  have := fnd_lt h; omega
def opp (a b : Int) : Bool := (decide (a < 0) && decide (0 < b)) || (decide (0 < a) && decide (b < 0))
def crs (g : GG) (p q r s : Nat) : Bool := opp (tof g p q r) (tof g p q s) && opp (tof g r s p) (tof g r s q)
theorem mul_bd {a b A B : Int} (ha : -A ≤ a ∧ a ≤ A) (hb : -B ≤ b ∧ b ≤ B) : -(A * B) ≤ a * b ∧ a * b ≤ A * B := by
  have h1 : 0 ≤ (A - a) * (B - b) := Int.mul_nonneg (by omega) (by omega)
  have h2 : 0 ≤ (A + a) * (B + b) := Int.mul_nonneg (by omega) (by omega)
  have h3 : 0 ≤ (A - a) * (B + b) := Int.mul_nonneg (by omega) (by omega)
  have h4 : 0 ≤ (A + a) * (B - b) := Int.mul_nonneg (by omega) (by omega)
  simp only [Int.sub_mul, Int.add_mul, Int.mul_sub, Int.mul_add] at h1 h2 h3 h4
  constructor <;> omega
theorem trn_ok {ax ay bx b_y cx cy : Int} (h1 : 0 ≤ ax ∧ ax < 512) (h2 : 0 ≤ ay ∧ ay < 512) (h3 : 0 ≤ bx ∧ bx < 512) (h4 : 0 ≤ b_y ∧ b_y < 512) (h5 : 0 ≤ cx ∧ cx < 512) (h6 : 0 ≤ cy ∧ cy < 512) : zOk (trn ax ay bx b_y cx cy) := by
  have a1 := mul_bd (a := bx - ax) (b := cy - ay) (A := 511) (B := 511) ⟨by omega, by omega⟩ ⟨by omega, by omega⟩
  have a2 := mul_bd (a := b_y - ay) (b := cx - ax) (A := 511) (B := 511) ⟨by omega, by omega⟩ ⟨by omega, by omega⟩
  unfold zOk trn
  constructor <;> omega
theorem tat_ok {g : GG} (h : okG g) {p q : Nat} {x y : Nat} (hx : x < 512) (hy : y < 512) : zOk (tat g p q (x : Int) (y : Int)) := by
  have h1 := h.1 p; have h2 := h.1 q; have h3 := h.2.1 p; have h4 := h.2.1 q
  unfold tat gx gy
  exact trn_ok ⟨by omega, by omega⟩ ⟨by omega, by omega⟩ ⟨by omega, by omega⟩ ⟨by omega, by omega⟩ ⟨by omega, by omega⟩ ⟨by omega, by omega⟩
theorem tof_ok {g : GG} (h : okG g) {p q r : Nat} : zOk (tof g p q r) := tat_ok h (h.1 r) (h.2.1 r)
theorem gc_lt {g : GG} (h : okG g) {t k : Nat} : gc g t k < 60 := h.2.2 _
/-! of triangles -/
def hcr (g : GG) (t p : Nat) : Bool := decide (gc g t 0 = p) || (decide (gc g t 1 = p) || decide (gc g t 2 = p))
def hed (g : GG) (t f o : Nat) : Bool := (decide (gc g t 0 = f) && decide (gc g t 1 = o)) || ((decide (gc g t 1 = f) && decide (gc g t 2 = o)) || (decide (gc g t 2 = f) && decide (gc g t 0 = o)))
def thB (th : Nat → Nat) (tn : Nat) (t : Int32) : Bool := (fnd (fun i => decide (nI (th i) = t)) tn 0).isSome
def nbi (g : GG) (th : Nat → Nat) (tn t k : Nat) : Option Nat := fnd (fun i => hed g (th i) (gc g t (k + 1)) (gc g t k)) tn 0
def nbr (g : GG) (th : Nat → Nat) (tn t k : Nat) : Option Nat := (nbi g th tn t k).map th
theorem mmin_n {x y : Nat} (hx : x < 2 ^ 31) (hy : y < 2 ^ 31) : (if nI y < nI x then nI y else nI x) = nI (min x y) := by
  by_cases h : y < x
  · rw [if_pos ((nI_ltI hy hx).mpr h)]; congr 1; omega
  · rw [if_neg (fun q => h ((nI_ltI hy hx).mp q))]; congr 1; omega
theorem mmax_n {x y : Nat} (hx : x < 2 ^ 31) (hy : y < 2 ^ 31) : (if nI x < nI y then nI y else nI x) = nI (max x y) := by
  by_cases h : x < y
  · rw [if_pos ((nI_ltI hx hy).mpr h)]; congr 1; omega
  · rw [if_neg (fun q => h ((nI_ltI hx hy).mp q))]; congr 1; omega
section LOOPS
variable {p : Program} {l : Launch} {e : Env} {R : Room} {s : State} {m : MethodId} {args : Array Value} {below : List Frame} {meth : Method} {c : Code} {H : Heap} {locs : List Loc} {cells slots : Nat} {Q : State → Prop} {pc nL : Nat} {st : List Value}
/-- a loop that leaves the heap alone: fuel, its own state, the locals by the state -/
theorem lp {σ : Type} {LV : σ → List (Nat × Value)} {I : Nat → σ → Prop}
    (h : ∀ (k : Nat) (x : σ) (ls : Array Slot), I k x → lv_has ls nL (LV x) → (∀ (k' : Nat) (x' : σ) (ls' : Array Slot), k' < k → I k' x' → lv_has ls' nL (LV x') → W p l e R s m args below meth c H locs cells slots Q (F0 m pc ls' st)) → W p l e R s m args below meth c H locs cells slots Q (F0 m pc ls st))
    (k : Nat) (x : σ) (ls : Array Slot) (hi : I k x) (hl : lv_has ls nL (LV x)) : W p l e R s m args below meth c H locs cells slots Q (F0 m pc ls st) := by
  induction k using Nat.strongRecOn generalizing x ls with
  | ind k ih => exact h k x ls hi hl (fun k' x' ls' hk hi' hl' => ih k' hk x' ls' hi' hl')
end LOOPS
theorem nbr_lt {v : SV} (hv : okS v) {t j k : Nat} (h : nbr v.1 (sTh v) (sTn v) t j = some k) : k < 200 := by
  unfold nbr at h
  cases hq : nbi v.1 (sTh v) (sTn v) t j with
  | none => rw [hq] at h; cases h
  | some i => rw [hq] at h; cases h; exact hv.2.2.1 i
theorem z0_eq {a : Int} (h : zOk a) : iI a = 0 ↔ a = 0 := zz_eq (b := 0) h ⟨by decide, by decide⟩
theorem z0_lt {a : Int} (h : zOk a) : iI a < 0 ↔ a < 0 := zz_lt (b := 0) h ⟨by decide, by decide⟩
theorem z0_le {a : Int} (h : zOk a) : iI a ≤ 0 ↔ a ≤ 0 := zz_le (b := 0) h ⟨by decide, by decide⟩
theorem l0_lt {a : Int} (h : zOk a) : 0 < iI a ↔ 0 < a := zz_lt (a := 0) ⟨by decide, by decide⟩ h
theorem l0_le {a : Int} (h : zOk a) : 0 ≤ iI a ↔ 0 ≤ a := zz_le (a := 0) ⟨by decide, by decide⟩ h
