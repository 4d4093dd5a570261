/-! more of what the class computes -/
def smN (f : Nat → Nat) : Nat → Nat → Nat
  | 0, _ => 0
  | k + 1, n => f n + smN f k (n + 1)
def smZ (f : Nat → Int) : Nat → Nat → Int
  | 0, _ => 0
  | k + 1, n => f n + smZ f k (n + 1)
theorem cnt_0 {P : Nat → Bool} {n : Nat} : cnt P 0 n = 0 := rfl
theorem smN_s {f : Nat → Nat} {k n : Nat} (hk : 0 < k) : smN f k n = f n + smN f (k - 1) (n + 1) := by
  obtain ⟨k, rfl⟩ : ∃ j, k = j + 1 := ⟨k - 1, by omega⟩
  rfl
theorem smZ_s {f : Nat → Int} {k n : Nat} (hk : 0 < k) : smZ f k n = f n + smZ f (k - 1) (n + 1) := by
  obtain ⟨k, rfl⟩ : ∃ j, k = j + 1 := ⟨k - 1, by omega⟩
  rfl
def cir (g : GG) (a b c d : Nat) : Int :=
  ((gx g a - gx g d) * (gx g a - gx g d) + (gy g a - gy g d) * (gy g a - gy g d)) * ((gx g b - gx g d) * (gy g c - gy g d) - (gy g b - gy g d) * (gx g c - gx g d))
    + ((gx g b - gx g d) * (gx g b - gx g d) + (gy g b - gy g d) * (gy g b - gy g d)) * ((gx g c - gx g d) * (gy g a - gy g d) - (gy g c - gy g d) * (gx g a - gx g d))
    + ((gx g c - gx g d) * (gx g c - gx g d) + (gy g c - gy g d) * (gy g c - gy g d)) * ((gx g a - gx g d) * (gy g b - gy g d) - (gy g a - gy g d) * (gx g b - gx g d))
theorem gx_bd {g : GG} (h : okG g) (a d : Nat) : -511 ≤ gx g a - gx g d ∧ gx g a - gx g d ≤ 511 := by
  have h1 := h.1 a; have h2 := h.1 d; unfold gx; omega
theorem gy_bd {g : GG} (h : okG g) (a d : Nat) : -511 ≤ gy g a - gy g d ∧ gy g a - gy g d ≤ 511 := by
  have h1 := h.2.1 a; have h2 := h.2.1 d; unfold gy; omega
theorem cir_t {a b c d e f : Int} (ha : -511 ≤ a ∧ a ≤ 511) (hb : -511 ≤ b ∧ b ≤ 511) (hc : -511 ≤ c ∧ c ≤ 511) (hd : -511 ≤ d ∧ d ≤ 511) (he : -511 ≤ e ∧ e ≤ 511) (hf : -511 ≤ f ∧ f ≤ 511) : -(522242 * 522242) ≤ (a * a + b * b) * (c * d - e * f) ∧ (a * a + b * b) * (c * d - e * f) ≤ 522242 * 522242 := by
  have h1 := mul_bd ha ha; have h2 := mul_bd hb hb; have h3 := mul_bd hc hd; have h4 := mul_bd he hf
  exact mul_bd (a := a * a + b * b) (b := c * d - e * f) ⟨by omega, by omega⟩ ⟨by omega, by omega⟩
theorem cir_lok {g : GG} (h : okG g) {a b c d : Nat} : lOk (cir g a b c d) := by
  have t1 := cir_t (gx_bd h a d) (gy_bd h a d) (gx_bd h b d) (gy_bd h c d) (gy_bd h b d) (gx_bd h c d)
  have t2 := cir_t (gx_bd h b d) (gy_bd h b d) (gx_bd h c d) (gy_bd h a d) (gy_bd h c d) (gx_bd h a d)
  have t3 := cir_t (gx_bd h c d) (gy_bd h c d) (gx_bd h a d) (gy_bd h b d) (gy_bd h a d) (gx_bd h b d)
  unfold lOk cir
  constructor <;> omega
/-- the corner of u beside the edge from f to o -/
def oth (g : GG) (u f o : Nat) : Nat := if gc g u 0 = f ∧ gc g u 1 = o then gc g u 2 else if gc g u 1 = f ∧ gc g u 2 = o then gc g u 0 else gc g u 1
theorem oth_lt {g : GG} (h : okG g) {u f o : Nat} : oth g u f o < 60 := by
  unfold oth; split
  · exact gc_lt h
  · split <;> exact gc_lt h
theorem oth_sum {g : GG} {u f o : Nat} (h : hed g u f o = true) : g.2.2 (3 * u) + g.2.2 (3 * u + 1) + g.2.2 (3 * u + 2) = o + f + oth g u f o := by
  have e0 : gc g u 0 = g.2.2 (3 * u) := rfl
  have e1 : gc g u 1 = g.2.2 (3 * u + 1) := rfl
  have e2 : gc g u 2 = g.2.2 (3 * u + 2) := rfl
  simp [hed] at h
  rw [← e0, ← e1, ← e2]
  unfold oth
  split
  · omega
  · split
    · omega
    · omega
theorem nbr_some {g : GG} {th : Nat → Nat} {tn t k u : Nat} (h : nbr g th tn t k = some u) : ∃ i, i < tn ∧ u = th i ∧ hed g u (gc g t (k + 1)) (gc g t k) = true := by
  unfold nbr at h
  cases hq : nbi g th tn t k with
  | none => rw [hq] at h; cases h
  | some i =>
    rw [hq] at h; cases h
    have := fnd_lt hq
    exact ⟨i, by omega, rfl, this.2.2⟩
def goc (g : GG) (th : Nat → Nat) (tn t k : Nat) : Bool := match nbr g th tn t k with
  | none => true
  | some u => decide (cir g (gc g t k) (gc g t (k + 1)) (gc g t (k + 2)) (oth g u (gc g t (k + 1)) (gc g t k)) ≤ 0)
theorem inB2 {x y : Int32} {n : Nat} (hn : n < 2 ^ 31) (h : (inB x n && inB y n) = true) : (∃ i, i < n ∧ x = nI i) ∧ ∃ j, j < n ∧ y = nI j := by
  simp at h
  exact ⟨inB_of hn h.1, inB_of hn h.2⟩
theorem thB_of {th : Nat → Nat} {tn : Nat} {t : Int32} (h : thB th tn t = true) : ∃ i, i < tn ∧ t = nI (th i) := by
  unfold thB at h
  cases hq : fnd (fun i => decide (nI (th i) = t)) tn 0 with
  | none => rw [hq] at h; cases h
  | some i =>
    have := fnd_lt hq
    simp at this
    exact ⟨i, by omega, this.2.symm⟩
def whoC (v : SV) (x y : Int32) : Option Nat := if (inB x 32 && inB y 32) = true then (fnd (fun n => cov v.1 (sTh v n) x.toNatClampNeg y.toNatClampNeg) (sTn v) 0).map (sTh v) else none
def covC (v : SV) (x y : Int32) : Nat := if (inB x 32 && inB y 32) = true then cnt (fun n => cov v.1 (sTh v n) x.toNatClampNeg y.toNatClampNeg) (sTn v) 0 else 0
def locC (v : SV) (x y : Int32) : Option Nat := if (inB x 512 && inB y 512) = true then (fnd (fun n => rgt v.1 (sTh v n) && has v.1 (sTh v n) x.toInt y.toInt) (sTn v) 0).map (sTh v) else none
def edg (v : SV) (t k : Int32) : Bool := inB k 3 && thB (sTh v) (sTn v) t
theorem edg_of {v : SV} {t k : Int32} (h : (inB k 3 && thB (sTh v) (sTn v) t) = true) : (∃ j, j < 3 ∧ k = nI j) ∧ ∃ i, i < sTn v ∧ t = nI (sTh v i) := by
  simp at h
  exact ⟨inB_of (by decide) h.1, thB_of h.2⟩
def besC (v : SV) (t k : Int32) : Option Nat := if edg v t k = true then nbr v.1 (sTh v) (sTn v) t.toNatClampNeg k.toNatClampNeg else none
def gooC (v : SV) (t k : Int32) : Bool := edg v t k && goc v.1 (sTh v) (sTn v) t.toNatClampNeg k.toNatClampNeg
def corC (v : SV) (t k : Int32) : Option Nat := if edg v t k = true then some (gc v.1 t.toNatClampNeg k.toNatClampNeg) else none
def culC (v : SV) (x : Int32) : Int32 := if x = 0 then sFa v else if x = 1 then sFb v else iI (-1)
def lonC (v : SV) : Nat := smN (fun i => cnt (fun k => decide (nbr v.1 (sTh v) (sTn v) (sTh v i) k = none)) 3 0) (sTn v) 0
def badC (v : SV) : Nat := smN (fun i => cnt (fun k => !goc v.1 (sTh v) (sTn v) (sTh v i) k) 3 0) (sTn v) 0
def sotC (v : SV) : Int := smZ (fun i => max (((0 : Nat)) : Int) (twi v.1 (sTh v i))) (sTn v) 0
theorem mmax_0z {a : Int} (h : zOk a) : (if nI 0 < iI a then iI a else nI 0) = iI (max (((0 : Nat) : Int)) a) := by
  have e : (((0 : Nat) : Int)) = 0 := rfl
  by_cases hq : 0 < a
  · have q : nI 0 < iI a := (nz_lt (a := 0) (by decide) h).mpr (by omega)
    rw [if_pos q]; congr 1; omega
  · have q : ¬ nI 0 < iI a := fun q => hq (by have := (nz_lt (a := 0) (by decide) h).mp q; omega)
    rw [if_neg q, nI_z]; congr 1; omega
theorem max0_ok {a : Int} (h : zOk a) : zOk (max (((0 : Nat) : Int)) a) := by
  have h1 := h.1; have h2 := h.2
  have e : (((0 : Nat) : Int)) = 0 := rfl
  unfold zOk
  omega
