/-! what the class's own methods compute of a state -/
def has (g : GG) (t : Nat) (x y : Int) : Bool := alf (fun k => decide (0 ≤ tbe g t k x y)) 3 0
def wit (g : GG) (t : Nat) (x y : Int) : Bool := alf (fun k => decide (0 < tbe g t k x y)) 3 0
def own (g : GG) (t k : Nat) : Bool := decide (g.2.1 (gc g t (k + 1)) < g.2.1 (gc g t k)) || (decide (g.2.1 (gc g t (k + 1)) = g.2.1 (gc g t k)) && decide (g.1 (gc g t (k + 1)) < g.1 (gc g t k)))
def lie (g : GG) (t : Nat) (x y : Int) : Bool := alf (fun k => decide (0 < tbe g t k x y) || (decide (tbe g t k x y = 0) && own g t k)) 3 0
def cov (g : GG) (t i j : Nat) : Bool := rgt g t && lie g t ((16 * i + 8 : Nat) : Int) ((16 * j + 8 : Nat) : Int)
def lef (g : GG) (t : Nat) : Nat := min (g.1 (gc g t 0)) (min (g.1 (gc g t 1)) (g.1 (gc g t 2)))
def rig (g : GG) (t : Nat) : Nat := max (g.1 (gc g t 0)) (max (g.1 (gc g t 1)) (g.1 (gc g t 2)))
def low (g : GG) (t : Nat) : Nat := min (g.2.1 (gc g t 0)) (min (g.2.1 (gc g t 1)) (g.2.1 (gc g t 2)))
def hig (g : GG) (t : Nat) : Nat := max (g.2.1 (gc g t 0)) (max (g.2.1 (gc g t 1)) (g.2.1 (gc g t 2)))
def far (g : GG) (t u : Nat) : Bool := decide (rig g t < lef g u) || (decide (rig g u < lef g t) || (decide (hig g t < low g u) || decide (hig g u < low g t)))
def sam (g : GG) (t u : Nat) : Bool := alf (fun k => hcr g u (gc g t k)) 3 0
def rea (g : GG) (t u : Nat) : Bool := (fnd (fun k => !hcr g u (gc g t k) && has g u (gx g (gc g t k)) (gy g (gc g t k))) 3 0).isSome
def cr1 (g : GG) (t u k : Nat) : Bool := (fnd (fun m => crs g (gc g t k) (gc g t (k + 1)) (gc g u m) (gc g u (m + 1))) 3 0).isSome
def cre (g : GG) (t u : Nat) : Bool := (fnd (fun k => cr1 g t u k) 3 0).isSome
def tid (g : GG) (t u : Nat) : Bool := far g t u || (!sam g t u && (!rea g t u && (!rea g u t && !cre g t u)))
def fub (g : GG) (th : Nat → Nat) (i : Nat) : Option Nat := (fnd (fun j => !tid g (th i) (th j)) i 0).map th
theorem lef_lt {g : GG} (h : okG g) {t : Nat} : lef g t < 512 := by have := h.1 (gc g t 0); unfold lef; omega
theorem rig_lt {g : GG} (h : okG g) {t : Nat} : rig g t < 512 := by have := h.1 (gc g t 0); have := h.1 (gc g t 1); have := h.1 (gc g t 2); unfold rig; omega
theorem low_lt {g : GG} (h : okG g) {t : Nat} : low g t < 512 := by have := h.2.1 (gc g t 0); unfold low; omega
theorem hig_lt {g : GG} (h : okG g) {t : Nat} : hig g t < 512 := by have := h.2.1 (gc g t 0); have := h.2.1 (gc g t 1); have := h.2.1 (gc g t 2); unfold hig; omega
theorem fub_lt {v : SV} (hv : okS v) {i k : Nat} (h : fub v.1 (sTh v) i = some k) : k < 200 := by
  unfold fub at h
  cases hq : fnd (fun j => !tid v.1 (sTh v i) (sTh v j)) i 0 with
  | none => rw [hq] at h; cases h
  | some j => rw [hq] at h; cases h; exact hv.2.2.1 j
