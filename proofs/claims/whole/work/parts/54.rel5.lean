/-! tidy pairs, and the first fault -/
theorem twi_rot {g : GG} {u j : Nat} (hj : j < 3) : trn (gx g (gc g u j)) (gy g (gc g u j)) (gx g (gc g u (j + 1))) (gy g (gc g u (j + 1))) (gx g (gc g u (j + 2))) (gy g (gc g u (j + 2))) = twi g u := by
  show _ = trn (gx g (gc g u 0)) (gy g (gc g u 0)) (gx g (gc g u 1)) (gy g (gc g u 1)) (gx g (gc g u 2)) (gy g (gc g u 2))
  rcases (show j = 0 ∨ j = 1 ∨ j = 2 by omega) with rfl | rfl | rfl
  · rfl
  · simp only [Nat.reduceAdd, gc_3]; unfold trn; grind
  · simp only [Nat.reduceAdd, gc_3, gc_4]; unfold trn; grind
theorem has_of {g : GG} {u j : Nat} {x y : Int} (hj : j < 3) (h0 : 0 ≤ tbe g u j x y) (h1 : 0 ≤ tbe g u (j + 1) x y) (h2 : 0 ≤ tbe g u (j + 2) x y) : has g u x y = true := by
  rw [has_iff]
  have e3 : tbe g u 3 x y = tbe g u 0 x y := rfl
  have e4 : tbe g u 4 x y = tbe g u 1 x y := rfl
  rcases (show j = 0 ∨ j = 1 ∨ j = 2 by omega) with rfl | rfl | rfl
  · exact ⟨h0, h1, h2⟩
  · exact ⟨h2, h0, h1⟩
  · exact ⟨h1, h2, h0⟩
theorem bet_iff {g : GG} {p a b : Nat} : bet g p a b = true ↔ tof g a b p = 0 ∧ (min (gx g a) (gx g b) ≤ gx g p ∧ gx g p ≤ max (gx g a) (gx g b)) ∧ (min (gy g a) (gy g b) ≤ gy g p ∧ gy g p ≤ max (gy g a) (gy g b)) := by
  unfold bet gx gy
  simp only [Bool.and_eq_true, decide_eq_true_eq]
  constructor
  · rintro ⟨h1, h2, h3, h4, h5⟩; exact ⟨h1, by omega, by omega⟩
  · rintro ⟨h1, h2, h3⟩; exact ⟨h1, by omega, by omega, by omega, by omega⟩
theorem has_on {g : GG} {u j a : Nat} (hr : 0 < twi g u) (hj : j < 3) (hb : bet g a (gc g u j) (gc g u (j + 1)) = true) : has g u (gx g a) (gy g a) = true := by
  obtain ⟨hz, hx, hy⟩ := bet_iff.mp hb
  rw [← twi_rot hj] at hr
  have hz' : trn (gx g (gc g u j)) (gy g (gc g u j)) (gx g (gc g u (j + 1))) (gy g (gc g u (j + 1))) (gx g a) (gy g a) = 0 := hz
  obtain ⟨h1, h2⟩ := on_edge hr hz' hx hy
  refine has_of hj (Int.le_of_eq hz'.symm) h1 ?_
  have e : gc g u (j + 2 + 1) = gc g u j := congrArg (fun z => g.2.2 (3 * u + z)) (by omega : (j + 2 + 1) % 3 = j % 3)
  show 0 ≤ tat g (gc g u (j + 2)) (gc g u (j + 2 + 1)) (gx g a) (gy g a)
  rw [e]; exact h2
theorem hcr_iff {g : GG} {u p : Nat} : hcr g u p = true ↔ gc g u 0 = p ∨ gc g u 1 = p ∨ gc g u 2 = p := by
  simp [hcr]
theorem hcr_j {g : GG} {u p j : Nat} (hj : j < 3) (h : hcr g u p = true) : p = gc g u j ∨ p = gc g u (j + 1) ∨ p = gc g u (j + 2) := by
  rw [hcr_iff] at h
  rcases (show j = 0 ∨ j = 1 ∨ j = 2 by omega) with rfl | rfl | rfl
  · simp only [Nat.zero_add]; omega
  · simp only [Nat.reduceAdd, gc_3]; omega
  · simp only [Nat.reduceAdd, gc_3, gc_4]; omega
/-- a corner of t that u has, and that is none of u's -/
def arr_ (g : GG) (t u k : Nat) : Bool := !hcr g u (gc g t k) && has g u (gx g (gc g t k)) (gy g (gc g t k))
theorem arr_3 (g : GG) (t u : Nat) : arr_ g t u 3 = arr_ g t u 0 := rfl
theorem bet_no {g : GG} {t u i j : Nat} (hr : 0 < twi g u) (hi : i < 4) (hj : j < 3) (hA : ∀ k, k < 3 → arr_ g t u k = false) (h1 : gc g t i ≠ gc g u j) (h2 : gc g t i ≠ gc g u (j + 1)) : bet g (gc g t i) (gc g u j) (gc g u (j + 1)) = false := by
  cases hb : bet g (gc g t i) (gc g u j) (gc g u (j + 1)) with
  | false => rfl
  | true =>
    exfalso
    cases hc : hcr g u (gc g t i) with
    | true =>
      rcases hcr_j hj hc with e | e | e
      · exact h1 e
      · exact h2 e
      · have hz := (bet_iff.mp hb).1
        rw [e] at hz
        have := twi_rot (g := g) (u := u) hj
        have hz' : trn (gx g (gc g u j)) (gy g (gc g u j)) (gx g (gc g u (j + 1))) (gy g (gc g u (j + 1))) (gx g (gc g u (j + 2))) (gy g (gc g u (j + 2))) = 0 := hz
        omega
    | false =>
      have hh := has_on hr hj hb
      have ha : arr_ g t u i = true := by unfold arr_; rw [hc, hh]; rfl
      rcases (show i = 0 ∨ i = 1 ∨ i = 2 ∨ i = 3 by omega) with rfl | rfl | rfl | rfl
      · rw [hA 0 (by omega)] at ha; cases ha
      · rw [hA 1 (by omega)] at ha; cases ha
      · rw [hA 2 (by omega)] at ha; cases ha
      · rw [arr_3, hA 0 (by omega)] at ha; cases ha
theorem sgn_opp (a b : Int) : decide (sgn a * sgn b < 0) = opp a b := by
  unfold sgn opp
  by_cases h1 : a < 0 <;> by_cases h2 : 0 < a <;> by_cases h3 : b < 0 <;> by_cases h4 : 0 < b <;> simp [h1, h2, h3, h4] <;> omega
theorem tof_a (g : GG) (a b : Nat) : tof g a b a = 0 := by unfold tof tat trn; grind
theorem tof_b (g : GG) (a b : Nat) : tof g a b b = 0 := by unfold tof tat trn; grind
theorem opp_0 (b : Int) : opp 0 b = false ∧ opp b 0 = false := by simp [opp]
theorem crs_apart {g : GG} {a b c d : Nat} (h : crs g a b c d = true) : a ≠ c ∧ a ≠ d ∧ b ≠ c ∧ b ≠ d := by
  unfold crs at h
  simp only [Bool.and_eq_true] at h
  refine ⟨?_, ?_, ?_, ?_⟩ <;> intro e <;> subst e
  · rw [tof_a, (opp_0 _).1] at h; cases h.1
  · rw [tof_a, (opp_0 _).2] at h; cases h.1
  · rw [tof_b, (opp_0 _).1] at h; cases h.1
  · rw [tof_b, (opp_0 _).2] at h; cases h.1
theorem odd_crs {g : GG} {a b c d : Nat} (h1 : a ≠ c → a ≠ d → bet g a c d = false) (h2 : b ≠ c → b ≠ d → bet g b c d = false) (h3 : c ≠ a → c ≠ b → bet g c a b = false) (h4 : d ≠ a → d ≠ b → bet g d a b = false) : odd g a b c d = crs g a b c d := by
  cases hc : crs g a b c d with
  | true =>
    obtain ⟨e1, e2, e3, e4⟩ := crs_apart hc
    unfold crs at hc
    simp only [Bool.and_eq_true] at hc
    unfold odd
    rw [sgn_opp, sgn_opp, hc.1, hc.2]
    simp [e1, e2, e3, e4]
  | false =>
    unfold crs at hc
    unfold odd
    rw [sgn_opp, sgn_opp]
    have k1 : (!decide (a = c) && (!decide (a = d) && bet g a c d)) = false := by
      by_cases e : a = c
      · simp [e]
      · by_cases e' : a = d
        · simp [e']
        · simp [h1 e e']
    have k2 : (!decide (b = c) && (!decide (b = d) && bet g b c d)) = false := by
      by_cases e : b = c
      · simp [e]
      · by_cases e' : b = d
        · simp [e']
        · simp [h2 e e']
    have k3 : (!decide (c = a) && (!decide (c = b) && bet g c a b)) = false := by
      by_cases e : c = a
      · simp [e]
      · by_cases e' : c = b
        · simp [e']
        · simp [h3 e e']
    have k4 : (!decide (d = a) && (!decide (d = b) && bet g d a b)) = false := by
      by_cases e : d = a
      · simp [e]
      · by_cases e' : d = b
        · simp [e']
        · simp [h4 e e']
    rw [k1, k2, k3, k4, hc]; simp
theorem fnd_some3 {P : Nat → Bool} : (fnd P 3 0).isSome = (P 0 || (P 1 || P 2)) := by
  simp only [fnd]
  cases P 0 <;> cases P 1 <;> cases P 2 <;> rfl
theorem alf_3 {P : Nat → Bool} : alf P 3 0 = (P 0 && (P 1 && P 2)) := by
  simp [alf]
theorem cnt_3 {P : Nat → Bool} : decide (cnt P 3 0 = 3) = (P 0 && (P 1 && P 2)) := by
  simp only [cnt, Nat.reduceAdd]
  by_cases h0 : P 0 = true <;> by_cases h1 : P 1 = true <;> by_cases h2 : P 2 = true <;> simp [h0, h1, h2]
