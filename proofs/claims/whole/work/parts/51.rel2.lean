/-! neighbours, good edges, edges turned: the class's and the reference's are one -/
theorem gc_3 (g : GG) (t : Nat) : gc g t 3 = gc g t 0 := rfl
theorem gc_4 (g : GG) (t : Nat) : gc g t 4 = gc g t 1 := rfl
theorem gc_ne {g : GG} {pn t k : Nat} (c : cok g pn t) (hk : k < 3) : gc g t k ≠ gc g t (k + 1) ∧ gc g t (k + 1) ≠ gc g t (k + 2) ∧ gc g t k ≠ gc g t (k + 2) ∧ gc g t k < pn ∧ gc g t (k + 1) < pn ∧ gc g t (k + 2) < pn := by
  obtain ⟨⟨h0, h1, h2⟩, a, b, d⟩ := c
  rcases (show k = 0 ∨ k = 1 ∨ k = 2 by omega) with rfl | rfl | rfl
  · exact ⟨a, b, d, h0, h1, h2⟩
  · exact ⟨b, fun q => d q.symm, fun q => a q.symm, h1, h2, h0⟩
  · exact ⟨fun q => d q.symm, a, fun q => b q.symm, h2, h0, h1⟩
def nb3 (g : GG) (u f o : Nat) : Option Nat := fnd (fun j => decide (gc g u j = f) && decide (gc g u (j + 1) = o)) 3 0
theorem nb3_e (g : GG) (u f o : Nat) : nb3 g u f o = if gc g u 0 = f ∧ gc g u 1 = o then some 0 else if gc g u 1 = f ∧ gc g u 2 = o then some 1 else if gc g u 2 = f ∧ gc g u 0 = o then some 2 else none := by
  have e3 : gc g u (2 + 1) = gc g u 0 := rfl
  simp only [nb3, fnd, Bool.and_eq_true, decide_eq_true_eq, Nat.zero_add, Nat.reduceAdd, gc_3]
theorem nb3_hed (g : GG) (u f o : Nat) : (nb3 g u f o).isSome = hed g u f o := by
  rw [nb3_e]; unfold hed
  by_cases h1 : gc g u 0 = f ∧ gc g u 1 = o
  · simp [h1]
  · by_cases h2 : gc g u 1 = f ∧ gc g u 2 = o
    · rw [if_neg h1, if_pos h2]; simp [h2]
    · by_cases h3 : gc g u 2 = f ∧ gc g u 0 = o
      · rw [if_neg h1, if_neg h2, if_pos h3]; simp [h3]
      · rw [if_neg h1, if_neg h2, if_neg h3]
        simp only [Option.isSome_none, Bool.false_eq, Bool.or_eq_false_iff, Bool.and_eq_false_iff, decide_eq_false_iff_not]
        omega
theorem oth_nb3 {g : GG} {u f o : Nat} (h : hed g u f o = true) : oth g u f o = gc g u ((nb3 g u f o).getD 0 + 2) := by
  rw [← nb3_hed, nb3_e] at h
  rw [nb3_e]; unfold oth
  by_cases h1 : gc g u 0 = f ∧ gc g u 1 = o
  · rw [if_pos h1, if_pos h1]; rfl
  · by_cases h2 : gc g u 1 = f ∧ gc g u 2 = o
    · rw [if_neg h1, if_neg h1, if_pos h2, if_pos h2]; rfl
    · by_cases h3 : gc g u 2 = f ∧ gc g u 0 = o
      · rw [if_neg h1, if_neg h1, if_neg h2, if_neg h2, if_pos h3]; rfl
      · rw [if_neg h1, if_neg h2, if_neg h3] at h; cases h
theorem hed_self {g : GG} {pn t k : Nat} (c : cok g pn t) (hk : k < 3) : hed g t (gc g t (k + 1)) (gc g t k) = false := by
  obtain ⟨-, a, b, d⟩ := c
  unfold hed
  simp only [Bool.or_eq_false_iff, Bool.and_eq_false_iff, decide_eq_false_iff_not]
  rcases (show k = 0 ∨ k = 1 ∨ k = 2 by omega) with rfl | rfl | rfl
  · simp only [Nat.zero_add]; omega
  · simp only [Nat.reduceAdd]; omega
  · simp only [Nat.reduceAdd, gc_3]; omega
theorem cir_ded (g : GG) (a b c d : Nat) : cir g a b c d = ded g a b c d := by
  unfold cir ded det
  generalize gx g a - gx g d = x1
  generalize gy g a - gy g d = y1
  generalize gx g b - gx g d = x2
  generalize gy g b - gy g d = y2
  generalize gx g c - gx g d = x3
  generalize gy g c - gy g d = y3
  grind
section RN
variable {v : SV} {w : MV}
theorem Rel.nb (h : Rel v w) {t k : Nat} (ht : t < mTm w) (hz : mIs w t = true) (hk : k < 3) : nbr v.1 (sTh v) (sTn v) t k = mnb w t k := by
  unfold nbr nbi mnb
  rw [h.g, h.ls.fnd (fun u => hed w.1 u (gc w.1 t (k + 1)) (gc w.1 t k))]
  refine fnd_congr (fun u _ _ => ?_)
  by_cases hu : u = t
  · subst hu; rw [hed_self (h.co ht hz) hk]; simp
  · show (mIs w u && hed w.1 u (gc w.1 t (k + 1)) (gc w.1 t k)) = (mIs w u && (!decide (u = t) && (nb3 w.1 u (gc w.1 t (k + 1)) (gc w.1 t k)).isSome))
    rw [nb3_hed]; simp [hu]
theorem oth_bey {g : GG} {t k u : Nat} (h : hed g u (gc g t (k + 1)) (gc g t k) = true) : oth g u (gc g t (k + 1)) (gc g t k) = bey g t k u := oth_nb3 h
theorem mnb_hed {t k u : Nat} (h : mnb w t k = some u) : hed w.1 u (gc w.1 t (k + 1)) (gc w.1 t k) = true := by
  have := (mnb_lt h).2.2.2
  rw [← nb3_hed]; exact this
theorem Rel.go (h : Rel v w) {t k : Nat} (ht : t < mTm w) (hz : mIs w t = true) (hk : k < 3) : goc v.1 (sTh v) (sTn v) t k = god w.1 t k (mnb w t k) (bey w.1 t k) := by
  unfold goc god
  rw [h.nb ht hz hk]
  cases hq : mnb w t k with
  | none => rfl
  | some u =>
    simp only []
    rw [h.g, oth_bey (mnb_hed hq), cir_ded]
theorem Rel.tB (h : Rel v w) {t k : Nat} (ht : t < mTm w) (hz : mIs w t = true) (hk : k < 3) : tuB v.1 (sTh v) (sTn v) t k = mtB w t k := by
  unfold tuB mtB
  rw [h.nb ht hz hk]
  cases hq : mnb w t k with
  | none => rfl
  | some u => simp only []; rw [h.g, oth_bey (mnb_hed hq)]
theorem gc_put (g : GG) (t x y z u k : Nat) : gc (gPut g t x y z) u k = if u = t then (if k % 3 = 0 then x else if k % 3 = 1 then y else z) else gc g u k := by
  unfold gc gPut up3 va_up
  have hk : k % 3 < 3 := Nat.mod_lt _ (by omega)
  by_cases hu : u = t
  · subst hu
    rw [if_pos rfl]
    rcases (show k % 3 = 0 ∨ k % 3 = 1 ∨ k % 3 = 2 by omega) with e | e | e <;> simp only [e] <;> simp
  · rw [if_neg hu]
    simp only []
    rw [if_neg (by omega), if_neg (by omega), if_neg (by omega)]
theorem tof_same (g : GG) (a c : Nat) : tof g a c c = 0 := by
  unfold tof tat trn; grind
theorem cok_put {g : GG} {pn t x y z u : Nat} (hx : x < pn ∧ y < pn ∧ z < pn) (hd : x ≠ y ∧ y ≠ z ∧ x ≠ z) (hu : u ≠ t → cok g pn u) : cok (gPut g t x y z) pn u := by
  by_cases e : u = t
  · subst e
    unfold cok
    simp only [gc_put, if_true]
    exact ⟨hx, hd.1, hd.2.1, hd.2.2⟩
  · have := hu e
    unfold cok at this ⊢
    simp only [gc_put, if_neg e]
    exact this
/-- the third corner is no end of the edge -/
theorem bey_ok {g : GG} {pn t k u : Nat} (c : cok g pn u) (h : hed g u (gc g t (k + 1)) (gc g t k) = true) : bey g t k u < pn ∧ bey g t k u ≠ gc g t k ∧ bey g t k u ≠ gc g t (k + 1) := by
  rw [← oth_bey h]
  obtain ⟨⟨h0, h1, h2⟩, a, b, d⟩ := c
  unfold hed at h
  unfold oth
  simp only [Bool.or_eq_true, Bool.and_eq_true, decide_eq_true_eq] at h
  by_cases e1 : gc g u 0 = gc g t (k + 1) ∧ gc g u 1 = gc g t k
  · rw [if_pos e1]; omega
  · rw [if_neg e1]
    by_cases e2 : gc g u 1 = gc g t (k + 1) ∧ gc g u 2 = gc g t k
    · rw [if_pos e2]; omega
    · rw [if_neg e2]; omega
theorem Rel.tS (h : Rel v w) {t k : Nat} (ht : t < mTm w) (hz : mIs w t = true) (hk : k < 3) : Rel (tuS v t k) (mtS w t k) := by
  have e := h.nb ht hz hk
  unfold tuS mtS
  rw [e]
  cases hq : mnb w t k with
  | none => exact h
  | some u =>
    simp only []
    rw [h.g, oth_bey (mnb_hed hq)]
    obtain ⟨hu1, hu2, hu3, -⟩ := mnb_lt hq
    split
    · rename_i hb
      unfold tub at hb
      simp only [Bool.and_eq_true, decide_eq_true_eq] at hb
      obtain ⟨n1, n2, n3, p1, p2, p3⟩ := gc_ne (h.co ht hz) hk
      obtain ⟨q1, q2, q3⟩ := bey_ok (h.co hu1 hu2) (mnb_hed hq)
      have q4 : bey w.1 t k u ≠ gc w.1 t (k + 2) := by
        intro q
        rw [q] at hb
        have := tof_same w.1 (gc w.1 t k) (gc w.1 t (k + 2))
        omega
      obtain ⟨a1, a2, a3, a4, a5, a6, a7, a8, a9⟩ := h
      have hg : okG (gTu w.1 t k u (bey w.1 t k u)) := okG_gTu a8.1 (Nat.lt_of_lt_of_le q1 a8.2.1)
      refine ⟨rfl, a2, a3, a4, a5, a6, ⟨hg, a7.2⟩, ⟨hg, a8.2⟩, fun t' h1 h2 => ?_⟩
      unfold gTu
      exact cok_put ⟨q1, p2, p3⟩ ⟨q3, n2, q4⟩ (fun _ => cok_put ⟨p3, p1, q1⟩ ⟨fun q => n3 q.symm, fun q => q2 q.symm, fun q => q4 q.symm⟩ (fun _ => a9 t' h1 h2))
    · exact h
end RN
