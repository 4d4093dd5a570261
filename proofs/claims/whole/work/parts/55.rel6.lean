/-! far apart is tidy; class and reference agree on pairs of right triangles; the first fault -/
theorem cor_in {g : GG} {t k : Nat} : (lef g t : Int) ≤ gx g (gc g t k) ∧ gx g (gc g t k) ≤ (rig g t : Int) ∧ (low g t : Int) ≤ gy g (gc g t k) ∧ gy g (gc g t k) ≤ (hig g t : Int) := by
  have e : gc g t k = gc g t (k % 3) := by unfold gc; rw [Nat.mod_mod]
  rw [e]
  have hk : k % 3 < 3 := Nat.mod_lt _ (by omega)
  unfold gx gy lef rig low hig
  rcases (show k % 3 = 0 ∨ k % 3 = 1 ∨ k % 3 = 2 by omega) with e | e | e <;> rw [e] <;> omega
theorem far_iff {g : GG} {t u : Nat} : far g t u = true ↔ rig g t < lef g u ∨ rig g u < lef g t ∨ hig g t < low g u ∨ hig g u < low g t := by
  simp [far]
theorem far_no {g : GG} {t u : Nat} {x y : Int} (h : far g t u = true) (h1 : (lef g t : Int) ≤ x ∧ x ≤ (rig g t : Int) ∧ (low g t : Int) ≤ y ∧ y ≤ (hig g t : Int)) (h2 : (lef g u : Int) ≤ x ∧ x ≤ (rig g u : Int) ∧ (low g u : Int) ≤ y ∧ y ≤ (hig g u : Int)) : False := by
  rw [far_iff] at h; omega
theorem far_crs {g : GG} {t u i j : Nat} (h : far g t u = true) : crs g (gc g t i) (gc g t (i + 1)) (gc g u j) (gc g u (j + 1)) = false := by
  cases hc : crs g (gc g t i) (gc g t (i + 1)) (gc g u j) (gc g u (j + 1)) with
  | false => rfl
  | true =>
    exfalso
    obtain ⟨bx, b_y⟩ := crs_box hc
    have a1 := cor_in (g := g) (t := t) (k := i); have a2 := cor_in (g := g) (t := t) (k := i + 1)
    have a3 := cor_in (g := g) (t := u) (k := j); have a4 := cor_in (g := g) (t := u) (k := j + 1)
    rw [far_iff] at h
    rcases h with h | h | h | h
    · exact (bx (rig g t)).1 (by omega)
    · exact (bx (rig g u)).2 (by omega)
    · exact (b_y (hig g t)).1 (by omega)
    · exact (b_y (hig g u)).2 (by omega)
theorem far_arr {g : GG} {t u k : Nat} (hr : rgt g u = true) (h : far g t u = true) : arr_ g t u k = false := by
  cases ha : arr_ g t u k with
  | false => rfl
  | true =>
    unfold arr_ at ha
    simp only [Bool.and_eq_true] at ha
    exact (far_no h cor_in (has_box hr ha.2)).elim
theorem far_sym {g : GG} {t u : Nat} (h : far g t u = true) : far g u t = true := by
  rw [far_iff] at h ⊢; omega
theorem far_hcr {g : GG} {t u k : Nat} (h : far g t u = true) : hcr g u (gc g t k) = false := by
  cases hc : hcr g u (gc g t k) with
  | false => rfl
  | true =>
    rcases hcr_j (j := 0) (by omega) hc with e | e | e
    · have a := cor_in (g := g) (t := u) (k := 0); rw [← e] at a; exact (far_no h cor_in a).elim
    · have a := cor_in (g := g) (t := u) (k := 0 + 1); rw [← e] at a; exact (far_no h cor_in a).elim
    · have a := cor_in (g := g) (t := u) (k := 0 + 2); rw [← e] at a; exact (far_no h cor_in a).elim
theorem arr_all {g : GG} {t u : Nat} : (∀ k, k < 3 → arr_ g t u k = false) ↔ rea g t u = false := by
  have e : rea g t u = (arr_ g t u 0 || (arr_ g t u 1 || arr_ g t u 2)) := fnd_some3
  rw [e]
  simp only [Bool.or_eq_false_iff]
  constructor
  · intro h; exact ⟨h 0 (by omega), h 1 (by omega), h 2 (by omega)⟩
  · intro h k hk
    rcases (show k = 0 ∨ k = 1 ∨ k = 2 by omega) with rfl | rfl | rfl
    · exact h.1
    · exact h.2.1
    · exact h.2.2
theorem mti_e {g : GG} {t u : Nat} (hrt : rgt g t = true) (hru : rgt g u = true) : mti g t u = (!sam g t u && (!rea g t u && (!rea g u t && !cre g t u))) := by
  have ht : 0 < twi g t := by simpa [rgt] using hrt
  have hu : 0 < twi g u := by simpa [rgt] using hru
  have e1 : rea g t u = (arr_ g t u 0 || (arr_ g t u 1 || arr_ g t u 2)) := fnd_some3
  have e2 : rea g u t = (arr_ g u t 0 || (arr_ g u t 1 || arr_ g u t 2)) := fnd_some3
  have e3 : mti g t u = (alf (fun k => !arr_ g t u k && !arr_ g u t k) 3 0 && (!decide (cnt (fun k => hcr g u (gc g t k)) 3 0 = 3) && alf (fun i => alf (fun j => !odd g (gc g t i) (gc g t (i + 1)) (gc g u j) (gc g u (j + 1))) 3 0) 3 0)) := rfl
  have e4 : decide (cnt (fun k => hcr g u (gc g t k)) 3 0 = 3) = sam g t u := by rw [cnt_3]; unfold sam; rw [alf_3]
  rw [e3, e4]
  cases hA : rea g t u with
  | true =>
    have : alf (fun k => !arr_ g t u k && !arr_ g u t k) 3 0 = false := by
      rw [alf_3]; rw [e1] at hA
      cases q0 : arr_ g t u 0 <;> cases q1 : arr_ g t u 1 <;> cases q2 : arr_ g t u 2 <;> simp_all
    rw [this]; simp
  | false =>
    cases hB : rea g u t with
    | true =>
      have : alf (fun k => !arr_ g t u k && !arr_ g u t k) 3 0 = false := by
        rw [alf_3]; rw [e2] at hB
        cases q0 : arr_ g u t 0 <;> cases q1 : arr_ g u t 1 <;> cases q2 : arr_ g u t 2 <;> simp_all
      rw [this]; simp
    | false =>
      have hA' := arr_all.mpr hA
      have hB' := arr_all.mpr hB
      have ho : ∀ i j, i < 3 → j < 3 → odd g (gc g t i) (gc g t (i + 1)) (gc g u j) (gc g u (j + 1)) = crs g (gc g t i) (gc g t (i + 1)) (gc g u j) (gc g u (j + 1)) := by
        intro i j hi hj
        refine odd_crs (fun h1 h2 => bet_no hu (by omega) hj hA' h1 h2) (fun h1 h2 => bet_no hu (by omega) hj hA' h1 h2) (fun h1 h2 => bet_no ht (by omega) hi hB' h1 h2) (fun h1 h2 => bet_no ht (by omega) hi hB' h1 h2)
      have h0 : alf (fun k => !arr_ g t u k && !arr_ g u t k) 3 0 = true := by
        rw [alf_3, hA' 0 (by omega), hA' 1 (by omega), hA' 2 (by omega), hB' 0 (by omega), hB' 1 (by omega), hB' 2 (by omega)]; rfl
      have h1 : alf (fun i => alf (fun j => !odd g (gc g t i) (gc g t (i + 1)) (gc g u j) (gc g u (j + 1))) 3 0) 3 0 = !cre g t u := by
        rw [alf_congr (Q := fun i => alf (fun j => !crs g (gc g t i) (gc g t (i + 1)) (gc g u j) (gc g u (j + 1))) 3 0) (fun i _ hi => alf_congr (fun j _ hj => by rw [ho i j (by omega) (by omega)]))]
        unfold cre cr1
        rw [fnd_some3, alf_3]
        simp only [fnd_some3, alf_3, Bool.not_or]
      rw [h0, h1]; simp
theorem tid_mti {g : GG} {t u : Nat} (hrt : rgt g t = true) (hru : rgt g u = true) : tid g t u = mti g t u := by
  rw [mti_e hrt hru]
  unfold tid
  cases hf : far g t u with
  | false => rfl
  | true =>
    have h1 : sam g t u = false := by unfold sam; rw [alf_3, far_hcr hf]; rfl
    have h2 : rea g t u = false := arr_all.mp (fun k _ => far_arr hru hf)
    have h3 : rea g u t = false := arr_all.mp (fun k _ => far_arr hrt (far_sym hf))
    have h4 : cre g t u = false := by
      unfold cre cr1
      rw [fnd_some3]
      simp only [fnd_some3, far_crs hf, Bool.or_self]
    rw [h1, h2, h3, h4]; rfl
theorem fnd_before {P : Nat → Bool} : ∀ {k n j : Nat}, fnd P k n = some j → ∀ i, n ≤ i → i < j → P i = false
  | 0, n, j, h => by simp [fnd] at h
  | k + 1, n, j, h => by
    intro i h1 h2
    cases hp : P n with
    | true => rw [fnd, hp] at h; simp at h; omega
    | false =>
      rw [fnd, hp] at h
      by_cases e : i = n
      · rw [e]; exact hp
      · exact fnd_before h i (by omega) h2
theorem Lst.pre {tn tm : Nat} {th : Nat → Nat} {iz : Nat → Bool} (h : Lst tn th tm iz) {i : Nat} (hi : i < tn) : Lst i th (th i) iz := by
  obtain ⟨h1, h2⟩ := h.of hi
  have e0 : List.range' 0 tm = List.range' 0 (th i) ++ List.range' (th i) (tm - th i) := by
    have := (List.range'_append (s := 0) (m := th i) (n := tm - th i) (step := 1)).symm
    simpa [show th i + (tm - th i) = tm by omega] using this
  have e1 : List.range' (th i) (tm - th i) = th i :: List.range' (th i + 1) (tm - th i - 1) := by
    rw [show tm - th i = (tm - th i - 1) + 1 by omega, List.range'_succ]; rfl
  have h' : (List.range' 0 tn).map th = (List.range' 0 (th i)).filter iz ++ th i :: (List.range' (th i + 1) (tm - th i - 1)).filter iz := by
    have := h
    unfold Lst at this
    rw [this, e0, List.filter_append, e1, List.filter_cons, if_pos h2]
  have hlen : ((List.range' 0 (th i)).filter iz).length = i := by
    have hsz := congrArg List.length h'
    simp only [List.length_map, List.length_range', List.length_append, List.length_cons] at hsz
    have hk : ((List.range' 0 (th i)).filter iz).length < tn := by omega
    have g1 : ((List.range' 0 tn).map th)[((List.range' 0 (th i)).filter iz).length]? = some (th i) := by
      rw [h', List.getElem?_append_right (Nat.le_refl _), Nat.sub_self]; rfl
    rw [List.getElem?_map, List.getElem?_range' hk] at g1
    simp only [Option.map_some, Option.some.injEq, Nat.zero_add, Nat.one_mul] at g1
    rcases Nat.lt_trichotomy ((List.range' 0 (th i)).filter iz).length i with q | q | q
    · have := h.lt q hi; omega
    · exact q
    · have := h.lt q hk; omega
  unfold Lst
  have e2 : (List.range' 0 i).map th = ((List.range' 0 tn).map th).take i := by
    rw [← List.map_take]
    congr 1
    have := (List.range'_append (s := 0) (m := i) (n := tn - i) (step := 1)).symm
    rw [show i + (tn - i) = tn by omega] at this
    rw [this, List.take_append_of_le_length (by simp), List.take_of_length_le (by simp)]
  rw [e2, h', List.take_append_of_le_length (by omega), List.take_of_length_le (by omega)]
section RF
variable {v : SV} {w : MV}
theorem Rel.ub (h : Rel v w) {i : Nat} (hi : i < sTn v) (hr : ∀ j, j ≤ i → rgt w.1 (sTh v j) = true) : fub v.1 (sTh v) i = muf w (sTh v i) := by
  unfold fub muf
  rw [← (h.ls.pre hi).fnd (fun u => !mti w.1 (sTh v i) u)]
  congr 1
  refine fnd_congr (fun j _ hj => ?_)
  rw [h.g, tid_mti (hr i (by omega)) (hr j (by omega))]
theorem Rel.fa1 (h : Rel v w) : (fai v.1 (sTh v) (sTn v)).map (sTh v) = mfai w := by
  unfold mfai
  rw [← h.ls.fnd (fun t => !rgt w.1 t || (muf w t).isSome)]
  congr 1
  show fnd (fun i => !rgt v.1 (sTh v i) || (fub v.1 (sTh v) i).isSome) (sTn v) 0 = _
  refine fnd_first (fun i _ hi hb => ?_)
  have hbr : ∀ j, j < i → rgt w.1 (sTh v j) = true := fun j hj => by
    have := (hb j (by omega) hj).2
    simp only [Bool.or_eq_false_iff] at this
    cases q : rgt w.1 (sTh v j)
    · rw [q] at this; cases this.1
    · rfl
  cases q : rgt w.1 (sTh v i) with
  | false => rw [h.g, q]; rfl
  | true =>
    rw [h.ub (by omega) (fun j hj => by
      by_cases e : j = i
      · rw [e]; exact q
      · exact hbr j (by omega)), h.g]
    simp only [q]
theorem Rel.fa2 (h : Rel v w) : faR v = mfaR w ∧ Rel (faS v) (mfaS w) := by
  have e := h.fa1
  unfold faR faS mfaR mfaS
  cases hq : fai v.1 (sTh v) (sTn v) with
  | none => rw [hq] at e; rw [← e]; exact ⟨rfl, h⟩
  | some i =>
    rw [hq] at e; rw [← e]
    have hi : i < sTn v := by have := fnd_lt hq; omega
    have hb := fnd_before hq
    simp only [Option.map_some]
    rw [h.g]
    cases q : rgt w.1 (sTh v i) with
    | false =>
      simp only [Bool.false_eq_true, if_false]
      obtain ⟨a1, a2, a3, a4, a5, a6, a7, a8, a9⟩ := h
      exact ⟨trivial, a1, a2, a3, a4, a5, ⟨rfl, rfl⟩, a7, a8, a9⟩
    | true =>
      have hbr : ∀ j, j ≤ i → rgt w.1 (sTh v j) = true := fun j hj => by
        by_cases e : j = i
        · rw [e]; exact q
        · have := hb j (by omega) (by omega)
          simp only [Bool.or_eq_false_iff] at this
          have h9 := this.1
          rw [h.g] at h9
          cases q : rgt w.1 (sTh v j)
          · rw [q] at h9; cases h9
          · rfl
      have eu : fub w.1 (sTh v) i = muf w (sTh v i) := by rw [← h.g]; exact h.ub hi hbr
      simp only [if_true, eu]
      obtain ⟨a1, a2, a3, a4, a5, a6, a7, a8, a9⟩ := h
      exact ⟨trivial, a1, a2, a3, a4, a5, ⟨rfl, rfl⟩, a7, a8, a9⟩
end RF
