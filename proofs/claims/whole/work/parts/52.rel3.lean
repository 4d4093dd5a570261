/-! improvements, and the answers that are one loop -/
section RI
variable {v : SV} {w : MV}
theorem Rel.ifk (h : Rel v w) {i : Nat} (hi : i < sTn v) : tfk v.1 (sTh v) (sTn v) i = mfk w (sTh v i) := by
  obtain ⟨h1, h2⟩ := h.ls.of hi
  unfold tfk mfk
  refine fnd_congr (fun k _ hk => ?_)
  rw [h.go h1 h2 (by omega), h.tB h1 h2 (by omega)]
theorem Rel.ifi (h : Rel v w) : (tfi v.1 (sTh v) (sTn v)).map (sTh v) = mfi w := by
  unfold tfi mfi
  rw [fnd_congr (Q := fun i => (mfk w (sTh v i)).isSome) (fun i _ hi => by rw [h.ifk (by omega)])]
  exact h.ls.fnd (fun t => (mfk w t).isSome)
theorem Rel.ifS (h : Rel v w) : Rel (tfS v) (mfS w) := by
  have e := h.ifi
  unfold tfS mfS
  cases hq : tfi v.1 (sTh v) (sTn v) with
  | none => rw [hq] at e; rw [← e]; exact h
  | some i =>
    rw [hq] at e; rw [← e]
    have hi : i < sTn v := by have := fnd_lt hq; omega
    obtain ⟨h1, h2⟩ := h.ls.of hi
    simp only [Option.map_some]
    rw [h.ifk hi]
    cases hk : mfk w (sTh v i) with
    | none => exact h
    | some k =>
      have := fnd_lt hk
      exact h.tS h1 h2 (by omega)
theorem Rel.tso (h : Rel v w) : (tfi v.1 (sTh v) (sTn v)).isSome = (mfi w).isSome := by
  rw [← h.ifi]; simp
theorem Rel.imp : ∀ (k : Nat) {v : SV} {w : MV}, Rel v w → (simp_ k v).1 = (mimp k w).1 ∧ Rel (simp_ k v).2 (mimp k w).2
  | 0, v, w, h => ⟨rfl, h⟩
  | k + 1, v, w, h => by
    rw [simp_, mimp, h.tso]
    split
    · obtain ⟨a, b⟩ := Rel.imp k h.ifS
      exact ⟨by show (simp_ k (tfS v)).1 + 1 = _; rw [a], b⟩
    · exact ⟨rfl, h⟩
theorem Rel.cul (h : Rel v w) (x : Int32) : culC v x = mcuC w x := by
  unfold culC mcuC; rw [h.2.2.2.2.2.1.1, h.2.2.2.2.2.1.2]
theorem mth_lt {t : Nat} (hw : okM w) (ht : t < mTm w) : mth w (nI t) = mIs w t := by
  have := hw.2.2.1
  rw [mth_nI (by omega)]; simp [ht]
theorem Rel.covs (h : Rel v w) (x y : Int32) : covC v x y = mcoC w x y := by
  unfold covC mcoC
  simp only [Bool.and_eq_true]
  split
  · rw [h.g, h.ls.cnt (fun t => cov w.1 t x.toNatClampNeg y.toNatClampNeg)]
    exact cnt_congr (fun t _ ht => by rw [mth_lt h.om (by omega)])
  · rfl
theorem Rel.who (h : Rel v w) (x y : Int32) : whoC v x y = mwhC w x y := by
  unfold whoC mwhC
  simp only [Bool.and_eq_true]
  split
  · rw [h.g, h.ls.fnd (fun t => cov w.1 t x.toNatClampNeg y.toNatClampNeg)]
    exact fnd_congr (fun t _ ht => by rw [mth_lt h.om (by omega)])
  · rfl
theorem Rel.edge (h : Rel v w) (t k : Int32) : edg v t k = (mth w t && inB k 3) := by
  unfold edg; rw [h.th, Bool.and_comm]
theorem Rel.bes (h : Rel v w) (t k : Int32) : besC v t k = mbeC w t k := by
  unfold besC mbeC
  rw [h.edge]
  simp only [Bool.and_eq_true]
  split
  · rename_i q
    obtain ⟨j, hj, rfl, hz⟩ := mth_of (by have := h.om.2.2.1; omega) q.1
    obtain ⟨i, hi, rfl⟩ := inB_of (by decide) q.2
    have := h.om.2.2.1
    rw [nI_clamp (by omega), nI_clamp (by omega)]
    exact h.nb hj hz hi
  · rfl
theorem Rel.goo (h : Rel v w) (t k : Int32) : gooC v t k = mgoC w t k := by
  unfold gooC mgoC
  rw [h.edge]
  cases q : (mth w t && inB k 3) with
  | false => rfl
  | true =>
    simp only [Bool.and_eq_true] at q
    obtain ⟨j, hj, rfl, hz⟩ := mth_of (by have := h.om.2.2.1; omega) q.1
    obtain ⟨i, hi, rfl⟩ := inB_of (by decide) q.2
    have := h.om.2.2.1
    rw [nI_clamp (by omega), nI_clamp (by omega), h.go hj hz hi]
theorem Rel.cor (h : Rel v w) (t k : Int32) : corC v t k = mcrC w t k := by
  unfold corC mcrC
  rw [h.edge, h.g]
  simp only [Bool.and_eq_true]
theorem Rel.lon (h : Rel v w) : lonC v = medA w := by
  unfold lonC medA
  rw [← h.ls.smN (fun t => cnt (fun k => decide (mnb w t k = none)) 3 0)]
  refine smN_congr (fun i _ hi => cnt_congr (fun k _ hk => ?_))
  obtain ⟨h1, h2⟩ := h.ls.of (i := i) (by omega)
  rw [h.nb h1 h2 (by omega)]
theorem Rel.bad (h : Rel v w) : badC v = medG w := by
  unfold badC medG
  rw [← h.ls.smN (fun t => cnt (fun k => !god w.1 t k (mnb w t k) (bey w.1 t k)) 3 0)]
  refine smN_congr (fun i _ hi => cnt_congr (fun k _ hk => ?_))
  obtain ⟨h1, h2⟩ := h.ls.of (i := i) (by omega)
  rw [h.go h1 h2 (by omega)]
theorem Rel.sot (h : Rel v w) : sotC v = mp3 w := by
  unfold sotC mp3
  rw [h.g, h.ls.smZ (fun t => max (((0 : Nat)) : Int) (twi w.1 t))]
  refine smZ_congr (fun t _ _ => ?_)
  unfold rgt
  cases mIs w t
  · simp
  · by_cases h0 : 0 < twi w.1 t
    · simp only [h0, decide_true, Bool.and_self, if_true]; omega
    · simp only [h0, decide_false, Bool.and_false, if_true]; simp; omega
end RI
