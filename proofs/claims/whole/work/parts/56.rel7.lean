/-! the relation over points, moves, triangles, parts, takings -/
theorem Lst.add {tn tm : Nat} {th : Nat → Nat} {iz : Nat → Bool} (h : Lst tn th tm iz) : Lst (tn + 1) (va_up th tn tm) (tm + 1) (va_up iz tm true) := by
  unfold Lst at h ⊢
  rw [List.range'_concat, List.range'_concat, List.map_append, List.filter_append]
  have e1 : (List.range' 0 tn).map (va_up th tn tm) = (List.range' 0 tn).map th := List.map_congr_left (fun i hi => by
    have : i < tn := by simpa using hi
    unfold va_up; rw [if_neg (by omega)])
  have e2 : (List.range' 0 tm).filter (va_up iz tm true) = (List.range' 0 tm).filter iz := List.filter_congr (fun i hi => by
    have : i < tm := by simpa using hi
    unfold va_up; rw [if_neg (by omega)])
  rw [e1, e2, h]
  congr 1
  simp [va_up]
theorem rmv_l (t : Nat) : ∀ (k : Nat) (f : Nat → Nat) (i kp : Nat), kp ≤ i → (List.range' 0 (rmv t k f i kp).2).map (rmv t k f i kp).1 = (List.range' 0 kp).map f ++ ((List.range' i k).map f).filter (fun u => !decide (u = t))
  | 0, f, i, kp, _ => by simp [rmv]
  | k + 1, f, i, kp, h => by
    rw [rmv]
    by_cases e : f i = t
    · rw [if_pos e, rmv_l t k f (i + 1) kp (by omega), List.range'_succ, List.map_cons, List.filter_cons, if_neg (by simp [e])]
    · have e3 : List.range' i (k + 1) = i :: List.range' (i + 1) k := List.range'_succ
      rw [if_neg e, rmv_l t k (va_up f kp (f i)) (i + 1) (kp + 1) (by omega), e3, List.map_cons, List.filter_cons, if_pos (by simp [e])]
      have e1 : (List.range' 0 (kp + 1)).map (va_up f kp (f i)) = (List.range' 0 kp).map f ++ [f i] := by
        rw [List.range'_concat, List.map_append]
        congr 1
        · exact List.map_congr_left (fun j hj => by
            have : j < kp := by simpa using hj
            unfold va_up; rw [if_neg (by omega)])
        · simp [va_up]
      have e2 : (List.range' (i + 1) k).map (va_up f kp (f i)) = (List.range' (i + 1) k).map f := List.map_congr_left (fun j hj => by
        have : i + 1 ≤ j := by simp at hj; omega
        unfold va_up; rw [if_neg (by omega)])
      rw [e1, e2, List.append_assoc]; rfl
theorem rmv_lt {N : Nat} (t : Nat) : ∀ (k : Nat) (f : Nat → Nat) (i kp : Nat), (∀ j, f j < N) → ∀ j, (rmv t k f i kp).1 j < N
  | 0, f, i, kp, h => h
  | k + 1, f, i, kp, h => by
    rw [rmv]; split
    · exact rmv_lt t k f (i + 1) kp h
    · exact rmv_lt t k _ (i + 1) (kp + 1) (up_lt h (h i))
theorem cnt_up {iz : Nat → Bool} {t : Nat} (hz : iz t = true) : ∀ {k n : Nat}, n ≤ t → t < n + k → cnt (va_up iz t false) k n + 1 = cnt iz k n
  | 0, n, h1, h2 => by omega
  | k + 1, n, h1, h2 => by
    rw [cnt, cnt]
    by_cases e : n = t
    · subst e
      have e1 : cnt (va_up iz n false) k (n + 1) = cnt iz k (n + 1) := cnt_congr (fun i hi _ => by unfold va_up; rw [if_neg (by omega)])
      have e2 : va_up iz n false n = false := by simp [va_up]
      rw [e1, e2, hz]; simp; omega
    · have e2 : va_up iz t false n = iz n := by unfold va_up; rw [if_neg e]
      have := cnt_up hz (k := k) (n := n + 1) (by omega) (by omega)
      rw [e2]; omega
theorem lst_len {tn tm : Nat} {th : Nat → Nat} {iz : Nat → Bool} (h : Lst tn th tm iz) : tn = cnt iz tm 0 := by
  have := congrArg List.length h
  rw [List.length_map, List.length_range'] at this
  rw [this, cnt_l, List.countP_eq_length_filter]
theorem Lst.rem {tn tm t : Nat} {th : Nat → Nat} {iz : Nat → Bool} (h : Lst tn th tm iz) (ht : t < tm) (hz : iz t = true) : Lst (rmv t tn th 0 0).2 (rmv t tn th 0 0).1 tm (va_up iz t false) ∧ (rmv t tn th 0 0).2 + 1 = tn := by
  have e : Lst (rmv t tn th 0 0).2 (rmv t tn th 0 0).1 tm (va_up iz t false) := by
    have h1 := rmv_l t tn th 0 0 (Nat.le_refl _)
    unfold Lst at h ⊢
    rw [h1, h, List.filter_filter]
    simp only [List.range'_zero, List.map_nil, List.nil_append]
    refine List.filter_congr (fun i _ => ?_)
    unfold va_up
    by_cases q : i = t
    · subst q; simp
    · rw [if_neg q]; simp [q]
  exact ⟨e, by rw [lst_len e, lst_len h]; exact cnt_up hz (by omega) (by omega)⟩
section RU
variable {v : SV} {w : MV}
theorem Rel.addP (h : Rel v w) {x y : Nat} (hx : x < 512) (hy : y < 512) (hn : sPn v < 60) (thr : Int32) : Rel (sAddP v x y) (gMov w.1 (mPn w) x y, thr, mPn w + 1, w.2.2.2) := by
  obtain ⟨a1, a2, a3, a4, a5, a6, a7, a8, a9⟩ := h
  have hg : okG (gMov w.1 (mPn w) x y) := okG_mov a8.1 hx hy
  have ev : gMov v.1 (sPn v) x y = gMov w.1 (mPn w) x y := by rw [a1, a2]
  refine ⟨ev, ?_, a3, a4, a5, a6, ⟨?_, ?_, a7.2.2⟩, ⟨hg, ?_, a8.2.2⟩, fun t h1 h2 => ?_⟩
  · show sPn v + 1 = mPn w + 1; omega
  · show okG (gMov v.1 (sPn v) x y); rw [ev]; exact hg
  · show sPn v + 1 ≤ 60; omega
  · show mPn w + 1 ≤ 60; omega
  · obtain ⟨⟨c0, c1, c2⟩, cd⟩ := a9 t h1 h2
    refine ⟨⟨?_, ?_, ?_⟩, cd⟩
    · show gc w.1 t 0 < mPn w + 1; omega
    · show gc w.1 t 1 < mPn w + 1; omega
    · show gc w.1 t 2 < mPn w + 1; omega
theorem Rel.mov (h : Rel v w) {q x y : Nat} (hx : x < 512) (hy : y < 512) (thr : Int32) : Rel (sPut v q x y) (gMov w.1 q x y, thr, w.2.2) := by
  obtain ⟨a1, a2, a3, a4, a5, a6, a7, a8, a9⟩ := h
  have hg : okG (gMov w.1 q x y) := okG_mov a8.1 hx hy
  have ev : gMov v.1 q x y = gMov w.1 q x y := by rw [a1]
  refine ⟨ev, a2, a3, a4, a5, a6, ⟨?_, a7.2⟩, ⟨hg, a8.2⟩, a9⟩
  show okG (gMov v.1 q x y); rw [ev]; exact hg
theorem Rel.setT (h : Rel v w) {t x y z : Nat} (hx : x < mPn w ∧ y < mPn w ∧ z < mPn w) (hd : x ≠ y ∧ y ≠ z ∧ x ≠ z) : Rel (sPutT v t x y z) (mSet w t x y z) := by
  obtain ⟨a1, a2, a3, a4, a5, a6, a7, a8, a9⟩ := h
  have hp := a8.2.1
  have hg : okG (gPut w.1 t x y z) := okG_put a8.1 (by omega) (by omega) (by omega)
  have ev : gPut v.1 t x y z = gPut w.1 t x y z := by rw [a1]
  refine ⟨ev, a2, a3, a4, a5, a6, ⟨?_, a7.2⟩, ⟨hg, a8.2⟩, fun u h1 h2 => cok_put hx hd (fun _ => a9 u h1 h2)⟩
  show okG (gPut v.1 t x y z); rw [ev]; exact hg
theorem Rel.addT (h : Rel v w) {x y z : Nat} (hx : x < mPn w ∧ y < mPn w ∧ z < mPn w) (hd : x ≠ y ∧ y ≠ z ∧ x ≠ z) (hc : sTn v < 60 ∧ sTm v < 200) : Rel (sAddT v x y z) (mAdd w x y z) := by
  obtain ⟨a1, a2, a3, a4, a5, a6, a7, a8, a9⟩ := h
  have hp := a8.2.1
  have hg : okG (gPut w.1 (mTm w) x y z) := okG_put a8.1 (by omega) (by omega) (by omega)
  have ev : gPut v.1 (sTm v) x y z = gPut w.1 (mTm w) x y z := by rw [a1, a4]
  refine ⟨ev, a2, ?_, ?_, ?_, a6, ⟨?_, a7.2.1, ?_, ?_, ?_, a7.2.2.2.2.2⟩, ⟨hg, a8.2.1, ?_, ?_, a8.2.2.2.2⟩, fun u h1 h2 => cok_put hx hd (fun hu => ?_)⟩
  · show sTn v + 1 = mTn w + 1; omega
  · show sTm v + 1 = mTm w + 1; omega
  · show Lst (sTn v + 1) (va_up (sTh v) (sTn v) (sTm v)) (mTm w + 1) (va_up (mIs w) (mTm w) true)
    rw [a4]; exact a5.add
  · show okG (gPut v.1 (sTm v) x y z); rw [ev]; exact hg
  · exact up_lt a7.2.2.1 hc.2
  · show sTn v + 1 ≤ 60; omega
  · show sTm v + 1 ≤ 200; omega
  · show mTm w + 1 ≤ 200; omega
  · show mTn w + 1 ≤ 60; omega
  · have h1' : u < mTm w + 1 := h1
    have h2' : va_up (mIs w) (mTm w) true u = true := h2
    refine a9 u (by omega) ?_
    unfold va_up at h2'
    rw [if_neg hu] at h2'; exact h2'
theorem Rel.rem (h : Rel v w) {t : Nat} (ht : t < mTm w) (hz : mIs w t = true) (thr : Int32) : Rel (sRem v t) (w.1, thr, mPn w, mTm w, mTn w - 1, va_up (mIs w) t false, w.2.2.2.2.2.2) := by
  obtain ⟨a1, a2, a3, a4, a5, a6, a7, a8, a9⟩ := h
  obtain ⟨b1, b2⟩ := a5.rem ht hz
  refine ⟨a1, a2, ?_, a4, b1, a6, ⟨a7.1, a7.2.1, ?_, ?_, a7.2.2.2.2⟩, ⟨a8.1, a8.2.1, a8.2.2.1, ?_, a8.2.2.2.2⟩, fun u h1 h2 => ?_⟩
  · show (rmv t (sTn v) (sTh v) 0 0).2 = mTn w - 1; omega
  · exact rmv_lt t _ _ _ _ a7.2.2.1
  · show (rmv t (sTn v) (sTh v) 0 0).2 ≤ 60; have := a7.2.2.2.1; omega
  · show mTn w - 1 ≤ 60; have := a8.2.2.2.1; omega
  · have h2' : va_up (mIs w) t false u = true := h2
    refine a9 u h1 ?_
    unfold va_up at h2'
    by_cases e : u = t
    · rw [if_pos e] at h2'; cases h2'
    · rw [if_neg e] at h2'; exact h2'
theorem Rel.par (h : Rel v w) {t x y : Nat} (ht : t < mTm w) (hz : mIs w t = true) (hx : x < 512) (hy : y < 512) (hn : sPn v < 60) (hc : sTn v + 2 ≤ 60 ∧ sTm v + 2 ≤ 200) : Rel (sPar v t x y) (mPar w t x y) := by
  obtain ⟨⟨c0, c1, c2⟩, d0, d1, d2⟩ := h.co ht hz
  have e1 := h.g
  have e2 := h.2.1
  have p1 : Rel (sAddP v x y) (mPt (mThx w (nI 0)) x y) := (h.thx (nI 0)).addP hx hy hn (nI 0)
  have p2 := p1.setT (t := t) (x := gc w.1 t 0) (y := gc w.1 t 1) (z := mPn w) ⟨by show _ < mPn w + 1; omega, by show _ < mPn w + 1; omega, by show _ < mPn w + 1; omega⟩ ⟨d0, by omega, by omega⟩
  have p3 := p2.addT (x := gc w.1 t 1) (y := gc w.1 t 2) (z := mPn w) ⟨by show _ < mPn w + 1; omega, by show _ < mPn w + 1; omega, by show _ < mPn w + 1; omega⟩ ⟨d1, by omega, by omega⟩ ⟨by show sTn v < 60; omega, by show sTm v < 200; omega⟩
  have p4 := p3.addT (x := gc w.1 t 2) (y := gc w.1 t 0) (z := mPn w) ⟨by show _ < mPn w + 1; omega, by show _ < mPn w + 1; omega, by show _ < mPn w + 1; omega⟩ ⟨fun q => d2 q.symm, by omega, by omega⟩ ⟨by show sTn v + 1 < 60; omega, by show sTm v + 1 < 200; omega⟩
  unfold sPar
  rw [e1, e2]
  exact p4
end RU
