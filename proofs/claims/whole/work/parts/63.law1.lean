/-! THE LAW'S CASES over the relation -/
section LC
variable {p : Program} {l : Launch} {e : Env} {s : State} {m : MethodId} {args : Array Value} {below : List Frame} {meth : Method} {c : Code} {H : Heap} {locs : List Loc} {cells slots : Nat} {Q : State → Prop} {dC : Nat → ClassId} {dI : Nat → Nat → Nat} {cI cL cZ : ClassId} {sc L : Nat} {xs : Nat → Int32} {a b : Nat → Nat} {o : Nat} {f : Nat → Int64} {ls : Array Slot} {v : SV} {w : MV} {i : Nat}
/-- where a case begins -/
def LH (s : State) (dC : Nat → ClassId) (dI : Nat → Nat → Nat) (cI cL cZ : ClassId) (sc L : Nat) (a b : Nat → Nat) (o : Nat) (f : Nat → Int64) (v : SV) (w : MV) (i : Nat) (ls : Array Slot) (H : Heap) (locs : List Loc) : Prop :=
  Rel v w ∧ lv_has ls 7 [(0, .ref sc), (1, .ref (a 0)), (2, .ref (b 0)), (3, .ref o), (4, .int (nI (i)))] ∧ va_P (dC, dI) vwCl (TW cI cL cZ a b o v w f) H ∧ va_D (nwA s) (TW cI cL cZ a b o v w f) ∧ va_S (nwA s) s.heap H locs
/-- where it goes on -/
def LG (p : Program) (l : Launch) (e : Env) (s : State) (m : MethodId) (args : Array Value) (below : List Frame) (meth : Method) (c : Code) (cells slots : Nat) (Q : State → Prop) (dC : Nat → ClassId) (dI : Nat → Nat → Nat) (cI cL cZ : ClassId) (sc L : Nat) (a b : Nat → Nat) (o : Nat) (i : Nat) : Prop :=
  ∀ (v' : SV) (w' : MV) (f1 : Nat → Int64) (ls1 : Array Slot) (H1 : Heap) (locs1 : List Loc), LH s dC dI cI cL cZ sc L a b o f1 v' w' i ls1 H1 locs1 → W p l e room_1 s m args below meth c H1 locs1 (cells + 1) (slots + 6) Q (F0 m 886 ls1 [])
theorem lc_point (CX : LX p l s m meth c args dC dI cI cL cZ sc L xs) (hi : i + 4 ≤ L) (hcl : cells + 1 ≤ 1054 ∧ slots + 6 ≤ 10461) (hh : LH s dC dI cI cL cZ sc L a b o f v w i ls H locs) (KK : LG p l e s m args below meth c cells slots Q dC dI cI cL cZ sc L a b o i) : W p l e room_1 s m args below meth c H locs cells slots Q (F0 m 120 ls []) := by
  obtain ⟨h, hl, hP, hD, hS⟩ := hh
  have hpn := h.om.2.1; have e2 := h.2.1
  by_cases hp : (inB (xs (i + 1)) 512 && inB (xs (i + 2)) 512) = true
  · obtain ⟨⟨x, hx, ex⟩, ⟨y, hy, ey⟩⟩ := inB2 (by decide) hp
    rw [ex, ey] at hp
    have ep : pAt v.1 (sPn v) (nI x) (nI y) = pAt w.1 (mPn w) (nI x) (nI y) := by rw [h.g, e2]
    by_cases hc : pAt v.1 (sPn v) (nI x) (nI y) = none ∧ sPn v < 60
    · exact lk_point_0 CX v w i hi hl hP hD hS hcl x y ex ey h.os hx hy hc.1 hc.2 h.om (by rw [← ep]; exact hc.1) (by omega) e2 (by omega)
        (fun ls1 H1 locs1 f1 q1 q2 q3 q4 => KK _ _ f1 ls1 H1 locs1 ⟨h.addP hx hy hc.2 (nI 0), q1, q2, q3, q4⟩)
    · exact lk_point_2 CX v w i hi hl hP hD hS hcl x y ex ey h.os hp (by
        rw [Bool.and_eq_false_iff, decide_eq_false_iff_not, decide_eq_false_iff_not]
        by_cases q : sPn v < 60
        · exact Or.inr (fun z => hc ⟨z, q⟩)
        · exact Or.inl q) h.om (fun q => by rw [← ep] at q; have : ¬ sPn v < 60 := fun z => hc ⟨q, z⟩; omega)
        (fun ls1 H1 locs1 f1 q1 q2 q3 q4 => KK _ _ f1 ls1 H1 locs1 ⟨h.thx _, q1, q2, q3, q4⟩)
  · exact lk_point_1 CX v w i hi hl hP hD hS hcl _ _ rfl rfl h.os (by simpa using hp)
      (fun ls1 H1 locs1 f1 q1 q2 q3 q4 => KK _ _ f1 ls1 H1 locs1 ⟨h.thx _, q1, q2, q3, q4⟩)
theorem lc_move (CX : LX p l s m meth c args dC dI cI cL cZ sc L xs) (hi : i + 4 ≤ L) (hcl : cells + 1 ≤ 1054 ∧ slots + 6 ≤ 10461) (hh : LH s dC dI cI cL cZ sc L a b o f v w i ls H locs) (KK : LG p l e s m args below meth c cells slots Q dC dI cI cL cZ sc L a b o i) : W p l e room_1 s m args below meth c H locs cells slots Q (F0 m 188 ls []) := by
  obtain ⟨h, hl, hP, hD, hS⟩ := hh
  have hpn := h.om.2.1; have e2 := h.2.1
  by_cases hq : inB (xs (i + 1)) (sPn v) = true
  · obtain ⟨q, hq1, eq⟩ := inB_of (by omega) hq
    by_cases hp : (inB (xs (i + 2)) 512 && inB (xs (i + 3)) 512) = true
    · obtain ⟨⟨x, hx, ex⟩, ⟨y, hy, ey⟩⟩ := inB2 (by decide) hp
      rw [ex, ey] at hp
      have ep : pAt v.1 (sPn v) (nI x) (nI y) = pAt w.1 (mPn w) (nI x) (nI y) := by rw [h.g, e2]
      by_cases hc : pAt v.1 (sPn v) (nI x) (nI y) = none ∨ pAt v.1 (sPn v) (nI x) (nI y) = some q
      · exact lk_move_0 CX v w i hi hl hP hD hS hcl q x y eq ex ey h.os hq1 hx hy hc h.om (by omega) (by rw [← ep]; exact hc)
          (fun ls1 H1 locs1 f1 q1 q2 q3 q4 => KK _ _ f1 ls1 H1 locs1 ⟨h.mov hx hy (nI 0), q1, q2, q3, q4⟩)
      · cases hu : pAt v.1 (sPn v) (nI x) (nI y) with
        | none => exact absurd (Or.inl hu) hc
        | some u =>
          exact lk_move_3 CX v w i hi hl hP hD hS hcl q u x y eq ex ey h.os hq1 hp hu (fun z => hc (Or.inr (by rw [hu, z]))) h.om (by omega) hx hy (by rw [← ep]; exact hu)
            (fun ls1 H1 locs1 f1 q1 q2 q3 q4 => KK _ _ f1 ls1 H1 locs1 ⟨h.thx _, q1, q2, q3, q4⟩)
    · exact lk_move_2 CX v w i hi hl hP hD hS hcl q _ _ eq rfl rfl h.os (by rw [← eq]; exact hq) (by simpa using hp) h.om (by rw [← eq, ← e2]; exact hq)
        (fun ls1 H1 locs1 f1 q1 q2 q3 q4 => KK _ _ f1 ls1 H1 locs1 ⟨h.thx _, q1, q2, q3, q4⟩)
  · have hq' : inB (xs (i + 1)) (sPn v) = false := by simpa using hq
    exact lk_move_1 CX v w i hi hl hP hD hS hcl _ _ _ rfl rfl rfl h.os hq' h.om (by rw [← e2]; exact hq')
      (fun ls1 H1 locs1 f1 q1 q2 q3 q4 => KK _ _ f1 ls1 H1 locs1 ⟨h.thx _, q1, q2, q3, q4⟩)
theorem lc_triangle (CX : LX p l s m meth c args dC dI cI cL cZ sc L xs) (hi : i + 4 ≤ L) (hcl : cells + 1 ≤ 1054 ∧ slots + 6 ≤ 10461) (hh : LH s dC dI cI cL cZ sc L a b o f v w i ls H locs) (KK : LG p l e s m args below meth c cells slots Q dC dI cI cL cZ sc L a b o i) : W p l e room_1 s m args below meth c H locs cells slots Q (F0 m 248 ls []) := by
  obtain ⟨h, hl, hP, hD, hS⟩ := hh
  have hpn := h.om.2.1; have e2 := h.2.1; have e3 := h.2.2.1; have e4 := h.2.2.2.1
  have b1 := h.om.2.2.1; have b2 := h.om.2.2.2.1
  by_cases hq : (inB (xs (i + 1)) (sPn v) && (inB (xs (i + 2)) (sPn v) && inB (xs (i + 3)) (sPn v))) = true
  · simp only [Bool.and_eq_true] at hq
    obtain ⟨x, hx, ex⟩ := inB_of (by omega) hq.1
    obtain ⟨y, hy, ey⟩ := inB_of (by omega) hq.2.1
    obtain ⟨z, hz, ez⟩ := inB_of (by omega) hq.2.2
    by_cases hd : x ≠ y ∧ y ≠ z ∧ x ≠ z
    · by_cases hc : sTn v < 60 ∧ sTm v < 200
      · exact lk_triangle_0 CX v w i hi hl hP hD hS hcl x y z ex ey ez h.os hx hy hz hd hc h.om (by omega) (by omega) (by omega) (by omega) e4 (by omega)
          (fun ls1 H1 locs1 f1 q1 q2 q3 q4 => KK _ _ f1 ls1 H1 locs1 ⟨(h.thx (nI 0)).addT ⟨by show x < mPn w; omega, by show y < mPn w; omega, by show z < mPn w; omega⟩ hd hc, q1, q2, q3, q4⟩)
      · exact lk_triangle_3 CX v w i hi hl hP hD hS hcl x y z ex ey ez h.os hx hy hz hd hc h.om (by omega) (by omega) (by omega) (by omega)
          (fun ls1 H1 locs1 f1 q1 q2 q3 q4 => KK _ _ f1 ls1 H1 locs1 ⟨h.thx _, q1, q2, q3, q4⟩)
    · exact lk_triangle_2 CX v w i hi hl hP hD hS hcl x y z ex ey ez h.os hx hy hz hd h.om (by omega) (by omega) (by omega) (by omega)
        (fun ls1 H1 locs1 f1 q1 q2 q3 q4 => KK _ _ f1 ls1 H1 locs1 ⟨h.thx _, q1, q2, q3, q4⟩)
  · have hq' : (inB (xs (i + 1)) (sPn v) && (inB (xs (i + 2)) (sPn v) && inB (xs (i + 3)) (sPn v))) = false := by
      cases z : (inB (xs (i + 1)) (sPn v) && (inB (xs (i + 2)) (sPn v) && inB (xs (i + 3)) (sPn v)))
      · rfl
      · exact absurd z hq
    exact lk_triangle_1 CX v w i hi hl hP hD hS hcl _ _ _ rfl rfl rfl h.os hq' h.om (by rw [← e2]; exact hq')
      (fun ls1 H1 locs1 f1 q1 q2 q3 q4 => KK _ _ f1 ls1 H1 locs1 ⟨h.thx _, q1, q2, q3, q4⟩)
theorem lc_take (CX : LX p l s m meth c args dC dI cI cL cZ sc L xs) (hi : i + 4 ≤ L) (hcl : cells + 1 ≤ 1054 ∧ slots + 6 ≤ 10461) (hh : LH s dC dI cI cL cZ sc L a b o f v w i ls H locs) (KK : LG p l e s m args below meth c cells slots Q dC dI cI cL cZ sc L a b o i) : W p l e room_1 s m args below meth c H locs cells slots Q (F0 m 328 ls []) := by
  obtain ⟨h, hl, hP, hD, hS⟩ := hh
  have b1 := h.om.2.2.1; have e3 := h.2.2.1
  by_cases ht : mth w (xs (i + 1)) = true
  · obtain ⟨t, h1, et, hz⟩ := mth_of (by omega) ht
    have ht' := ht
    rw [et] at ht'
    obtain ⟨k, hk, ek⟩ := h.ls.mem.mpr ⟨h1, hz⟩
    exact lk_take_0 CX v w i hi hl hP hD hS hcl t et h.os (by omega) (by rw [h.th]; exact ht') h.om ht' (by omega)
      (fun ls1 H1 locs1 f1 q1 q2 q3 q4 => KK _ _ f1 ls1 H1 locs1 ⟨h.rem h1 hz (nI 0), q1, q2, q3, q4⟩)
  · have ht' : mth w (xs (i + 1)) = false := by simpa using ht
    exact lk_take_1 CX v w i hi hl hP hD hS hcl _ rfl h.os (by rw [h.th]; exact ht') h.om ht'
      (fun ls1 H1 locs1 f1 q1 q2 q3 q4 => KK _ _ f1 ls1 H1 locs1 ⟨h.thx _, q1, q2, q3, q4⟩)
theorem lc_part (CX : LX p l s m meth c args dC dI cI cL cZ sc L xs) (hi : i + 4 ≤ L) (hcl : cells + 1 ≤ 1054 ∧ slots + 6 ≤ 10461) (hh : LH s dC dI cI cL cZ sc L a b o f v w i ls H locs) (KK : LG p l e s m args below meth c cells slots Q dC dI cI cL cZ sc L a b o i) : W p l e room_1 s m args below meth c H locs cells slots Q (F0 m 364 ls []) := by
  obtain ⟨h, hl, hP, hD, hS⟩ := hh
  have hpn := h.om.2.1; have e2 := h.2.1; have e3 := h.2.2.1; have e4 := h.2.2.2.1
  have b1 := h.om.2.2.1; have b2 := h.om.2.2.2.1
  by_cases ht : mth w (xs (i + 1)) = true
  · obtain ⟨t, h1, et, hz⟩ := mth_of (by omega) ht
    have ht' := ht
    rw [et] at ht'
    have hth : thB (sTh v) (sTn v) (nI t) = true := by rw [h.th]; exact ht'
    by_cases hp : (inB (xs (i + 2)) 512 && inB (xs (i + 3)) 512) = true
    · obtain ⟨⟨x, hx, ex⟩, ⟨y, hy, ey⟩⟩ := inB2 (by decide) hp
      rw [ex, ey] at hp
      have ep : pAt v.1 (sPn v) (nI x) (nI y) = pAt w.1 (mPn w) (nI x) (nI y) := by rw [h.g, e2]
      by_cases hw : wit w.1 t (x : Int) (y : Int) = true
      · have hwv : wit v.1 t (x : Int) (y : Int) = true := by rw [h.g]; exact hw
        by_cases hc : pAt v.1 (sPn v) (nI x) (nI y) = none ∧ sPn v < 60 ∧ sTn v + 2 ≤ 60 ∧ sTm v + 2 ≤ 200
        · exact lk_part_0 CX v w i hi hl hP hD hS hcl t x y et ex ey h.os (by omega) hx hy hth hwv hc h.om ht' hw ⟨by rw [← ep]; exact hc.1, by show mPn w < 60; omega, by show mTn w + 2 ≤ 60; omega, by show mTm w + 2 ≤ 200; omega⟩ e2 (by show mPn w < 2 ^ 31; omega)
            (fun ls1 H1 locs1 f1 q1 q2 q3 q4 => KK _ _ f1 ls1 H1 locs1 ⟨h.par h1 hz hx hy hc.2.1 hc.2.2, q1, q2, q3, q4⟩)
        · exact lk_part_3 CX v w i hi hl hP hD hS hcl t x y et ex ey h.os (by omega) hx hy hth hwv hc h.om ht' hw (fun q => by
            have q' : pAt v.1 (sPn v) (nI x) (nI y) = none := by rw [ep]; exact q
            show mPn w = 60 ∨ 60 < mTn w + 2 ∨ 200 < mTm w + 2
            have : ¬ (sPn v < 60 ∧ sTn v + 2 ≤ 60 ∧ sTm v + 2 ≤ 200) := fun z => hc ⟨q', z⟩
            omega)
            (fun ls1 H1 locs1 f1 q1 q2 q3 q4 => KK _ _ f1 ls1 H1 locs1 ⟨(h.thx _).thx _, q1, q2, q3, q4⟩)
      · have hw' : wit w.1 t (x : Int) (y : Int) = false := by simpa using hw
        exact lk_part_2b CX v w i hi hl hP hD hS hcl t x y et ex ey h.os (by omega) hx hy hth (by rw [h.g]; exact hw') h.om ht' (by
          rw [nI_toInt (by omega), nI_toInt (by omega)]
          show (_ && wit w.1 t (x : Int) (y : Int)) = false
          rw [hw', Bool.and_false])
          (fun ls1 H1 locs1 f1 q1 q2 q3 q4 => KK _ _ f1 ls1 H1 locs1 ⟨(h.thx _).thx _, q1, q2, q3, q4⟩)
    · have hp' : (inB (xs (i + 2)) 512 && inB (xs (i + 3)) 512) = false := by
        cases z : (inB (xs (i + 2)) 512 && inB (xs (i + 3)) 512)
        · rfl
        · exact absurd z hp
      exact lk_part_2 CX v w i hi hl hP hD hS hcl t _ _ et rfl rfl h.os hth hp' h.om (by omega) ht' (by rw [hp', Bool.false_and])
        (fun ls1 H1 locs1 f1 q1 q2 q3 q4 => KK _ _ f1 ls1 H1 locs1 ⟨(h.thx _).thx _, q1, q2, q3, q4⟩)
  · have ht' : mth w (xs (i + 1)) = false := by simpa using ht
    exact lk_part_1 CX v w i hi hl hP hD hS hcl _ _ _ rfl rfl rfl h.os (by rw [h.th]; exact ht') h.om ht'
      (fun ls1 H1 locs1 f1 q1 q2 q3 q4 => KK _ _ f1 ls1 H1 locs1 ⟨h.thx _, q1, q2, q3, q4⟩)
theorem lc_turn (CX : LX p l s m meth c args dC dI cI cL cZ sc L xs) (hi : i + 4 ≤ L) (hcl : cells + 1 ≤ 1054 ∧ slots + 6 ≤ 10461) (hh : LH s dC dI cI cL cZ sc L a b o f v w i ls H locs) (KK : LG p l e s m args below meth c cells slots Q dC dI cI cL cZ sc L a b o i) : W p l e room_1 s m args below meth c H locs cells slots Q (F0 m 444 ls []) := by
  obtain ⟨h, hl, hP, hD, hS⟩ := hh
  have b1 := h.om.2.2.1
  by_cases hc : (mth w (xs (i + 1)) && inB (xs (i + 2)) 3) = true
  · simp only [Bool.and_eq_true] at hc
    obtain ⟨t, h1, et, hz⟩ := mth_of (by omega) hc.1
    obtain ⟨j, hj, ej⟩ := inB_of (by decide) hc.2
    have ht' := hc.1
    rw [et] at ht'
    exact lk_turn_0 CX v w i hi hl hP hD hS hcl t j et ej h.os (by omega) hj (by rw [h.th]; exact ht') h.om ht' ((h.thx (nI 0)).tB h1 hz hj)
      (fun ls1 H1 locs1 f1 q1 q2 q3 q4 => KK _ _ f1 ls1 H1 locs1 ⟨(h.thx (nI 0)).tS h1 hz hj, q1, q2, q3, q4⟩)
  · have hc' : (mth w (xs (i + 1)) && inB (xs (i + 2)) 3) = false := by
      cases z : (mth w (xs (i + 1)) && inB (xs (i + 2)) 3)
      · rfl
      · exact absurd z hc
    exact lk_turn_1 CX v w i hi hl hP hD hS hcl _ _ rfl rfl h.os (by rw [h.th, Bool.and_comm]; exact hc') h.om hc'
      (fun ls1 H1 locs1 f1 q1 q2 q3 q4 => KK _ _ f1 ls1 H1 locs1 ⟨h.thx _, q1, q2, q3, q4⟩)
theorem mimp_le : ∀ (k : Nat) (w : MV), (mimp k w).1 ≤ k
  | 0, w => by simp [mimp]
  | k + 1, w => by
    have := mimp_le k (mfS w)
    rw [mimp]; split
    · show (mimp k (mfS w)).1 + 1 ≤ k + 1; omega
    · show 0 ≤ k + 1; omega
theorem lc_improve (CX : LX p l s m meth c args dC dI cI cL cZ sc L xs) (hi : i + 4 ≤ L) (hcl : cells + 1 ≤ 1054 ∧ slots + 6 ≤ 10461) (hh : LH s dC dI cI cL cZ sc L a b o f v w i ls H locs) (KK : LG p l e s m args below meth c cells slots Q dC dI cI cL cZ sc L a b o i) : W p l e room_1 s m args below meth c H locs cells slots Q (F0 m 519 ls []) := by
  obtain ⟨h, hl, hP, hD, hS⟩ := hh
  by_cases hc : inB (xs (i + 1)) 501 = true
  · obtain ⟨x, hx, ex⟩ := inB_of (by decide) hc
    obtain ⟨r1, r2⟩ := Rel.imp x (h.thx (nI 0))
    exact lk_improve_0 CX v w i hi hl hP hD hS hcl x ex h.os hx h.om r1 (by have := mimp_le x (mThx w (nI 0)); omega)
      (fun ls1 H1 locs1 f1 q1 q2 q3 q4 => KK _ _ f1 ls1 H1 locs1 ⟨r2, q1, q2, q3, q4⟩)
  · exact lk_improve_1 CX v w i hi hl hP hD hS hcl _ rfl h.os (by simpa using hc)
      (fun ls1 H1 locs1 f1 q1 q2 q3 q4 => KK _ _ f1 ls1 H1 locs1 ⟨h.thx _, q1, q2, q3, q4⟩)
end LC
