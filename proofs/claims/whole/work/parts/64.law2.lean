/-! THE LAW'S CASES: what is asked -/
theorem up_ok2 {N : Nat} {f : Nat → Nat} {w : MV} {t k : Nat} {mo : Bool} (h : ∀ j, f j < N) : ∀ j, (sw1 w t k f mo).1 j < N := by
  unfold sw1
  cases hq : mnb w t k with
  | none => exact h
  | some u =>
    simp only []
    split
    · exact h
    · exact up_ltm h
theorem swk_ok2 {N : Nat} {w : MV} {t : Nat} : ∀ (k n : Nat) {f : Nat → Nat} {mo : Bool}, (∀ j, f j < N) → ∀ j, (swk w t k n f mo).1 j < N
  | 0, n, f, mo, h => h
  | k + 1, n, f, mo, h => by
    rw [swk]; split
    · exact swk_ok2 k (n + 1) (up_ok2 h)
    · exact h
theorem swt_ok2 {N : Nat} {w : MV} : ∀ (k n : Nat) {f : Nat → Nat} {mo : Bool}, (∀ j, f j < N) → ∀ j, (swt w k n f mo).1 j < N
  | 0, n, f, mo, h => h
  | k + 1, n, f, mo, h => by rw [swt]; exact swt_ok2 k (n + 1) (swk_ok2 3 0 h)
theorem itr_ok2 {N : Nat} {w : MV} : ∀ (q : Nat) {f : Nat → Nat}, (∀ j, f j < N) → ∀ j, itr w q f j < N
  | 0, f, h => h
  | q + 1, f, h => by
    rw [itr]; split
    · exact itr_ok2 q (swt_ok2 _ _ h)
    · exact swt_ok2 _ _ h
theorem mfin_lt {w : MV} (hw : okM w) : ∀ j, mfin w j < 200 := by
  refine itr_ok2 40001 (fun j => ?_)
  have := hw.2.2.1
  rw [mi0_e]; split
  · omega
  · exact hw.2.2.2.2 j
theorem Rel.jo {v : SV} {w : MV} (h : Rel v w) (f : Nat → Int64) : Rel (sJoX v f) w := h
theorem Rel.pm {v : SV} {w : MV} (h : Rel v w) : Rel (sPiX v (pcs v).1) (mMkX w (mfin w)) := by
  obtain ⟨a1, a2, a3, a4, a5, a6, a7, a8, a9⟩ := id h
  exact ⟨a1, a2, a3, a4, a5, a6, ⟨a7.1, a7.2.1, a7.2.2.1, a7.2.2.2.1, a7.2.2.2.2.1, (pcs_ci h).1⟩, ⟨a8.1, a8.2.1, a8.2.2.1, a8.2.2.2.1, mfin_lt a8⟩, a9⟩
section LD
variable {p : Program} {l : Launch} {e : Env} {s : State} {m : MethodId} {args : Array Value} {below : List Frame} {meth : Method} {c : Code} {H : Heap} {locs : List Loc} {cells slots : Nat} {Q : State → Prop} {dC : Nat → ClassId} {dI : Nat → Nat → Nat} {cI cL cZ : ClassId} {sc L : Nat} {xs : Nat → Int32} {a b : Nat → Nat} {o : Nat} {f : Nat → Int64} {ls : Array Slot} {v : SV} {w : MV} {i : Nat}
theorem lc_fault (CX : LX p l s m meth c args dC dI cI cL cZ sc L xs) (hi : i + 4 ≤ L) (hcl : cells + 1 ≤ 1054 ∧ slots + 6 ≤ 10461) (hh : LH s dC dI cI cL cZ sc L a b o f v w i ls H locs) (KK : LG p l e s m args below meth c cells slots Q dC dI cI cL cZ sc L a b o i) : W p l e room_1 s m args below meth c H locs cells slots Q (F0 m 575 ls []) := by
  obtain ⟨h, hl, hP, hD, hS⟩ := hh
  exact lk_fault CX v w i hi hl hP hD hS hcl h.os h.om (by rw [((h.thx (nI 0)).fa2).1]) (fun ls1 H1 locs1 f1 q1 q2 q3 q4 => KK _ _ f1 ls1 H1 locs1 ⟨((h.thx (nI 0)).fa2).2, q1, q2, q3, q4⟩)
theorem lc_culprit (CX : LX p l s m meth c args dC dI cI cL cZ sc L xs) (hi : i + 4 ≤ L) (hcl : cells + 1 ≤ 1054 ∧ slots + 6 ≤ 10461) (hh : LH s dC dI cI cL cZ sc L a b o f v w i ls H locs) (KK : LG p l e s m args below meth c cells slots Q dC dI cI cL cZ sc L a b o i) : W p l e room_1 s m args below meth c H locs cells slots Q (F0 m 588 ls []) := by
  obtain ⟨h, hl, hP, hD, hS⟩ := hh
  exact lk_culprit CX v w i hi hl hP hD hS hcl _ rfl ((h.thx (nI 0)).cul _) (fun ls1 H1 locs1 f1 q1 q2 q3 q4 => KK _ _ f1 ls1 H1 locs1 ⟨h.thx _, q1, q2, q3, q4⟩)
theorem lc_covers (CX : LX p l s m meth c args dC dI cI cL cZ sc L xs) (hi : i + 4 ≤ L) (hcl : cells + 1 ≤ 1054 ∧ slots + 6 ≤ 10461) (hh : LH s dC dI cI cL cZ sc L a b o f v w i ls H locs) (KK : LG p l e s m args below meth c cells slots Q dC dI cI cL cZ sc L a b o i) : W p l e room_1 s m args below meth c H locs cells slots Q (F0 m 613 ls []) := by
  obtain ⟨h, hl, hP, hD, hS⟩ := hh
  exact lk_covers CX v w i hi hl hP hD hS hcl _ _ rfl rfl h.os h.om (by rw [(h.thx (nI 0)).covs]) (fun ls1 H1 locs1 f1 q1 q2 q3 q4 => KK _ _ f1 ls1 H1 locs1 ⟨h.thx _, q1, q2, q3, q4⟩)
theorem lc_who (CX : LX p l s m meth c args dC dI cI cL cZ sc L xs) (hi : i + 4 ≤ L) (hcl : cells + 1 ≤ 1054 ∧ slots + 6 ≤ 10461) (hh : LH s dC dI cI cL cZ sc L a b o f v w i ls H locs) (KK : LG p l e s m args below meth c cells slots Q dC dI cI cL cZ sc L a b o i) : W p l e room_1 s m args below meth c H locs cells slots Q (F0 m 650 ls []) := by
  obtain ⟨h, hl, hP, hD, hS⟩ := hh
  exact lk_who CX v w i hi hl hP hD hS hcl _ _ rfl rfl h.os h.om (by rw [(h.thx (nI 0)).who]) (fun ls1 H1 locs1 f1 q1 q2 q3 q4 => KK _ _ f1 ls1 H1 locs1 ⟨h.thx _, q1, q2, q3, q4⟩)
theorem lc_locate (CX : LX p l s m meth c args dC dI cI cL cZ sc L xs) (hi : i + 4 ≤ L) (hcl : cells + 1 ≤ 1054 ∧ slots + 6 ≤ 10461) (hh : LH s dC dI cI cL cZ sc L a b o f v w i ls H locs) (KK : LG p l e s m args below meth c cells slots Q dC dI cI cL cZ sc L a b o i) : W p l e room_1 s m args below meth c H locs cells slots Q (F0 m 713 ls []) := by
  obtain ⟨h, hl, hP, hD, hS⟩ := hh
  exact lk_locate CX v w i hi hl hP hD hS hcl _ _ rfl rfl h.os h.om (by rw [(h.thx (nI 0)).loc]) (fun ls1 H1 locs1 f1 q1 q2 q3 q4 => KK _ _ f1 ls1 H1 locs1 ⟨h.thx _, q1, q2, q3, q4⟩)
theorem lc_beside (CX : LX p l s m meth c args dC dI cI cL cZ sc L xs) (hi : i + 4 ≤ L) (hcl : cells + 1 ≤ 1054 ∧ slots + 6 ≤ 10461) (hh : LH s dC dI cI cL cZ sc L a b o f v w i ls H locs) (KK : LG p l e s m args below meth c cells slots Q dC dI cI cL cZ sc L a b o i) : W p l e room_1 s m args below meth c H locs cells slots Q (F0 m 750 ls []) := by
  obtain ⟨h, hl, hP, hD, hS⟩ := hh
  exact lk_beside CX v w i hi hl hP hD hS hcl _ _ rfl rfl h.os h.om (by rw [(h.thx (nI 0)).bes]) (fun ls1 H1 locs1 f1 q1 q2 q3 q4 => KK _ _ f1 ls1 H1 locs1 ⟨h.thx _, q1, q2, q3, q4⟩)
theorem lc_isGood (CX : LX p l s m meth c args dC dI cI cL cZ sc L xs) (hi : i + 4 ≤ L) (hcl : cells + 1 ≤ 1054 ∧ slots + 6 ≤ 10461) (hh : LH s dC dI cI cL cZ sc L a b o f v w i ls H locs) (KK : LG p l e s m args below meth c cells slots Q dC dI cI cL cZ sc L a b o i) : W p l e room_1 s m args below meth c H locs cells slots Q (F0 m 787 ls []) := by
  obtain ⟨h, hl, hP, hD, hS⟩ := hh
  exact lk_isGood CX v w i hi hl hP hD hS hcl _ _ rfl rfl h.os h.om (by rw [(h.thx (nI 0)).goo]) (fun ls1 H1 locs1 f1 q1 q2 q3 q4 => KK _ _ f1 ls1 H1 locs1 ⟨h.thx _, q1, q2, q3, q4⟩)
theorem lc_corner (CX : LX p l s m meth c args dC dI cI cL cZ sc L xs) (hi : i + 4 ≤ L) (hcl : cells + 1 ≤ 1054 ∧ slots + 6 ≤ 10461) (hh : LH s dC dI cI cL cZ sc L a b o f v w i ls H locs) (KK : LG p l e s m args below meth c cells slots Q dC dI cI cL cZ sc L a b o i) : W p l e room_1 s m args below meth c H locs cells slots Q (F0 m 824 ls []) := by
  obtain ⟨h, hl, hP, hD, hS⟩ := hh
  exact lk_corner CX v w i hi hl hP hD hS hcl _ _ rfl rfl h.os h.om (by rw [(h.thx (nI 0)).cor]) (fun ls1 H1 locs1 f1 q1 q2 q3 q4 => KK _ _ f1 ls1 H1 locs1 ⟨h.thx _, q1, q2, q3, q4⟩)
theorem lc_painted (CX : LX p l s m meth c args dC dI cI cL cZ sc L xs) (hi : i + 4 ≤ L) (hcl : cells + 1 ≤ 1054 ∧ slots + 6 ≤ 10461) (hh : LH s dC dI cI cL cZ sc L a b o f v w i ls H locs) (KK : LG p l e s m args below meth c cells slots Q dC dI cI cL cZ sc L a b o i) : W p l e room_1 s m args below meth c H locs cells slots Q (F0 m 687 ls []) := by
  obtain ⟨h, hl, hP, hD, hS⟩ := hh
  by_cases hx : inB (xs (i + 1)) 4 = true
  · obtain ⟨k, hk, ek⟩ := inB_of (by decide) hx
    rcases (show k = 0 ∨ k = 1 ∨ k = 2 ∨ k = 3 by omega) with rfl | rfl | rfl | rfl
    · exact lk_painted_0 CX v w i hi hl hP hD hS hcl ek h.os h.om (by rw [(h.thx (nI 0)).px0]) (fun ls1 H1 locs1 f1 q1 q2 q3 q4 => KK _ _ f1 ls1 H1 locs1 ⟨h.thx _, q1, q2, q3, q4⟩)
    · exact lk_painted_1 CX v w i hi hl hP hD hS hcl ek h.os h.om (by rw [(h.thx (nI 0)).px1]) (fun ls1 H1 locs1 f1 q1 q2 q3 q4 => KK _ _ f1 ls1 H1 locs1 ⟨h.thx _, q1, q2, q3, q4⟩)
    · exact lk_painted_2 CX v w i hi hl hP hD hS hcl ek h.os h.om (by rw [(h.thx (nI 0)).px2]) (fun ls1 H1 locs1 f1 q1 q2 q3 q4 => KK _ _ f1 ls1 H1 locs1 ⟨h.thx _, q1, q2, q3, q4⟩)
    · exact lk_painted_3 CX v w i hi hl hP hD hS hcl ek h.os h.om (by rw [(h.thx (nI 0)).sot]) (fun ls1 H1 locs1 f1 q1 q2 q3 q4 => KK _ _ f1 ls1 H1 locs1 ⟨h.thx _, q1, q2, q3, q4⟩)
  · have hx9 : (xs (i + 1)).toInt < 0 ∨ 3 < (xs (i + 1)).toInt := by
      simp only [inB, decide_eq_true_eq] at hx; omega
    exact lk_painted_b CX v w i hi hl hP hD hS hcl _ rfl hx9 (fun ls1 H1 locs1 f1 q1 q2 q3 q4 => KK _ _ f1 ls1 H1 locs1 ⟨h.thx _, q1, q2, q3, q4⟩)
theorem lc_count (CX : LX p l s m meth c args dC dI cI cL cZ sc L xs) (hi : i + 4 ≤ L) (hcl : cells + 1 ≤ 1054 ∧ slots + 6 ≤ 10461) (hh : LH s dC dI cI cL cZ sc L a b o f v w i ls H locs) (KK : LG p l e s m args below meth c cells slots Q dC dI cI cL cZ sc L a b o i) : W p l e room_1 s m args below meth c H locs cells slots Q (F0 m 861 ls []) := by
  obtain ⟨h, hl, hP, hD, hS⟩ := hh
  by_cases hx : inB (xs (i + 1)) 8 = true
  · obtain ⟨k, hk, ek⟩ := inB_of (by decide) hx
    rcases (show k = 0 ∨ k = 1 ∨ k = 2 ∨ k = 3 ∨ k = 4 ∨ k = 5 ∨ k = 6 ∨ k = 7 by omega) with rfl | rfl | rfl | rfl | rfl | rfl | rfl | rfl
    · exact lk_count_0 CX v w i hi hl hP hD hS hcl ek h.os h.om (congrArg nI h.2.1) (fun ls1 H1 locs1 f1 q1 q2 q3 q4 => KK _ _ f1 ls1 H1 locs1 ⟨h.thx _, q1, q2, q3, q4⟩)
    · exact lk_count_1 CX v w i hi hl hP hD hS hcl ek h.os h.om (congrArg nI h.2.2.1) (fun ls1 H1 locs1 f1 q1 q2 q3 q4 => KK _ _ f1 ls1 H1 locs1 ⟨h.thx _, q1, q2, q3, q4⟩)
    · exact lk_count_2 CX v w i hi hl hP hD hS hcl ek h.os h.om (congrArg nI h.2.2.2.1) (fun ls1 H1 locs1 f1 q1 q2 q3 q4 => KK _ _ f1 ls1 H1 locs1 ⟨h.thx _, q1, q2, q3, q4⟩)
    · exact lk_count_3 CX v w i hi hl hP hD hS hcl ek h.os h.om (h.thx (nI 0)).ccp (fun ls1 H1 locs1 f1 q1 q2 q3 q4 => KK _ _ f1 ls1 H1 locs1 ⟨h.thx _, q1, q2, q3, q4⟩)
    · exact lk_count_4 CX v w i hi hl hP hD hS hcl ek h.os h.om (h.thx (nI 0)).cde (fun ls1 H1 locs1 f1 q1 q2 q3 q4 => KK _ _ f1 ls1 H1 locs1 ⟨(h.thx (nI 0)).jo _, q1, q2, q3, q4⟩)
    · exact lk_count_5 CX v w i hi hl hP hD hS hcl ek h.os h.om (by rw [(h.thx (nI 0)).lon]) (fun ls1 H1 locs1 f1 q1 q2 q3 q4 => KK _ _ f1 ls1 H1 locs1 ⟨h.thx _, q1, q2, q3, q4⟩)
    · exact lk_count_6 CX v w i hi hl hP hD hS hcl ek h.os h.om (by rw [(h.thx (nI 0)).pie]; exact (nI_z _).symm) (fun ls1 H1 locs1 f1 q1 q2 q3 q4 => KK _ _ f1 ls1 H1 locs1 ⟨(h.thx (nI 0)).pm, q1, q2, q3, q4⟩)
    · exact lk_count_7 CX v w i hi hl hP hD hS hcl ek h.os h.om (by rw [(h.thx (nI 0)).bad]) (fun ls1 H1 locs1 f1 q1 q2 q3 q4 => KK _ _ f1 ls1 H1 locs1 ⟨h.thx _, q1, q2, q3, q4⟩)
  · have hx9 : (xs (i + 1)).toInt < 0 ∨ 7 < (xs (i + 1)).toInt := by
      simp only [inB, decide_eq_true_eq] at hx; omega
    exact lk_count_b CX v w i hi hl hP hD hS hcl _ rfl hx9 rfl (fun ls1 H1 locs1 f1 q1 q2 q3 q4 => KK _ _ f1 ls1 H1 locs1 ⟨h.thx _, q1, q2, q3, q4⟩)
end LD
