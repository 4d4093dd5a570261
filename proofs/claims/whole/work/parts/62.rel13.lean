/-! the reference's marks, and the two counts of pieces -/
def MI (w : MV) (f : Nat → Nat) : Prop := ∀ t, inT w t → inT w (f t) ∧ ∀ F, EC w F → F (f t) = F t
section MK
variable {w : MV}
theorem sw1_mi {t k : Nat} {f : Nat → Nat} {mo : Bool} (ht : inT w t) (hk : k < 3) (h : MI w f) : MI w (sw1 w t k f mo).1 := by
  unfold sw1
  cases hq : mnb w t k with
  | none => exact h
  | some u =>
    have hu : inT w u := ⟨(mnb_lt hq).1, (mnb_lt hq).2.1⟩
    simp only []
    split
    · exact h
    · intro z hz
      have hl : inT w (min (f u) (f t)) ∧ ∀ F, EC w F → F (min (f u) (f t)) = F t := by
        rcases (show min (f u) (f t) = f u ∨ min (f u) (f t) = f t by omega) with e | e
        · rw [e]; exact ⟨(h u hu).1, fun F hF => ((h u hu).2 F hF).trans (hF t k u ht hk hq)⟩
        · rw [e]; exact h t ht
      show inT w (va_up (va_up f u (min (f u) (f t))) t (min (f u) (f t)) z) ∧ ∀ F, EC w F → F (va_up (va_up f u (min (f u) (f t))) t (min (f u) (f t)) z) = F z
      unfold va_up
      by_cases e1 : z = t
      · rw [if_pos e1, e1]; exact hl
      · rw [if_neg e1]
        by_cases e2 : z = u
        · rw [if_pos e2, e2]; exact ⟨hl.1, fun F hF => (hl.2 F hF).trans (hF t k u ht hk hq).symm⟩
        · rw [if_neg e2]; exact h z hz
theorem swk_mi {t : Nat} (ht : t < mTm w) : ∀ (k n : Nat) {f : Nat → Nat} {mo : Bool}, n + k ≤ 3 → MI w f → MI w (swk w t k n f mo).1
  | 0, n, f, mo, _, h => h
  | k + 1, n, f, mo, hn, h => by
    rw [swk]; split
    · rename_i hz; exact swk_mi ht k (n + 1) (by omega) (sw1_mi ⟨ht, hz⟩ (by omega) h)
    · exact h
theorem swt_mi : ∀ (k n : Nat) {f : Nat → Nat} {mo : Bool}, n + k ≤ mTm w → MI w f → MI w (swt w k n f mo).1
  | 0, n, f, mo, _, h => h
  | k + 1, n, f, mo, hn, h => by
    rw [swt]; exact swt_mi k (n + 1) (by omega) (swk_mi (by omega) 3 0 (by omega) h)
theorem itr_mi : ∀ (q : Nat) {f : Nat → Nat}, MI w f → MI w (itr w q f)
  | 0, f, h => h
  | q + 1, f, h => by
    have h1 : MI w (swp w f).1 := swt_mi (mTm w) 0 (by omega) h
    rw [itr]; split
    · exact itr_mi q h1
    · exact h1
theorem sw1_f {t k : Nat} {f : Nat → Nat} {mo : Bool} (h : (sw1 w t k f mo).2 = false) : mo = false ∧ (sw1 w t k f mo).1 = f ∧ ∀ u, mnb w t k = some u → f u = f t := by
  unfold sw1 at h ⊢
  cases hq : mnb w t k with
  | none => rw [hq] at h; exact ⟨h, rfl, fun u hu => nomatch hu⟩
  | some u =>
    rw [hq] at h
    simp only [] at h ⊢
    by_cases e : f u = f t
    · rw [if_pos e] at h ⊢
      exact ⟨h, rfl, fun u' hu' => by cases hu'; exact e⟩
    · rw [if_neg e] at h; cases h
theorem swk_f {t : Nat} : ∀ (k n : Nat) {f : Nat → Nat} {mo : Bool}, (swk w t k n f mo).2 = false → mo = false ∧ (swk w t k n f mo).1 = f ∧ (mIs w t = true → ∀ k', n ≤ k' → k' < n + k → ∀ u, mnb w t k' = some u → f u = f t)
  | 0, n, f, mo, h => ⟨h, rfl, fun _ k' h1 h2 => by omega⟩
  | k + 1, n, f, mo, h => by
    rw [swk] at h ⊢
    by_cases hz : mIs w t = true
    · rw [if_pos hz] at h ⊢
      obtain ⟨a1, a2, a3⟩ := swk_f k (n + 1) h
      obtain ⟨b1, b2, b3⟩ := sw1_f a1
      rw [b2] at a2 a3
      refine ⟨b1, by rw [b2]; exact a2, fun _ k' h1 h2 u hu => ?_⟩
      by_cases e : k' = n
      · subst e; exact b3 u hu
      · exact a3 hz k' (by omega) (by omega) u hu
    · rw [if_neg hz] at h ⊢
      exact ⟨h, rfl, fun q => absurd q hz⟩
theorem swt_f : ∀ (k n : Nat) {f : Nat → Nat} {mo : Bool}, (swt w k n f mo).2 = false → mo = false ∧ (swt w k n f mo).1 = f ∧ ∀ t, n ≤ t → t < n + k → mIs w t = true → ∀ k', k' < 3 → ∀ u, mnb w t k' = some u → f u = f t
  | 0, n, f, mo, h => ⟨h, rfl, fun t h1 h2 => by omega⟩
  | k + 1, n, f, mo, h => by
    rw [swt] at h ⊢
    obtain ⟨a1, a2, a3⟩ := swt_f k (n + 1) h
    obtain ⟨b1, b2, b3⟩ := swk_f 3 0 a1
    rw [b2] at a2 a3
    refine ⟨b1, by rw [b2]; exact a2, fun t h1 h2 hz k' hk' u hu => ?_⟩
    by_cases e : t = n
    · subst e; exact b3 hz k' (by omega) (by omega) u hu
    · exact a3 t (by omega) (by omega) hz k' hk' u hu
theorem swp_ec {f : Nat → Nat} (h : (swp w f).2 = false) : EC w f := by
  obtain ⟨-, -, h3⟩ := swt_f (mTm w) 0 h
  intro t k u ht hk hu
  exact h3 t (by omega) (by have := ht.1; omega) ht.2 k hk u hu
theorem itr_st : ∀ (q : Nat) {f : Nat → Nat}, sumM f (mTm w) < q → (swp w (itr w q f)).2 = false
  | 0, f, h => by omega
  | q + 1, f, h => by
    rw [itr]
    by_cases e : (swp w f).2 = true
    · rw [if_pos e]
      exact itr_st q (by have := swp_t e; omega)
    · rw [if_neg e]
      have e' : (swp w f).2 = false := by
        cases hq : (swp w f).2
        · rfl
        · exact absurd hq e
      rw [swp_f e']; exact e'
theorem mi0_e {z : Nat} : ∀ (k n : Nat) (f : Nat → Nat), mi0 k n f z = if n ≤ z ∧ z < n + k then z else f z
  | 0, n, f => by rw [mi0, if_neg (by omega)]
  | k + 1, n, f => by
    rw [mi0, mi0_e k (n + 1)]
    by_cases e : z = n
    · subst e
      rw [if_neg (by omega), if_pos (by omega)]; simp [va_up]
    · by_cases h : n + 1 ≤ z ∧ z < n + 1 + k
      · rw [if_pos h, if_pos (by omega)]
      · rw [if_neg h, if_neg (by omega)]; unfold va_up; rw [if_neg e]
theorem mfin_ok (hw : okM w) : MI w (mfin w) ∧ EC w (mfin w) := by
  have hT := hw.2.2.1
  have h0 : ∀ j, mi0 (mTm w) 0 (mMk w) j < 200 := fun j => by
    rw [mi0_e]; split
    · omega
    · exact hw.2.2.2.2 j
  have hs : sumM (mi0 (mTm w) 0 (mMk w)) (mTm w) < 40001 := by
    have h1 : sumM (mi0 (mTm w) 0 (mMk w)) (mTm w) ≤ mTm w * 200 := smN_le h0
    omega
  refine ⟨itr_mi 40001 (fun t ht => ?_), swp_ec (itr_st 40001 hs)⟩
  have := ht.1
  rw [mi0_e, if_pos (by omega)]
  exact ⟨ht, fun F _ => rfl⟩
theorem smN_cnt (P : Nat → Bool) : ∀ k n : Nat, smN (fun i => if P i = true then 1 else 0) k n = cnt P k n
  | 0, n => rfl
  | k + 1, n => by rw [smN, cnt, smN_cnt P k (n + 1)]
theorem cnt_at (a : Nat) : ∀ k n : Nat, cnt (fun i => decide (i = a)) k n = if n ≤ a ∧ a < n + k then 1 else 0
  | 0, n => by rw [cnt, if_neg (by omega)]
  | k + 1, n => by
    rw [cnt, cnt_at a k (n + 1)]
    by_cases e : n = a
    · subst e
      rw [if_neg (show ¬ (n + 1 ≤ n ∧ n < n + 1 + k) by omega), if_pos (show n ≤ n ∧ n < n + (k + 1) by omega)]; simp
    · by_cases h : n + 1 ≤ a ∧ a < n + 1 + k
      · rw [if_pos h, if_pos (show n ≤ a ∧ a < n + (k + 1) by omega)]; simp [e]
      · rw [if_neg h, if_neg (show ¬ (n ≤ a ∧ a < n + (k + 1)) by omega)]; simp [e]
end MK
theorem Rel.pie {v : SV} {w : MV} (h : Rel v w) : (pcs v).2 = ((mpcC w : Nat) : Int) := by
  obtain ⟨c1, c2, c3, c4⟩ := pcs_ci h
  obtain ⟨m1, m2⟩ := mfin_ok h.om
  generalize (pcs v).1 = f at c1 c2 c3 c4
  unfold mpcC
  generalize mfin w = m at m1 m2
  have hf : EC w f := fun t k u ht hk hu => c4 t k trivial ht hk u hu
  rw [c2]
  refine congrArg _ ?_
  have e1 : smN (fun r => cnt (fun l => (mIs w r && decide (m r = r)) && decide (l = f r)) 200 0) (mTm w) 0 = cnt (fun t => mIs w t && decide (m t = t)) (mTm w) 0 := by
    rw [← smN_cnt]
    refine smN_congr (fun r _ _ => ?_)
    cases q : (mIs w r && decide (m r = r)) with
    | false => simp only [Bool.false_and]; rw [cnt_zero (fun _ _ _ => rfl)]; rfl
    | true =>
      simp only [Bool.true_and]
      have := c1 r
      rw [cnt_at, if_pos (by omega)]; rfl
  have e2 : smN (fun l => cnt (fun r => (mIs w r && decide (m r = r)) && decide (l = f r)) (mTm w) 0) 200 0 = cnt (pres v f) 200 0 := by
    rw [← smN_cnt]
    refine smN_congr (fun l _ _ => ?_)
    cases q : pres v f l with
    | false =>
      rw [cnt_zero (fun r _ hr => ?_)]
      · rfl
      · cases q1 : (mIs w r && decide (m r = r)) with
        | false => rfl
        | true =>
          rw [Bool.true_and]
          refine decide_eq_false (fun e => ?_)
          simp only [Bool.and_eq_true] at q1
          have : pres v f l = true := h.pr.mpr ⟨r, ⟨by omega, q1.1⟩, e.symm⟩
          rw [q] at this; cases this
    | true =>
      obtain ⟨t, ht, et⟩ := h.pr.mp q
      obtain ⟨mt, mF⟩ := m1 t ht
      have hmm : m (m t) = m t := mF m m2
      have hfm : f (m t) = f t := mF f hf
      rw [cnt_congr (Q := fun r => decide (r = m t)) (fun r _ hr => ?_)]
      · have := mt.1
        rw [cnt_at, if_pos (by omega)]; rfl
      · rw [Bool.eq_iff_iff]
        simp only [Bool.and_eq_true, decide_eq_true_eq]
        constructor
        · rintro ⟨⟨a1, a2⟩, a3⟩
          have hr' : inT w r := ⟨by omega, a1⟩
          have : m r = m t := c3 r t hr' ht (by rw [← a3, et]) m m2
          omega
        · intro e
          rw [e]
          exact ⟨⟨mt.2, hmm⟩, by rw [hfm, et]⟩
  rw [← e2, ← e1]
  exact (smc_swap (fun l r => (mIs w r && decide (m r = r)) && decide (l = f r)) (mTm w) 200)
