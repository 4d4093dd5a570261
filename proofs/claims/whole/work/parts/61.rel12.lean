/-! pieces: both count the classes of one relation -/
def inT (w : MV) (t : Nat) : Prop := t < mTm w ∧ mIs w t = true
def EC (w : MV) (F : Nat → Nat) : Prop := ∀ t k u, inT w t → k < 3 → mnb w t k = some u → F u = F t
def pres (v : SV) (f : Nat → Nat) (l : Nat) : Bool := anf (fun i => decide (f (sTh v i) = l)) (sTn v) 0
theorem anf_of {P : Nat → Bool} : ∀ {k n i : Nat}, n ≤ i → i < n + k → P i = true → anf P k n = true
  | 0, n, i, h1, h2, _ => by omega
  | k + 1, n, i, h1, h2, h3 => by
    rw [anf]
    by_cases e : i = n
    · rw [← e, h3]; rfl
    · rw [anf_of (k := k) (n := n + 1) (i := i) (by omega) (by omega) h3]; simp
section PC
variable {v : SV} {w : MV}
theorem Rel.mT (h : Rel v w) {t : Nat} : inT w t ↔ ∃ i, i < sTn v ∧ sTh v i = t := h.ls.mem.symm
theorem Rel.pr (h : Rel v w) {f : Nat → Nat} {l : Nat} : pres v f l = true ↔ ∃ t, inT w t ∧ f t = l := by
  constructor
  · intro q
    obtain ⟨i, -, hi, h3⟩ := anf_true q
    exact ⟨sTh v i, h.mT.mpr ⟨i, by omega, rfl⟩, by simpa using h3⟩
  · rintro ⟨t, ht, e⟩
    obtain ⟨i, hi, rfl⟩ := h.mT.mp ht
    exact anf_of (Nat.zero_le i) (by omega) (by simp [e])
def CI (v : SV) (w : MV) (f : Nat → Nat) (c : Int) (pr : Nat → Nat → Prop) : Prop :=
  (∀ j, f j < 200) ∧ c = ((cnt (pres v f) 200 0 : Nat) : Int) ∧ (∀ x y, inT w x → inT w y → f x = f y → ∀ F, EC w F → F x = F y) ∧ ∀ t k, pr t k → inT w t → k < 3 → ∀ u, mnb w t k = some u → f u = f t
theorem ren_e {th : Nat → Nat} {x y z : Nat} (hxy : x ≠ y) : ∀ (k n : Nat) (f : Nat → Nat), (((∃ i, n ≤ i ∧ i < n + k ∧ th i = z) ∧ f z = x) → ren th x y k n f z = y) ∧ ((¬ ((∃ i, n ≤ i ∧ i < n + k ∧ th i = z) ∧ f z = x)) → ren th x y k n f z = f z)
  | 0, n, f => ⟨by rintro ⟨⟨i, h1, h2, -⟩, -⟩; omega, fun _ => rfl⟩
  | k + 1, n, f => by
    rw [ren]
    by_cases e : f (th n) = x
    · rw [if_pos e]
      obtain ⟨a, b⟩ := ren_e (th := th) (z := z) hxy k (n + 1) (va_up f (th n) y)
      by_cases hz : z = th n
      · subst hz
        have e1 : va_up f (th n) y (th n) = y := by simp [va_up]
        rw [e1] at a b
        exact ⟨fun _ => b (fun q => hxy q.2.symm), fun q => absurd ⟨⟨n, by omega, by omega, rfl⟩, e⟩ q⟩
      · have e1 : va_up f (th n) y z = f z := by unfold va_up; rw [if_neg hz]
        rw [e1] at a b
        refine ⟨?_, fun q => b ?_⟩
        · rintro ⟨⟨i, h1, h2, h3⟩, h4⟩
          by_cases hi : i = n
          · subst hi; exact absurd h3.symm hz
          · exact a ⟨⟨i, by omega, by omega, h3⟩, h4⟩
        · rintro ⟨⟨i, h1, h2, h3⟩, h4⟩
          exact q ⟨⟨i, by omega, by omega, h3⟩, h4⟩
    · rw [if_neg e]
      obtain ⟨a, b⟩ := ren_e (th := th) (z := z) hxy k (n + 1) f
      refine ⟨?_, fun q => b ?_⟩
      · rintro ⟨⟨i, h1, h2, h3⟩, h4⟩
        by_cases hi : i = n
        · subst hi; rw [h3] at e; exact absurd h4 e
        · exact a ⟨⟨i, by omega, by omega, h3⟩, h4⟩
      · rintro ⟨⟨i, h1, h2, h3⟩, h4⟩
        exact q ⟨⟨i, by omega, by omega, h3⟩, h4⟩
theorem pk1_ci (h : Rel v w) {f : Nat → Nat} {c : Int} {pr : Nat → Nat → Prop} {t k : Nat} (ht : inT w t) (hk : k < 3) (hc : CI v w f c pr) :
    CI v w (pk1 v.1 (sTh v) (sTn v) t k f c).1 (pk1 v.1 (sTh v) (sTn v) t k f c).2 (fun t' k' => pr t' k' ∨ (t' = t ∧ k' = k)) := by
  obtain ⟨c1, c2, c3, c4⟩ := hc
  unfold pk1
  rw [h.nb ht.1 ht.2 hk]
  cases hq : mnb w t k with
  | none =>
    refine ⟨c1, c2, c3, fun t' k' hp h1 h2 u hu => ?_⟩
    rcases hp with hp | ⟨rfl, rfl⟩
    · exact c4 t' k' hp h1 h2 u hu
    · rw [hq] at hu; cases hu
  | some u =>
    have hu : inT w u := ⟨(mnb_lt hq).1, (mnb_lt hq).2.1⟩
    simp only []
    by_cases e : f u = f t
    · rw [if_pos e]
      refine ⟨c1, c2, c3, fun t' k' hp h1 h2 u' hu' => ?_⟩
      rcases hp with hp | ⟨rfl, rfl⟩
      · exact c4 t' k' hp h1 h2 u' hu'
      · rw [hq] at hu'; cases hu'; exact e
    · rw [if_neg e]
      have hr : ∀ z, inT w z → ren (sTh v) (f u) (f t) (sTn v) 0 f z = if f z = f u then f t else f z := by
        intro z hz
        obtain ⟨i, hi, rfl⟩ := h.mT.mp hz
        obtain ⟨a, b⟩ := ren_e (th := sTh v) (z := sTh v i) e (sTn v) 0 f
        by_cases q : f (sTh v i) = f u
        · rw [a ⟨⟨i, by omega, by omega, rfl⟩, q⟩, if_pos q]
        · rw [b (fun z => q z.2), if_neg q]
      refine ⟨ren_lt (c1 t) c1, ?_, ?_, ?_⟩
      · show c + -1 = _
        have hp : pres v (ren (sTh v) (f u) (f t) (sTn v) 0 f) = va_up (pres v f) (f u) false := by
          funext l
          rw [Bool.eq_iff_iff, h.pr]
          unfold va_up
          by_cases hl : l = f u
          · rw [if_pos hl]
            simp only [Bool.false_eq_true, iff_false]
            rintro ⟨z, hz, ez⟩
            rw [hr z hz] at ez
            split at ez
            · exact e (hl ▸ ez.symm)
            · rename_i q; exact q (hl ▸ ez)
          · rw [if_neg hl, h.pr]
            constructor
            · rintro ⟨z, hz, ez⟩
              rw [hr z hz] at ez
              split at ez
              · exact ⟨t, ht, ez⟩
              · exact ⟨z, hz, ez⟩
            · rintro ⟨z, hz, ez⟩
              by_cases q : f z = f u
              · exact absurd (ez.symm.trans q) hl
              · exact ⟨z, hz, by rw [hr z hz, if_neg q]; exact ez⟩
        have := cnt_up (iz := pres v f) (t := f u) (h.pr.mpr ⟨u, hu, rfl⟩) (k := 200) (n := 0) (by omega) (by have := c1 u; omega)
        rw [hp, c2]; omega
      · intro x y hx hy exy F hF
        have exy : ren (sTh v) (f u) (f t) (sTn v) 0 f x = ren (sTh v) (f u) (f t) (sTn v) 0 f y := exy
        rw [hr x hx, hr y hy] at exy
        have hut : F u = F t := hF t k u ht hk hq
        by_cases q1 : f x = f u <;> by_cases q2 : f y = f u
        · exact (c3 x u hx hu q1 F hF).trans (c3 y u hy hu q2 F hF).symm
        · rw [if_pos q1, if_neg q2] at exy
          rw [c3 x u hx hu q1 F hF, hut]
          exact c3 t y ht hy exy F hF
        · rw [if_neg q1, if_pos q2] at exy
          rw [c3 y u hy hu q2 F hF, hut]
          exact c3 x t hx ht exy F hF
        · rw [if_neg q1, if_neg q2] at exy
          exact c3 x y hx hy exy F hF
      · intro t' k' hp h1 h2 u' hu'
        have hu1 : inT w u' := ⟨(mnb_lt hu').1, (mnb_lt hu').2.1⟩
        show ren (sTh v) (f u) (f t) (sTn v) 0 f u' = ren (sTh v) (f u) (f t) (sTn v) 0 f t'
        rw [hr u' hu1, hr t' h1]
        rcases hp with hp | ⟨rfl, rfl⟩
        · rw [c4 t' k' hp h1 h2 u' hu']
        · rw [hq] at hu'; cases hu'
          rw [if_pos rfl, if_neg (fun q => e q.symm)]
theorem CI.weak {f : Nat → Nat} {c : Int} {pr pr' : Nat → Nat → Prop} (hc : CI v w f c pr) (h : ∀ t k, inT w t → k < 3 → pr' t k → pr t k) : CI v w f c pr' := ⟨hc.1, hc.2.1, hc.2.2.1, fun t k hp h1 h2 => hc.2.2.2 t k (h t k h1 h2 hp) h1 h2⟩
theorem pkk_ci (h : Rel v w) {t : Nat} (ht : inT w t) : ∀ (k n : Nat) {f : Nat → Nat} {c : Int} {pr : Nat → Nat → Prop}, n + k ≤ 3 → CI v w f c pr →
    CI v w (pkk v.1 (sTh v) (sTn v) t k n f c).1 (pkk v.1 (sTh v) (sTn v) t k n f c).2 (fun t' k' => pr t' k' ∨ (t' = t ∧ n ≤ k' ∧ k' < n + k))
  | 0, n, f, c, pr, _, hc => hc.weak (fun t' k' _ _ q => by rcases q with q | ⟨-, q1, q2⟩; exact q; omega)
  | k + 1, n, f, c, pr, hn, hc => by
    rw [pkk]
    refine (pkk_ci h ht k (n + 1) (by omega) (pk1_ci h ht (by omega) hc)).weak (fun t' k' _ _ q => ?_)
    rcases q with q | ⟨q0, q1, q2⟩
    · exact Or.inl (Or.inl q)
    · by_cases e : k' = n
      · exact Or.inl (Or.inr ⟨q0, e⟩)
      · exact Or.inr ⟨q0, by omega, by omega⟩
theorem pkt_ci (h : Rel v w) : ∀ (k n : Nat) {f : Nat → Nat} {c : Int} {pr : Nat → Nat → Prop}, n + k ≤ sTn v → CI v w f c pr →
    CI v w (pkt v.1 (sTh v) (sTn v) k n f c).1 (pkt v.1 (sTh v) (sTn v) k n f c).2 (fun t' k' => pr t' k' ∨ ∃ i, n ≤ i ∧ i < n + k ∧ t' = sTh v i)
  | 0, n, f, c, pr, _, hc => hc.weak (fun t' k' _ _ q => by rcases q with q | ⟨i, q1, q2, -⟩; exact q; omega)
  | k + 1, n, f, c, pr, hn, hc => by
    rw [pkt]
    refine (pkt_ci h k (n + 1) (by omega) (pkk_ci h (h.mT.mpr ⟨n, by omega, rfl⟩) 3 0 (by omega) hc)).weak (fun t' k' _ hk q => ?_)
    rcases q with q | ⟨i, q1, q2, q3⟩
    · exact Or.inl (Or.inl q)
    · by_cases e : i = n
      · subst e; exact Or.inl (Or.inr ⟨q3, by omega, by omega⟩)
      · exact Or.inr ⟨i, by omega, by omega, q3⟩
theorem ini_e {th : Nat → Nat} {z : Nat} : ∀ (k n : Nat) (f : Nat → Nat), ((∃ i, n ≤ i ∧ i < n + k ∧ th i = z) → ini th k n f z = z) ∧ ((¬ ∃ i, n ≤ i ∧ i < n + k ∧ th i = z) → ini th k n f z = f z)
  | 0, n, f => ⟨by rintro ⟨i, h1, h2, -⟩; omega, fun _ => rfl⟩
  | k + 1, n, f => by
    obtain ⟨a, b⟩ := ini_e (th := th) (z := z) k (n + 1) (va_up f (th n) (th n))
    rw [ini]
    constructor
    · rintro ⟨i, h1, h2, h3⟩
      by_cases q : ∃ i, n + 1 ≤ i ∧ i < n + 1 + k ∧ th i = z
      · exact a q
      · rw [b q]
        have : i = n := by
          refine Classical.byContradiction (fun e => q ⟨i, by omega, by omega, h3⟩)
        subst this
        rw [h3]; simp [va_up]
    · intro q
      rw [b (by rintro ⟨i, h1, h2, h3⟩; exact q ⟨i, by omega, by omega, h3⟩)]
      unfold va_up
      rw [if_neg]
      intro e; exact q ⟨n, by omega, by omega, e.symm⟩
theorem pcs_ci (h : Rel v w) : CI v w (pcs v).1 (pcs v).2 (fun _ _ => True) := by
  have h0 : ∀ z, inT w z → ini (sTh v) (sTn v) 0 (sPi v) z = z := fun z hz => by
    obtain ⟨i, hi, e⟩ := h.mT.mp hz
    exact (ini_e (sTn v) 0 (sPi v)).1 ⟨i, by omega, by omega, e⟩
  have hT := h.om.2.2.1
  have hi : CI v w (ini (sTh v) (sTn v) 0 (sPi v)) (sTn v : Int) (fun _ _ => False) := by
    refine ⟨fun j => ?_, ?_, ?_, fun _ _ q => q.elim⟩
    · by_cases q : ∃ i, 0 ≤ i ∧ i < 0 + sTn v ∧ sTh v i = j
      · rw [(ini_e (sTn v) 0 (sPi v)).1 q]
        obtain ⟨i, -, hi, e⟩ := q
        rw [← e]; exact h.os.2.2.1 i
      · rw [(ini_e (sTn v) 0 (sPi v)).2 q]; exact h.os.2.2.2.2.2 j
    · have e : cnt (pres v (ini (sTh v) (sTn v) 0 (sPi v))) 200 0 = sTn v := by
        refine Eq.trans ?_ (lst_len h.ls).symm
        rw [show (200 : Nat) = mTm w + (200 - mTm w) by omega, cnt_split, Nat.zero_add]
        have hp : ∀ l, pres v (ini (sTh v) (sTn v) 0 (sPi v)) l = true ↔ inT w l := fun l => by
          rw [h.pr]
          constructor
          · rintro ⟨z, hz, e⟩; rw [h0 z hz] at e; rw [← e]; exact hz
          · intro hl; exact ⟨l, hl, h0 l hl⟩
        rw [cnt_zero (k := 200 - mTm w) (n := mTm w) (fun i h1 _ => by
          cases q : pres v (ini (sTh v) (sTn v) 0 (sPi v)) i with
          | false => rfl
          | true => have := ((hp i).mp q).1; omega), Nat.add_zero]
        refine cnt_congr (fun i _ h2 => ?_)
        rw [Bool.eq_iff_iff, hp]
        exact ⟨fun q => q.2, fun q => ⟨by omega, q⟩⟩
      rw [e]
    · intro x y hx hy exy F _
      rw [h0 x hx, h0 y hy] at exy; rw [exy]
  refine (pkt_ci h (sTn v) 0 (by omega) hi).weak (fun t k ht _ _ => Or.inr ?_)
  obtain ⟨i, hi, e⟩ := h.mT.mp ht
  exact ⟨i, by omega, by omega, e.symm⟩
end PC
