/-! corner points and edges, counted by bits -/
def bm (x : Int64) (i : Nat) : Bool := (tM x).testBit i
theorem bm_or (x y : Int64) (i : Nat) : bm (x ||| y) i = (bm x i || bm y i) := by unfold bm; rw [tM_or, Nat.testBit_or]
theorem bm_0 (i : Nat) : bm (lI 0) i = false := by
  unfold bm; rw [show tM (lI 0) = 0 by decide, Nat.zero_testBit]
theorem bo_p : ∀ n, n < 60 → tM (bo n) = 2 ^ n := by decide +kernel
theorem bm_bo {n i : Nat} (hn : n < 60) : bm (bo n) i = decide (n = i) := by
  unfold bm; rw [bo_p n hn, Nat.testBit_two_pow]
theorem bc64_b (x : Int64) : bc64 x = nI (cnt (bm x) 64 0) := bc64_e x
theorem orc_b {g : GG} (hg : okG g) {t i : Nat} : ∀ (k n : Nat) (acc : Int64), bm (orc g t k n acc) i = (bm acc i || anf (fun m => decide (gc g t m = i)) k n)
  | 0, n, acc => by simp [orc, anf]
  | k + 1, n, acc => by
    rw [orc, orc_b hg k (n + 1), bm_or, bm_bo (gc_lt hg), anf, Bool.or_assoc]
theorem anf_3h {g : GG} {t i : Nat} : anf (fun m => decide (gc g t m = i)) 3 0 = hcr g t i := by
  simp [anf, hcr]
theorem ort_b {g : GG} (hg : okG g) {th : Nat → Nat} {i : Nat} : ∀ (k n : Nat) (acc : Int64), bm (ort g th k n acc) i = (bm acc i || anf (fun m => hcr g (th m) i) k n)
  | 0, n, acc => by simp [ort, anf]
  | k + 1, n, acc => by
    rw [ort, ort_b hg k (n + 1), orc_b hg, anf_3h, anf, Bool.or_assoc]
theorem Lst.anf {tn tm : Nat} {th : Nat → Nat} {iz : Nat → Bool} (h : Lst tn th tm iz) (P : Nat → Bool) : anf (fun i => P (th i)) tn 0 = anf (fun t => iz t && P t) tm 0 := by
  rw [anf_l, anf_l, show (fun i => P (th i)) = P ∘ th from rfl, ← List.any_map, h, List.any_filter]
theorem cnt_zero {P : Nat → Bool} {k n : Nat} (h : ∀ i, n ≤ i → i < n + k → P i = false) : cnt P k n = 0 := by
  rw [cnt_congr (Q := fun _ => false) h]
  have : ∀ k n : Nat, cnt (fun _ => false) k n = 0 := by
    intro k; induction k with
    | zero => intro n; rfl
    | succ k ih => intro n; rw [cnt, ih]; rfl
  exact this k n
theorem anf_false {P : Nat → Bool} : ∀ {k n : Nat}, (∀ i, n ≤ i → i < n + k → P i = false) → anf P k n = false
  | 0, n, _ => rfl
  | k + 1, n, h => by rw [anf, h n (by omega) (by omega), anf_false (fun i h1 h2 => h i (by omega) (by omega))]; rfl
theorem anf_true {P : Nat → Bool} : ∀ {k n : Nat}, anf P k n = true → ∃ i, n ≤ i ∧ i < n + k ∧ P i = true
  | 0, n, h => by simp [anf] at h
  | k + 1, n, h => by
    rw [anf] at h
    cases hp : P n with
    | true => exact ⟨n, by omega, by omega, hp⟩
    | false =>
      rw [hp, Bool.false_or] at h
      obtain ⟨i, h1, h2, h3⟩ := anf_true h
      exact ⟨i, by omega, by omega, h3⟩
/-- the edge of t between p and q, p the lesser -/
def edq (g : GG) (t p q : Nat) : Bool := anf (fun m => decide (min (gc g t m) (gc g t (m + 1)) = p) && decide (max (gc g t m) (gc g t (m + 1)) = q)) 3 0
theorem va_up_b {f : Nat → Int64} {a b : Nat} {x : Int64} (i : Nat) : bm (va_up f a x b) i = if b = a then bm x i else bm (f b) i := by
  unfold va_up; split <;> rfl
theorem jok_b {g : GG} (hg : okG g) {t p q : Nat} : ∀ (k n : Nat) (f : Nat → Int64), bm (jok g t k n f p) q = (bm (f p) q || anf (fun m => decide (min (gc g t m) (gc g t (m + 1)) = p) && decide (max (gc g t m) (gc g t (m + 1)) = q)) k n)
  | 0, n, f => by simp [jok, anf]
  | k + 1, n, f => by
    have h1 := gc_lt hg (t := t) (k := n); have h2 := gc_lt hg (t := t) (k := n + 1)
    rw [jok, jok_b hg k (n + 1), anf, va_up_b, ← Bool.or_assoc]
    congr 1
    by_cases e : p = min (gc g t n) (gc g t (n + 1))
    · rw [if_pos e, bm_or, bm_bo (by omega), e, decide_eq_true rfl, Bool.true_and]
    · rw [if_neg e, decide_eq_false (fun q => e q.symm)]; simp
theorem jot_b {g : GG} (hg : okG g) {th : Nat → Nat} {p q : Nat} : ∀ (k n : Nat) (f : Nat → Int64), bm (jot g th k n f p) q = (bm (f p) q || anf (fun m => edq g (th m) p q) k n)
  | 0, n, f => by simp [jot, anf]
  | k + 1, n, f => by
    rw [jot, jot_b hg k (n + 1), jok_b hg, anf, Bool.or_assoc]; rfl
theorem fil_b {x : Int64} {p : Nat} : ∀ (k n : Nat) (f : Nat → Int64), fil x k n f p = if n ≤ p ∧ p < n + k then x else f p
  | 0, n, f => by rw [fil, if_neg (by omega)]
  | k + 1, n, f => by
    rw [fil, fil_b k (n + 1)]
    by_cases e : p = n
    · subst e
      rw [if_neg (by omega), if_pos (by omega)]; simp [va_up]
    · by_cases h : n + 1 ≤ p ∧ p < n + 1 + k
      · rw [if_pos h, if_pos (by omega)]
      · rw [if_neg h, if_neg (by omega)]; unfold va_up; rw [if_neg e]
theorem sme_b {f : Nat → Int64} : ∀ (k n q : Nat), sme f k n (nI q) = nI (q + smN (fun p => cnt (bm (f p)) 64 0) k n)
  | 0, n, q => rfl
  | k + 1, n, q => by rw [sme, bc64_b, nn_add, sme_b k (n + 1), smN, Nat.add_assoc]
theorem smN_split (f : Nat → Nat) : ∀ (a b n : Nat), smN f (a + b) n = smN f a n + smN f b (n + a)
  | 0, b, n => by simp [smN]
  | a + 1, b, n => by
    rw [show a + 1 + b = (a + b) + 1 by omega, smN, smN, smN_split f a b (n + 1), show n + 1 + a = n + (a + 1) by omega]; omega
theorem smN_zero {f : Nat → Nat} : ∀ {k n : Nat}, (∀ i, n ≤ i → i < n + k → f i = 0) → smN f k n = 0
  | 0, n, _ => rfl
  | k + 1, n, h => by rw [smN, h n (by omega) (by omega), smN_zero (fun i h1 h2 => h i (by omega) (by omega))]
theorem smc_swap (G : Nat → Nat → Bool) (a b : Nat) : smN (fun p => cnt (fun q => G p q) a 0) b 0 = smN (fun q => cnt (fun p => G p q) b 0) a 0 := by
  have h : ((smN (fun p => cnt (fun q => G p q) a 0) b 0 : Nat) : Int) = ((smN (fun q => cnt (fun p => G p q) b 0) a 0 : Nat) : Int) := by
    rw [smN_Z, smN_Z]
    rw [smZ_congr (P := fun p => ((cnt (fun q => G p q) a 0 : Nat) : Int)) (Q := fun p => smZ (fun q => if G p q = true then 1 else 0) a 0) (fun p _ _ => cnt_Z _ _ _)]
    rw [smZ_congr (P := fun q => ((cnt (fun p => G p q) b 0 : Nat) : Int)) (Q := fun q => smZ (fun p => if G p q = true then 1 else 0) b 0) (fun p _ _ => cnt_Z _ _ _)]
    exact smZ_swap (fun q p => if G p q = true then 1 else 0) b 0 a 0
  omega
theorem hsd_edq {g : GG} {t x y : Nat} (h : y < x) : hsd g t x y = edq g t y x := by
  unfold hsd edq
  rw [fnd_some3]
  simp only [anf, Nat.reduceAdd, Bool.or_false]
  have key : ∀ m n : Nat, ((decide (m = x) && decide (n = y)) || (decide (m = y) && decide (n = x))) = (decide (min m n = y) && decide (max m n = x)) := by
    intro m n
    rw [Bool.eq_iff_iff]
    simp only [Bool.or_eq_true, Bool.and_eq_true, decide_eq_true_eq]
    omega
  rw [key, key, key]
theorem edq_lt {g : GG} {pn t p q : Nat} (c : cok g pn t) (h : edq g t p q = true) : p < q ∧ q < pn := by
  unfold edq at h
  obtain ⟨m, -, hm, h3⟩ := anf_true h
  simp only [Bool.and_eq_true, decide_eq_true_eq] at h3
  obtain ⟨n1, -, -, p1, p2, -⟩ := gc_ne c (k := m) (by omega)
  omega
section RC
variable {v : SV} {w : MV}
theorem Rel.ccp (h : Rel v w) : ccpC v = nI (mcpC w) := by
  unfold ccpC mcpC
  rw [bc64_b]
  refine congrArg nI ?_
  have hp := h.om.2.1
  rw [cnt_congr (Q := fun p => anf (fun t => mIs w t && hcr w.1 t p) (mTm w) 0) (fun p _ _ => by
    rw [ort_b h.os.1, bm_0, Bool.false_or, h.g]; exact h.ls.anf (fun t => hcr w.1 t p))]
  rw [show (64 : Nat) = mPn w + (64 - mPn w) by omega, cnt_split, Nat.zero_add]
  rw [cnt_zero (k := 64 - mPn w) (n := mPn w) (fun p h1 _ => anf_false (fun t _ ht => ?_)), Nat.add_zero]
  cases hz : mIs w t with
  | false => rfl
  | true =>
    obtain ⟨⟨c0, c1, c2⟩, -⟩ := h.co (by omega) hz
    rw [Bool.true_and]
    unfold hcr
    rw [decide_eq_false (by omega), decide_eq_false (by omega), decide_eq_false (by omega)]; rfl
theorem Rel.cde (h : Rel v w) : cdeC v = nI (msiC w) := by
  have hp := h.om.2.1
  have e1 : cdeC v = nI (0 + smN (fun p => cnt (bm (edJ v p)) 64 0) 60 0) := sme_b 60 0 0
  rw [e1, Nat.zero_add]
  refine congrArg nI ?_
  have eG : ∀ p q, p < 60 → bm (edJ v p) q = anf (fun t => mIs w t && edq w.1 t p q) (mTm w) 0 := by
    intro p q hpq
    unfold edJ
    rw [jot_b h.os.1, fil_b, if_pos (by omega), bm_0, Bool.false_or, h.g]
    exact h.ls.anf (fun t => edq w.1 t p q)
  have hG : ∀ p q, anf (fun t => mIs w t && edq w.1 t p q) (mTm w) 0 = true → p < q ∧ q < mPn w := by
    intro p q hq
    obtain ⟨t, -, ht, h3⟩ := anf_true hq
    simp only [Bool.and_eq_true] at h3
    exact edq_lt (h.co (by omega) h3.1) h3.2
  rw [smN_congr (Q := fun p => cnt (fun q => anf (fun t => mIs w t && edq w.1 t p q) (mTm w) 0) 64 0) (fun p _ hp9 => cnt_congr (fun q _ _ => eG p q (by omega)))]
  generalize hGd : (fun p q => anf (fun t => mIs w t && edq w.1 t p q) (mTm w) 0) = G
  have hGe : ∀ p q, anf (fun t => mIs w t && edq w.1 t p q) (mTm w) 0 = G p q := fun p q => by rw [← hGd]
  simp only [hGe] at hG ⊢
  rw [smc_swap G 64 60]
  unfold msiC
  rw [show (64 : Nat) = mPn w + (64 - mPn w) by omega, smN_split, Nat.zero_add]
  rw [smN_zero (k := 64 - mPn w) (n := mPn w) (fun q h1 _ => cnt_zero (fun p _ _ => by
    cases hq : G p q with
    | false => rfl
    | true => have := hG p q hq; omega)), Nat.add_zero]
  refine smN_congr (fun q _ hq => ?_)
  rw [show (60 : Nat) = q + (60 - q) by omega, cnt_split, Nat.zero_add]
  rw [cnt_zero (k := 60 - q) (n := q) (fun p h1 _ => by
    cases hq : G p q with
    | false => rfl
    | true => have := hG p q hq; omega), Nat.add_zero]
  refine cnt_congr (fun p _ hpq => ?_)
  rw [← hGe]
  exact anf_congr (fun t _ _ => by rw [hsd_edq (by omega)])
end RC
