/-! THE RELATION between the class's state and the reference's, and how loops over the one are loops over the other -/
theorem fnd_l (P : Nat → Bool) : ∀ k n : Nat, fnd P k n = (List.range' n k).find? P
  | 0, n => rfl
  | k + 1, n => by
    rw [fnd, List.range'_succ, List.find?_cons, fnd_l P k (n + 1)]
    cases h : P n <;> simp
theorem cnt_l (P : Nat → Bool) : ∀ k n : Nat, cnt P k n = (List.range' n k).countP P
  | 0, n => rfl
  | k + 1, n => by
    rw [cnt, List.range'_succ, List.countP_cons, cnt_l P k (n + 1), Nat.add_comm]
theorem anf_l (P : Nat → Bool) : ∀ k n : Nat, anf P k n = (List.range' n k).any P
  | 0, n => rfl
  | k + 1, n => by rw [anf, List.range'_succ, List.any_cons, anf_l P k (n + 1)]
theorem alf_l (P : Nat → Bool) : ∀ k n : Nat, alf P k n = (List.range' n k).all P
  | 0, n => rfl
  | k + 1, n => by rw [alf, List.range'_succ, List.all_cons, alf_l P k (n + 1)]
theorem smN_l (f : Nat → Nat) : ∀ k n : Nat, smN f k n = ((List.range' n k).map f).sum
  | 0, n => rfl
  | k + 1, n => by rw [smN, List.range'_succ, List.map_cons, List.sum_cons, smN_l f k (n + 1)]
theorem smZ_l (f : Nat → Int) : ∀ k n : Nat, smZ f k n = ((List.range' n k).map f).sum
  | 0, n => rfl
  | k + 1, n => by rw [smZ, List.range'_succ, List.map_cons, List.sum_cons, smZ_l f k (n + 1)]
/-- the list th of tn numbers is the ascending list of those below tm that are there -/
def Lst (tn : Nat) (th : Nat → Nat) (tm : Nat) (iz : Nat → Bool) : Prop := (List.range' 0 tn).map th = (List.range' 0 tm).filter iz
section LS
variable {tn tm : Nat} {th : Nat → Nat} {iz : Nat → Bool}
theorem Lst.fnd (h : Lst tn th tm iz) (P : Nat → Bool) : (fnd (fun i => P (th i)) tn 0).map th = fnd (fun t => iz t && P t) tm 0 := by
  rw [fnd_l, fnd_l, show (fun i => P (th i)) = P ∘ th from rfl, ← List.find?_map, h, List.find?_filter]
  congr 1; funext a; simp
theorem Lst.cnt (h : Lst tn th tm iz) (P : Nat → Bool) : cnt (fun i => P (th i)) tn 0 = cnt (fun t => iz t && P t) tm 0 := by
  rw [cnt_l, cnt_l, show (fun i => P (th i)) = P ∘ th from rfl, ← List.countP_map, h, List.countP_filter]
  congr 1; funext t; exact Bool.and_comm _ _
theorem sum_filN (iz : Nat → Bool) (f : Nat → Nat) : ∀ l : List Nat, ((l.filter iz).map f).sum = (l.map (fun t => if iz t = true then f t else 0)).sum
  | [] => rfl
  | t :: l => by
    rw [List.filter_cons]
    cases h : iz t <;> simp [h, sum_filN iz f l]
theorem sum_filZ (iz : Nat → Bool) (f : Nat → Int) : ∀ l : List Nat, ((l.filter iz).map f).sum = (l.map (fun t => if iz t = true then f t else 0)).sum
  | [] => rfl
  | t :: l => by
    rw [List.filter_cons]
    cases h : iz t <;> simp [h, sum_filZ iz f l]
theorem Lst.smN (h : Lst tn th tm iz) (f : Nat → Nat) : smN (fun i => f (th i)) tn 0 = smN (fun t => if iz t = true then f t else 0) tm 0 := by
  rw [smN_l, smN_l, ← sum_filN, ← h, List.map_map]; rfl
theorem Lst.smZ (h : Lst tn th tm iz) (f : Nat → Int) : smZ (fun i => f (th i)) tn 0 = smZ (fun t => if iz t = true then f t else 0) tm 0 := by
  rw [smZ_l, smZ_l, ← sum_filZ, ← h, List.map_map]; rfl
theorem Lst.mem (h : Lst tn th tm iz) {t : Nat} : (∃ i, i < tn ∧ th i = t) ↔ (t < tm ∧ iz t = true) := by
  have h1 : t ∈ (List.range' 0 tn).map th ↔ t ∈ (List.range' 0 tm).filter iz := by rw [h]
  simp only [List.mem_map, List.mem_filter, List.mem_range'_1, Nat.zero_le, true_and, Nat.zero_add] at h1
  exact h1
theorem Lst.of (h : Lst tn th tm iz) {i : Nat} (hi : i < tn) : th i < tm ∧ iz (th i) = true := h.mem.mp ⟨i, hi, rfl⟩
theorem Lst.asc (h : Lst tn th tm iz) : ((List.range' 0 tn).map th).Pairwise (· < ·) := by
  rw [h]; exact List.Pairwise.filter _ (List.pairwise_lt_range' ..)
theorem Lst.lt (h : Lst tn th tm iz) {i j : Nat} (hij : i < j) (hj : j < tn) : th i < th j := by
  have h1 := List.pairwise_iff_getElem.mp h.asc i j (by simp; omega) (by simp; omega) hij
  simpa using h1
end LS
theorem fnd_congr {P Q : Nat → Bool} : ∀ {k n : Nat}, (∀ i, n ≤ i → i < n + k → P i = Q i) → fnd P k n = fnd Q k n
  | 0, n, _ => rfl
  | k + 1, n, h => by
    rw [fnd, fnd, h n (by omega) (by omega), fnd_congr (fun i h1 h2 => h i (by omega) (by omega))]
theorem cnt_congr {P Q : Nat → Bool} : ∀ {k n : Nat}, (∀ i, n ≤ i → i < n + k → P i = Q i) → cnt P k n = cnt Q k n
  | 0, n, _ => rfl
  | k + 1, n, h => by
    rw [cnt, cnt, h n (by omega) (by omega), cnt_congr (fun i h1 h2 => h i (by omega) (by omega))]
theorem alf_congr {P Q : Nat → Bool} : ∀ {k n : Nat}, (∀ i, n ≤ i → i < n + k → P i = Q i) → alf P k n = alf Q k n
  | 0, n, _ => rfl
  | k + 1, n, h => by
    rw [alf, alf, h n (by omega) (by omega), alf_congr (fun i h1 h2 => h i (by omega) (by omega))]
theorem anf_congr {P Q : Nat → Bool} : ∀ {k n : Nat}, (∀ i, n ≤ i → i < n + k → P i = Q i) → anf P k n = anf Q k n
  | 0, n, _ => rfl
  | k + 1, n, h => by
    rw [anf, anf, h n (by omega) (by omega), anf_congr (fun i h1 h2 => h i (by omega) (by omega))]
theorem smN_congr {P Q : Nat → Nat} : ∀ {k n : Nat}, (∀ i, n ≤ i → i < n + k → P i = Q i) → smN P k n = smN Q k n
  | 0, n, _ => rfl
  | k + 1, n, h => by
    rw [smN, smN, h n (by omega) (by omega), smN_congr (fun i h1 h2 => h i (by omega) (by omega))]
theorem smZ_congr {P Q : Nat → Int} : ∀ {k n : Nat}, (∀ i, n ≤ i → i < n + k → P i = Q i) → smZ P k n = smZ Q k n
  | 0, n, _ => rfl
  | k + 1, n, h => by
    rw [smZ, smZ, h n (by omega) (by omega), smZ_congr (fun i h1 h2 => h i (by omega) (by omega))]
/-- the first of two: alike as long as neither has hit -/
theorem fnd_first {P Q : Nat → Bool} : ∀ {k n : Nat}, (∀ i, n ≤ i → i < n + k → (∀ j, n ≤ j → j < i → P j = false ∧ Q j = false) → P i = Q i) → fnd P k n = fnd Q k n
  | 0, n, _ => rfl
  | k + 1, n, h => by
    have h0 := h n (by omega) (by omega) (fun j h1 h2 => by omega)
    rw [fnd, fnd, ← h0]
    cases hp : P n with
    | true => rfl
    | false =>
      simp only [Bool.false_eq_true, if_false]
      refine fnd_first (fun i h1 h2 h3 => h i (by omega) (by omega) (fun j h4 h5 => ?_))
      by_cases hj : j = n
      · subst hj; exact ⟨hp, by rw [← h0]; exact hp⟩
      · exact h3 j (by omega) h5
/-- corners that are points, and three -/
def cok (g : GG) (pn t : Nat) : Prop := (gc g t 0 < pn ∧ gc g t 1 < pn ∧ gc g t 2 < pn) ∧ gc g t 0 ≠ gc g t 1 ∧ gc g t 1 ≠ gc g t 2 ∧ gc g t 0 ≠ gc g t 2
def Rel (v : SV) (w : MV) : Prop := v.1 = w.1 ∧ sPn v = mPn w ∧ sTn v = mTn w ∧ sTm v = mTm w ∧ Lst (sTn v) (sTh v) (mTm w) (mIs w) ∧ (sFa v = mFi w ∧ sFb v = mSe w) ∧ okS v ∧ okM w ∧ ∀ t, t < mTm w → mIs w t = true → cok w.1 (mPn w) t
section RL
variable {v : SV} {w : MV}
theorem Rel.g (h : Rel v w) : v.1 = w.1 := h.1
theorem Rel.ls (h : Rel v w) : Lst (sTn v) (sTh v) (mTm w) (mIs w) := h.2.2.2.2.1
theorem Rel.co (h : Rel v w) {t : Nat} (h1 : t < mTm w) (h2 : mIs w t = true) : cok w.1 (mPn w) t := h.2.2.2.2.2.2.2.2 t h1 h2
theorem Rel.os (h : Rel v w) : okS v := h.2.2.2.2.2.2.1
theorem Rel.om (h : Rel v w) : okM w := h.2.2.2.2.2.2.2.1
theorem Rel.thx (h : Rel v w) (x : Int32) : Rel v (mThx w x) := h
theorem mth_nI {t : Nat} (ht : t < 2 ^ 31) : mth w (nI t) = (decide (t < mTm w) && mIs w t) := by
  unfold mth; rw [inB_nI ht, nI_clamp ht]
theorem Rel.th (h : Rel v w) (t : Int32) : thB (sTh v) (sTn v) t = mth w t := by
  have hT : mTm w ≤ 200 := h.om.2.2.1
  rw [Bool.eq_iff_iff]
  constructor
  · intro q
    obtain ⟨i, hi, rfl⟩ := thB_of q
    obtain ⟨h1, h2⟩ := h.ls.of hi
    rw [mth_nI (by omega)]; simp [h1, h2]
  · intro q
    obtain ⟨j, hj, rfl, hz⟩ := mth_of (by omega) q
    obtain ⟨i, hi, e⟩ := h.ls.mem.mpr ⟨hj, hz⟩
    have : (fnd (fun i => decide (nI (sTh v i) = nI j)) (sTn v) 0).isSome = true := by
      rw [fnd_l, List.find?_isSome]
      exact ⟨i, by simp [hi], by simp [e]⟩
    exact this
end RL
