/-! the class: parts and improvements -/
abbrev sPar (v : SV) (t x y : Nat) : SV := sAddT (sAddT (sPutT (sAddP v x y) t (gc v.1 t 0) (gc v.1 t 1) (sPn v)) (gc v.1 t 1) (gc v.1 t 2) (sPn v)) (gc v.1 t 2) (gc v.1 t 0) (sPn v)
def simp_ : Nat → SV → Nat × SV
  | 0, v => (0, v)
  | k + 1, v => if (tfi v.1 (sTh v) (sTn v)).isSome = true then ((simp_ k (tfS v)).1 + 1, (simp_ k (tfS v)).2) else (0, v)
theorem simp_t {k : Nat} {v : SV} (hk : 0 < k) (h : (tfi v.1 (sTh v) (sTn v)).isSome = true) : simp_ k v = ((simp_ (k - 1) (tfS v)).1 + 1, (simp_ (k - 1) (tfS v)).2) := by
  obtain ⟨k, rfl⟩ : ∃ j, k = j + 1 := ⟨k - 1, by omega⟩
  simp [simp_, h]
theorem simp_f {k : Nat} {v : SV} (h : (tfi v.1 (sTh v) (sTn v)).isSome = false) : simp_ k v = (0, v) := by
  cases k with
  | zero => rfl
  | succ k => simp [simp_, h]
theorem tuS_ok {v : SV} (h : okS v) {t k : Nat} : okS (tuS v t k) := by
  unfold tuS
  cases hq : nbr v.1 (sTh v) (sTn v) t k with
  | none => exact h
  | some u =>
    simp only
    split
    · exact ⟨okG_gTu h.1 (oth_lt h.1), h.2⟩
    · exact h
theorem tuS_2 {v : SV} {t k : Nat} : (tuS v t k).2 = v.2 := by
  unfold tuS
  cases hq : nbr v.1 (sTh v) (sTn v) t k with
  | none => rfl
  | some u => simp only; split <;> rfl
theorem tfS_ok {v : SV} (h : okS v) : okS (tfS v) := by
  unfold tfS
  split
  · exact h
  · split
    · exact h
    · exact tuS_ok h
theorem tfS_2 {v : SV} : (tfS v).2 = v.2 := by
  unfold tfS
  split
  · rfl
  · split
    · rfl
    · exact tuS_2
theorem tfS_n {v : SV} (h : (tfi v.1 (sTh v) (sTn v)).isSome = false) : tfS v = v := by
  unfold tfS
  cases hq : tfi v.1 (sTh v) (sTn v) with
  | none => rfl
  | some t => rw [hq] at h; cases h
