/-! pieces, by the class and by the reference -/
abbrev sPiX (v : SV) (f : Nat → Nat) : SV := (v.1, sPn v, sTh v, sTn v, sTm v, sJo v, f, v.2.2.2.2.2.2.2)
def ini (th : Nat → Nat) : Nat → Nat → (Nat → Nat) → (Nat → Nat)
  | 0, _, f => f
  | k + 1, n, f => ini th k (n + 1) (va_up f (th n) (th n))
theorem ini_s {th : Nat → Nat} {k n : Nat} {f : Nat → Nat} (hk : 0 < k) : ini th k n f = ini th (k - 1) (n + 1) (va_up f (th n) (th n)) := by
  obtain ⟨k, rfl⟩ : ∃ j, k = j + 1 := ⟨k - 1, by omega⟩
  rfl
def ren (th : Nat → Nat) (x y : Nat) : Nat → Nat → (Nat → Nat) → (Nat → Nat)
  | 0, _, f => f
  | k + 1, n, f => ren th x y k (n + 1) (if f (th n) = x then va_up f (th n) y else f)
theorem ren_t {th : Nat → Nat} {x y k n : Nat} {f : Nat → Nat} (hk : 0 < k) (h : f (th n) = x) : ren th x y k n f = ren th x y (k - 1) (n + 1) (va_up f (th n) y) := by
  obtain ⟨k, rfl⟩ : ∃ j, k = j + 1 := ⟨k - 1, by omega⟩
  simp [ren, h]
theorem ren_f {th : Nat → Nat} {x y k n : Nat} {f : Nat → Nat} (hk : 0 < k) (h : ¬ f (th n) = x) : ren th x y k n f = ren th x y (k - 1) (n + 1) f := by
  obtain ⟨k, rfl⟩ : ∃ j, k = j + 1 := ⟨k - 1, by omega⟩
  simp [ren, h]
theorem ren_lt {th : Nat → Nat} {x y N : Nat} (hy : y < N) : ∀ {k n : Nat} {f : Nat → Nat}, (∀ j, f j < N) → ∀ j, ren th x y k n f j < N
  | 0, _, f, h => h
  | k + 1, n, f, h => by
    rw [ren]
    apply ren_lt hy
    split
    · exact up_lt h hy
    · exact h
/-- one edge of t looked at -/
def pk1 (g : GG) (th : Nat → Nat) (tn t k : Nat) (f : Nat → Nat) (c : Int) : (Nat → Nat) × Int := match nbr g th tn t k with
  | none => (f, c)
  | some u => if f u = f t then (f, c) else (ren th (f u) (f t) tn 0 f, c + (-1))
def pkk (g : GG) (th : Nat → Nat) (tn t : Nat) : Nat → Nat → (Nat → Nat) → Int → (Nat → Nat) × Int
  | 0, _, f, c => (f, c)
  | k + 1, n, f, c => pkk g th tn t k (n + 1) (pk1 g th tn t n f c).1 (pk1 g th tn t n f c).2
theorem pkk_s {g : GG} {th : Nat → Nat} {tn t k n : Nat} {f : Nat → Nat} {c : Int} {f' : Nat → Nat} {c' : Int} (hk : 0 < k) (h : pk1 g th tn t n f c = (f', c')) : pkk g th tn t k n f c = pkk g th tn t (k - 1) (n + 1) f' c' := by
  obtain ⟨k, rfl⟩ : ∃ j, k = j + 1 := ⟨k - 1, by omega⟩
  simp [pkk, h]
def pkt (g : GG) (th : Nat → Nat) (tn : Nat) : Nat → Nat → (Nat → Nat) → Int → (Nat → Nat) × Int
  | 0, _, f, c => (f, c)
  | k + 1, n, f, c => pkt g th tn k (n + 1) (pkk g th tn (th n) 3 0 f c).1 (pkk g th tn (th n) 3 0 f c).2
theorem pkt_s {g : GG} {th : Nat → Nat} {tn k n : Nat} {f : Nat → Nat} {c : Int} {f' : Nat → Nat} {c' : Int} (hk : 0 < k) (h : pkk g th tn (th n) 3 0 f c = (f', c')) : pkt g th tn k n f c = pkt g th tn (k - 1) (n + 1) f' c' := by
  obtain ⟨k, rfl⟩ : ∃ j, k = j + 1 := ⟨k - 1, by omega⟩
  simp [pkt, h]
def pcs (v : SV) : (Nat → Nat) × Int := pkt v.1 (sTh v) (sTn v) (sTn v) 0 (ini (sTh v) (sTn v) 0 (sPi v)) (sTn v : Int)
/-! the reference: marks -/
abbrev mMkX (w : MV) (f : Nat → Nat) : MV := (w.1, mThr w, mPn w, mTm w, mTn w, mIs w, mFi w, mSe w, f)
def mi0 : Nat → Nat → (Nat → Nat) → (Nat → Nat)
  | 0, _, f => f
  | k + 1, n, f => mi0 k (n + 1) (va_up f n n)
theorem mi0_s {k n : Nat} {f : Nat → Nat} (hk : 0 < k) : mi0 k n f = mi0 (k - 1) (n + 1) (va_up f n n) := by
  obtain ⟨k, rfl⟩ : ∃ j, k = j + 1 := ⟨k - 1, by omega⟩
  rfl
def sw1 (w : MV) (t k : Nat) (f : Nat → Nat) (mo : Bool) : (Nat → Nat) × Bool := match mnb w t k with
  | none => (f, mo)
  | some u => if f u = f t then (f, mo) else (va_up (va_up f u (min (f u) (f t))) t (min (f u) (f t)), true)
def swk (w : MV) (t : Nat) : Nat → Nat → (Nat → Nat) → Bool → (Nat → Nat) × Bool
  | 0, _, f, mo => (f, mo)
  | k + 1, n, f, mo => if mIs w t = true then swk w t k (n + 1) (sw1 w t n f mo).1 (sw1 w t n f mo).2 else (f, mo)
theorem swk_s {w : MV} {t k n : Nat} {f f' : Nat → Nat} {mo mo' : Bool} (hk : 0 < k) (hm : mIs w t = true) (h : sw1 w t n f mo = (f', mo')) : swk w t k n f mo = swk w t (k - 1) (n + 1) f' mo' := by
  obtain ⟨k, rfl⟩ : ∃ j, k = j + 1 := ⟨k - 1, by omega⟩
  simp [swk, h, hm]
theorem swk_0 {w : MV} {t k n : Nat} {f : Nat → Nat} {mo : Bool} (h : k = 0 ∨ mIs w t = false) : swk w t k n f mo = (f, mo) := by
  cases k with
  | zero => rfl
  | succ k => rcases h with h | h; omega; simp [swk, h]
def swt (w : MV) : Nat → Nat → (Nat → Nat) → Bool → (Nat → Nat) × Bool
  | 0, _, f, mo => (f, mo)
  | k + 1, n, f, mo => swt w k (n + 1) (swk w n 3 0 f mo).1 (swk w n 3 0 f mo).2
theorem swt_s {w : MV} {k n : Nat} {f f' : Nat → Nat} {mo mo' : Bool} (hk : 0 < k) (h : swk w n 3 0 f mo = (f', mo')) : swt w k n f mo = swt w (k - 1) (n + 1) f' mo' := by
  obtain ⟨k, rfl⟩ : ∃ j, k = j + 1 := ⟨k - 1, by omega⟩
  simp [swt, h]
def swp (w : MV) (f : Nat → Nat) : (Nat → Nat) × Bool := swt w (mTm w) 0 f false
def itr (w : MV) : Nat → (Nat → Nat) → (Nat → Nat)
  | 0, f => f
  | q + 1, f => if (swp w f).2 = true then itr w q (swp w f).1 else (swp w f).1
def sumM (f : Nat → Nat) (N : Nat) : Nat := smN f N 0
theorem smN_up {f : Nat → Nat} {x y : Nat} : ∀ {k n : Nat}, x < n → smN (va_up f x y) k n = smN f k n
  | 0, n, _ => rfl
  | k + 1, n, h => by
    rw [smN, smN, smN_up (by omega), va_up_ne _ _ (by omega)]
theorem smN_up2 {f : Nat → Nat} {x y : Nat} : ∀ {k n : Nat}, n ≤ x → x < n + k → smN (va_up f x y) k n + f x = smN f k n + y
  | 0, n, h1, h2 => by omega
  | k + 1, n, h1, h2 => by
    rw [smN, smN]
    by_cases e : x = n
    · subst e
      rw [smN_up (by omega), va_up_self]; omega
    · have := smN_up2 (f := f) (x := x) (y := y) (k := k) (n := n + 1) (by omega) (by omega)
      rw [va_up_ne _ _ (by omega)]; omega
theorem sw1_sum {w : MV} {t k : Nat} {f : Nat → Nat} {mo : Bool} (ht : t < mTm w) : (sw1 w t k f mo = (f, mo)) ∨ ((sw1 w t k f mo).2 = true ∧ sumM (sw1 w t k f mo).1 (mTm w) < sumM f (mTm w)) := by
  unfold sw1
  cases hq : mnb w t k with
  | none => exact Or.inl rfl
  | some u =>
    obtain ⟨hu, -, hne, -⟩ := mnb_lt hq
    simp only
    split
    · exact Or.inl rfl
    · rename_i hd
      refine Or.inr ⟨rfl, ?_⟩
      have e1 := smN_up2 (f := va_up f u (min (f u) (f t))) (x := t) (y := min (f u) (f t)) (k := mTm w) (n := 0) (by omega) (by omega)
      have e2 := smN_up2 (f := f) (x := u) (y := min (f u) (f t)) (k := mTm w) (n := 0) (by omega) (by omega)
      rw [va_up_ne _ _ (Ne.symm hne)] at e1
      show smN (va_up (va_up f u (min (f u) (f t))) t (min (f u) (f t))) (mTm w) 0 < smN f (mTm w) 0
      omega
theorem swk_sum {w : MV} {t : Nat} (ht : t < mTm w) : ∀ {k n : Nat} {f : Nat → Nat} {mo : Bool}, (swk w t k n f mo = (f, mo)) ∨ ((swk w t k n f mo).2 = true ∧ sumM (swk w t k n f mo).1 (mTm w) < sumM f (mTm w))
  | 0, n, f, mo => Or.inl rfl
  | k + 1, n, f, mo => by
    rw [swk]
    split
    · rcases sw1_sum (k := n) (f := f) (mo := mo) ht with h | ⟨h1, h2⟩
      · rw [h]; exact swk_sum ht
      · rcases swk_sum ht (k := k) (n := n + 1) (f := (sw1 w t n f mo).1) (mo := (sw1 w t n f mo).2) with h | ⟨h3, h4⟩
        · rw [h]; exact Or.inr ⟨h1, h2⟩
        · exact Or.inr ⟨h3, by omega⟩
    · exact Or.inl rfl
theorem swt_sum {w : MV} : ∀ {k n : Nat} {f : Nat → Nat} {mo : Bool}, n + k ≤ mTm w → (swt w k n f mo = (f, mo)) ∨ ((swt w k n f mo).2 = true ∧ sumM (swt w k n f mo).1 (mTm w) < sumM f (mTm w))
  | 0, n, f, mo, _ => Or.inl rfl
  | k + 1, n, f, mo, hn => by
    rw [swt]
    rcases swk_sum (w := w) (t := n) (by omega) (k := 3) (n := 0) (f := f) (mo := mo) with h | ⟨h1, h2⟩
    · rw [h]; exact swt_sum (by omega)
    · rcases swt_sum (w := w) (k := k) (n := n + 1) (f := (swk w n 3 0 f mo).1) (mo := (swk w n 3 0 f mo).2) (by omega) with h | ⟨h3, h4⟩
      · rw [h]; exact Or.inr ⟨h1, h2⟩
      · exact Or.inr ⟨h3, by omega⟩
theorem swp_t {w : MV} {f : Nat → Nat} (h : (swp w f).2 = true) : sumM (swp w f).1 (mTm w) < sumM f (mTm w) := by
  rcases swt_sum (w := w) (k := mTm w) (n := 0) (f := f) (mo := false) (by omega) with e | ⟨-, h2⟩
  · have : (swp w f).2 = false := by rw [swp, e]
    rw [this] at h; cases h
  · exact h2
theorem swp_f {w : MV} {f : Nat → Nat} (h : (swp w f).2 = false) : (swp w f).1 = f := by
  rcases swt_sum (w := w) (k := mTm w) (n := 0) (f := f) (mo := false) (by omega) with e | ⟨h1, -⟩
  · rw [swp, e]
  · have : (swp w f).2 = true := h1
    rw [this] at h; cases h
theorem smN_le {f : Nat → Nat} {B : Nat} (h : ∀ j, f j < B) : ∀ {k n : Nat}, smN f k n ≤ k * B
  | 0, n => by simp [smN]
  | k + 1, n => by
    have h1 := smN_le h (k := k) (n := n + 1); have h2 := h n
    rw [smN, Nat.succ_mul]; omega
/-- what the reference's marks are at the end: the sweep that changes nothing is behind them -/
def mfin (w : MV) : Nat → Nat := itr w 40001 (mi0 (mTm w) 0 (mMk w))
def mpcC (w : MV) : Nat := cnt (fun t => mIs w t && decide (mfin w t = t)) (mTm w) 0
theorem up_ltm {f : Nat → Nat} {N u t : Nat} (h : ∀ j, f j < N) : ∀ j, va_up (va_up f u (min (f u) (f t))) t (min (f u) (f t)) j < N := by
  have h1 := h u; have h2 := h t
  exact up_lt (up_lt h (by omega)) (by omega)
