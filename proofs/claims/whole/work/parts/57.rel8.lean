/-! how many bits are set: what bitCount computes -/
def dm (φ : Nat → Nat) : Nat → Nat → Nat
  | 0, _ => 0
  | k + 1, n => φ (n % 256) + 256 * dm φ k (n / 256)
def mkb (c : Nat) : Nat → Nat
  | 0 => 0
  | k + 1 => c + 256 * mkb c k
theorem and_256 (a : Nat) {c M : Nat} (hc : c < 256) : a &&& (c + 256 * M) = (a % 256 &&& c) + 256 * (a / 256 &&& M) := by
  have h1 := Nat.and_mod_two_pow (a := a) (b := c + 256 * M) (n := 8)
  have h2 := Nat.and_div_two_pow (a := a) (b := c + 256 * M) (n := 8)
  rw [show (2 : Nat) ^ 8 = 256 from rfl] at h1 h2
  rw [show (c + 256 * M) % 256 = c by omega] at h1
  rw [show (c + 256 * M) / 256 = M by omega] at h2
  rw [← h1, ← h2]
  exact (Nat.mod_add_div _ 256).symm
theorem and_low (a c j : Nat) (hc : c < 2 ^ j) : a &&& c = a % 2 ^ j &&& c := by
  have h1 := Nat.and_mod_two_pow (a := a) (b := c) (n := j)
  rw [Nat.mod_eq_of_lt hc, Nat.mod_eq_of_lt (Nat.lt_of_le_of_lt Nat.and_le_right hc)] at h1
  exact h1
def fA (d : Nat) : Nat := d - (d / 2 &&& 85)
def fB (d : Nat) : Nat := (d &&& 51) + (d / 4 &&& 51)
def fC (d : Nat) : Nat := (d + d / 16) % 16
theorem dm_A : ∀ (k n : Nat), n < 256 ^ k → n - (n / 2 &&& mkb 85 k) = dm fA k n
  | 0, n, h => by simp [mkb, dm]; simpa using h
  | k + 1, n, h => by
    rw [mkb, and_256 (n / 2) (by omega), dm]
    have hq : n / 256 < 256 ^ k := by
      rw [Nat.pow_succ] at h; exact Nat.div_lt_of_lt_mul (by rw [Nat.mul_comm]; exact h)
    have e1 : n / 2 / 256 = n / 256 / 2 := by omega
    have e2 : (n / 2 % 256 &&& 85) = (n % 256 / 2 &&& 85) := by
      rw [and_low (n / 2 % 256) 85 7 (by decide), and_low (n % 256 / 2) 85 7 (by decide)]
      congr 1; omega
    rw [e1, e2, ← dm_A k (n / 256) hq, fA]
    have b1 : (n % 256 / 2 &&& 85) ≤ n % 256 / 2 := Nat.and_le_left
    have b2 : (n / 256 / 2 &&& mkb 85 k) ≤ n / 256 / 2 := Nat.and_le_left
    omega
theorem dm_B : ∀ (k n : Nat), (n &&& mkb 51 k) + (n / 4 &&& mkb 51 k) = dm fB k n
  | 0, n => by simp [mkb, dm]
  | k + 1, n => by
    rw [mkb, and_256 n (by omega), and_256 (n / 4) (by omega), dm]
    have e1 : n / 4 / 256 = n / 256 / 4 := by omega
    have e2 : (n / 4 % 256 &&& 51) = (n % 256 / 4 &&& 51) := by
      rw [and_low (n / 4 % 256) 51 6 (by decide), and_low (n % 256 / 4) 51 6 (by decide)]
      congr 1; omega
    rw [e1, e2, ← dm_B k (n / 256), fB]
    omega
def nib : Nat → Nat → Prop
  | 0, _ => True
  | k + 1, n => n % 16 ≤ 4 ∧ n % 256 / 16 ≤ 4 ∧ nib k (n / 256)
theorem dm_C : ∀ (k n : Nat), n < 256 ^ k → nib k n → ((n + n / 16) &&& mkb 15 k) = dm fC k n
  | 0, n, _, _ => by simp [mkb, dm]
  | k + 1, n, hlt, h => by
    obtain ⟨h1, h2, h3⟩ := h
    have hq : n / 256 < 256 ^ k := by
      rw [Nat.pow_succ] at hlt; exact Nat.div_lt_of_lt_mul (by rw [Nat.mul_comm]; exact hlt)
    have h4 : n / 256 % 16 ≤ 4 := by
      cases k with
      | zero => have : n / 256 < 1 := hq; omega
      | succ k => exact h3.1
    rw [mkb, and_256 (n + n / 16) (by omega), dm]
    have e1 : (n + n / 16) / 256 = n / 256 + n / 256 / 16 := by omega
    have e2 : ((n + n / 16) % 256 &&& 15) = fC (n % 256) := by
      rw [show (15 : Nat) = 2 ^ 4 - 1 from rfl, Nat.and_two_pow_sub_one_eq_mod, fC]; omega
    rw [e1, e2, dm_C k (n / 256) hq h3]
theorem dm_dm {φ ψ : Nat → Nat} (h : ∀ d, d < 256 → φ d < 256) : ∀ (k n : Nat), dm ψ k (dm φ k n) = dm (fun d => ψ (φ d)) k n
  | 0, n => rfl
  | k + 1, n => by
    have h1 := h (n % 256) (by omega)
    rw [dm, dm, dm, show (φ (n % 256) + 256 * dm φ k (n / 256)) % 256 = φ (n % 256) by omega, show (φ (n % 256) + 256 * dm φ k (n / 256)) / 256 = dm φ k (n / 256) by omega, dm_dm h k (n / 256)]
theorem dm_lt {φ : Nat → Nat} (h : ∀ d, d < 256 → φ d < 256) : ∀ (k n : Nat), dm φ k n < 256 ^ k
  | 0, n => by simp [dm]
  | k + 1, n => by
    have h1 := h (n % 256) (by omega)
    have h2 := dm_lt h k (n / 256)
    rw [dm, Nat.pow_succ]; omega
theorem dm_nib {φ : Nat → Nat} (h : ∀ d, d < 256 → φ d < 256 ∧ φ d % 16 ≤ 4 ∧ φ d / 16 ≤ 4) : ∀ (k n : Nat), nib k (dm φ k n)
  | 0, n => trivial
  | k + 1, n => by
    have h1 := h (n % 256) (by omega)
    rw [dm, nib, show (φ (n % 256) + 256 * dm φ k (n / 256)) / 256 = dm φ k (n / 256) by omega]
    exact ⟨by omega, by omega, dm_nib h k (n / 256)⟩
theorem f_ok : ∀ d, d < 256 → fA d < 256 ∧ (fB (fA d) < 256 ∧ fB (fA d) % 16 ≤ 4 ∧ fB (fA d) / 16 ≤ 4) ∧ fC (fB (fA d)) = cnt (fun i => d.testBit i) 8 0 := by decide +kernel
theorem cnt_split (P : Nat → Bool) : ∀ (a b n : Nat), cnt P (a + b) n = cnt P a n + cnt P b (n + a)
  | 0, b, n => by simp [cnt]
  | a + 1, b, n => by
    rw [show a + 1 + b = (a + b) + 1 by omega, cnt, cnt, cnt_split P a b (n + 1), show n + 1 + a = n + (a + 1) by omega]; omega
theorem cnt_shift (P : Nat → Bool) (a : Nat) : ∀ (b n : Nat), cnt P b (n + a) = cnt (fun i => P (i + a)) b n
  | 0, n => rfl
  | b + 1, n => by
    rw [cnt, cnt, ← cnt_shift P a b (n + 1), show n + a + 1 = n + 1 + a by omega]
/-- the bytes' counts, added -/
def bys : Nat → Nat → Nat
  | 0, _ => 0
  | k + 1, n => fC (fB (fA (n % 256))) + bys k (n / 256)
theorem cnt_bys : ∀ (k n : Nat), cnt (fun i => n.testBit i) (8 * k) 0 = bys k n
  | 0, n => rfl
  | k + 1, n => by
    rw [show 8 * (k + 1) = 8 + 8 * k by omega, cnt_split, cnt_shift, bys, ← cnt_bys k (n / 256), (f_ok (n % 256) (by omega)).2.2]
    congr 1
    · refine cnt_congr (fun i _ hi => ?_)
      rw [show (256 : Nat) = 2 ^ 8 from rfl, Nat.testBit_mod_two_pow]; simp; omega
    · refine cnt_congr (fun i _ _ => ?_)
      rw [show (256 : Nat) = 2 ^ 8 from rfl, Nat.testBit_div_two_pow]
theorem dm_all (k n : Nat) (h : n < 256 ^ k) : let y := n - (n / 2 &&& mkb 85 k); let z := (y &&& mkb 51 k) + (y / 4 &&& mkb 51 k); ((z + z / 16) &&& mkb 15 k) = dm (fun d => fC (fB (fA d))) k n ∧ z < 256 ^ k ∧ z % 256 ≤ 68 := by
  intro y z
  have hy : y = dm fA k n := dm_A k n h
  have hz : z = dm (fun d => fB (fA d)) k n := by
    show (y &&& mkb 51 k) + (y / 4 &&& mkb 51 k) = _
    rw [hy, dm_B, dm_dm (fun d hd => (f_ok d hd).1)]
  have hl : z < 256 ^ k := by rw [hz]; exact dm_lt (fun d hd => (f_ok d hd).2.1.1) k n
  have hn : nib k z := by rw [hz]; exact dm_nib (fun d hd => (f_ok d hd).2.1) k n
  refine ⟨?_, hl, ?_⟩
  · rw [dm_C k z hl hn, hz, dm_dm (fun d hd => (f_ok d hd).2.1.1)]
  · cases k with
    | zero => have : z < 1 := hl; omega
    | succ k => have h1 := hn.1; have h2 := hn.2.1; omega
theorem f_le {d : Nat} (hd : d < 256) : fC (fB (fA d)) ≤ 8 := by rw [(f_ok d hd).2.2]; exact cnt_le
