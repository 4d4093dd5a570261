/-! what is painted: a row's bits, and the counts -/
def bt (x : Int32) (i : Nat) : Bool := (tN x).testBit i
theorem bt_or (x y : Int32) (i : Nat) : bt (x ||| y) i = (bt x i || bt y i) := by unfold bt; rw [tN_or, Nat.testBit_or]
theorem bt_and (x y : Int32) (i : Nat) : bt (x &&& y) i = (bt x i && bt y i) := by unfold bt; rw [tN_and, Nat.testBit_and]
theorem bt_0 (i : Nat) : bt 0 i = false := by
  unfold bt; rw [show tN 0 = 0 from rfl, Nat.zero_testBit]
theorem sh_one : ∀ n, n < 32 → tN (nI 1 <<< (nI n &&& 31)) = 2 ^ n := by decide +kernel
theorem bt_one {n i : Nat} (hn : n < 32) : bt (nI 1 <<< (nI n &&& 31)) i = decide (n = i) := by
  unfold bt; rw [sh_one n hn, Nat.testBit_two_pow]
theorem orb_bt {P : Nat → Bool} : ∀ (k n : Nat) (acc : Int32) (i : Nat), n + k ≤ 32 → bt (orb P k n acc) i = (bt acc i || (decide (n ≤ i ∧ i < n + k) && P i))
  | 0, n, acc, i, _ => by
    rw [orb, decide_eq_false (by omega)]; simp
  | k + 1, n, acc, i, h => by
    rw [orb, orb_bt k (n + 1) _ i (by omega)]
    by_cases hi : i = n
    · subst hi
      rw [decide_eq_false (show ¬ (i + 1 ≤ i ∧ i < i + 1 + k) by omega), decide_eq_true (show i ≤ i ∧ i < i + (k + 1) by omega)]
      cases hp : P i
      · simp
      · simp only [if_true, bt_or, bt_one (show i < 32 by omega), decide_true]; simp
    · have e : decide (n + 1 ≤ i ∧ i < n + 1 + k) = decide (n ≤ i ∧ i < n + (k + 1)) := by
        rw [decide_eq_decide]; omega
      rw [e]
      congr 1
      cases hp : P n
      · simp
      · simp only [if_true, bt_or, bt_one (show n < 32 by omega)]
        rw [decide_eq_false (show ¬ n = i by omega)]; simp
theorem lie_has {g : GG} {t : Nat} {x y : Int} (h : lie g t x y = true) : has g t x y = true := by
  unfold lie at h
  rw [alf_3] at h
  simp only [Bool.and_eq_true, Bool.or_eq_true, decide_eq_true_eq] at h
  rw [has_iff]
  omega
theorem cov_box {g : GG} {t i j : Nat} (h : cov g t i j = true) : rgt g t = true ∧ lef g t / 16 ≤ i ∧ i ≤ rig g t / 16 ∧ low g t / 16 ≤ j ∧ j ≤ hig g t / 16 := by
  unfold cov at h
  simp only [Bool.and_eq_true] at h
  have b := has_box h.1 (lie_has h.2)
  exact ⟨h.1, by omega, by omega, by omega, by omega⟩
theorem lef_le {g : GG} {t : Nat} : lef g t ≤ rig g t := by unfold lef rig; omega
theorem cbi_bt {g : GG} (hg : okG g) {t i j : Nat} : bt (cbi g t j) i = cov g t i j := by
  have hr := rig_lt hg (t := t)
  unfold cbi
  by_cases hc : j < low g t / 16 ∨ hig g t / 16 < j ∨ rgt g t = false
  · rw [if_pos hc, bt_0]
    cases h : cov g t i j with
    | false => rfl
    | true =>
      obtain ⟨b0, b1, b2, b3, b4⟩ := cov_box h
      rcases hc with h1 | h1 | h1
      · omega
      · omega
      · rw [b0] at h1; cases h1
  · rw [if_neg hc]
    have hrt : rgt g t = true := by
      cases q : rgt g t
      · exact absurd (Or.inr (Or.inr q)) hc
      · rfl
    have hle0 := lef_le (g := g) (t := t)
    have hle : lef g t / 16 ≤ rig g t / 16 := Nat.div_le_div_right hle0
    have hr2 : rig g t / 16 < 32 := by clear hle hle0 hc; omega
    rw [orb_bt _ _ _ _ (by clear hc; omega), bt_0]
    have e : lip g t j i = lie g t ((16 * i + 8 : Nat) : Int) ((16 * j + 8 : Nat) : Int) := rfl
    cases h : cov g t i j with
    | true =>
      obtain ⟨b0, b1, b2, b3, b4⟩ := cov_box h
      unfold cov at h
      simp only [Bool.and_eq_true] at h
      have hin : lef g t / 16 ≤ i ∧ i < lef g t / 16 + (rig g t / 16 + 1 - lef g t / 16) := by clear hc h e; omega
      rw [e, h.2, decide_eq_true hin]; rfl
    | false =>
      unfold cov at h
      rw [hrt, Bool.true_and] at h
      rw [e, h]; simp
theorem smZ_add (f h : Nat → Int) : ∀ k n : Nat, smZ (fun i => f i + h i) k n = smZ f k n + smZ h k n
  | 0, n => by simp [smZ]
  | k + 1, n => by rw [smZ, smZ, smZ, smZ_add f h k (n + 1)]; omega
theorem smZ_zero : ∀ k n : Nat, smZ (fun _ => 0) k n = 0
  | 0, n => rfl
  | k + 1, n => by rw [smZ, smZ_zero k (n + 1)]; rfl
theorem smZ_swap (F : Nat → Nat → Int) (c d : Nat) : ∀ a b : Nat, smZ (fun j => smZ (fun i => F i j) a b) c d = smZ (fun i => smZ (fun j => F i j) c d) a b
  | 0, b => by simp only [smZ]; exact smZ_zero c d
  | a + 1, b => by
    simp only [smZ]
    rw [smZ_add, smZ_swap F c d a (b + 1)]
theorem cnt_Z (P : Nat → Bool) : ∀ k n : Nat, ((cnt P k n : Nat) : Int) = smZ (fun i => if P i = true then 1 else 0) k n
  | 0, n => rfl
  | k + 1, n => by
    rw [cnt, smZ, ← cnt_Z P k (n + 1)]
    cases P n <;> simp
theorem smN_Z (f : Nat → Nat) : ∀ k n : Nat, ((smN f k n : Nat) : Int) = smZ (fun i => (f i : Int)) k n
  | 0, n => rfl
  | k + 1, n => by
    rw [smN, smZ, ← smN_Z f k (n + 1)]; omega
theorem prw_1 {g : GG} {th : Nat → Nat} {j i : Nat} : ∀ (k n c : Nat) (cv ag sm : Int32), bt cv i = decide (1 ≤ c) → bt ag i = decide (2 ≤ c) →
    bt (prw g th j k n cv ag sm).1 i = decide (1 ≤ c + cnt (fun m => bt (cbi g (th m) j) i) k n) ∧ bt (prw g th j k n cv ag sm).2.1 i = decide (2 ≤ c + cnt (fun m => bt (cbi g (th m) j) i) k n)
  | 0, n, c, cv, ag, sm, h1, h2 => ⟨h1, h2⟩
  | k + 1, n, c, cv, ag, sm, h1, h2 => by
    rw [prw, cnt]
    cases hb : bt (cbi g (th n) j) i with
    | false =>
      have := prw_1 (g := g) (th := th) (j := j) (i := i) k (n + 1) c (cv ||| cbi g (th n) j) (ag ||| (cv &&& cbi g (th n) j)) (sm + bc32 (cbi g (th n) j)) (by rw [bt_or, hb, h1]; simp) (by rw [bt_or, bt_and, hb, h2]; simp)
      simpa using this
    | true =>
      have := prw_1 (g := g) (th := th) (j := j) (i := i) k (n + 1) (c + 1) (cv ||| cbi g (th n) j) (ag ||| (cv &&& cbi g (th n) j)) (sm + bc32 (cbi g (th n) j)) (by rw [bt_or, hb, h1]; simp) (by
        rw [bt_or, bt_and, hb, h1, h2, Bool.and_true]
        rw [Bool.eq_iff_iff]; simp; omega)
      simp only [if_true]
      rw [show c + (1 + cnt (fun m => bt (cbi g (th m) j) i) k (n + 1)) = c + 1 + cnt (fun m => bt (cbi g (th m) j) i) k (n + 1) by omega]
      exact this
theorem bc32_b (x : Int32) : bc32 x = nI (cnt (bt x) 32 0) := bc32_e x
theorem prw_2 {g : GG} {th : Nat → Nat} {j : Nat} : ∀ (k n q : Nat) (cv ag : Int32), (prw g th j k n cv ag (nI q)).2.2 = nI (q + smN (fun m => cnt (bt (cbi g (th m) j)) 32 0) k n)
  | 0, n, q, cv, ag => rfl
  | k + 1, n, q, cv, ag => by
    have := prw_2 (g := g) (th := th) (j := j) k (n + 1) (q + cnt (bt (cbi g (th n) j)) 32 0) (cv ||| cbi g (th n) j) (ag ||| (cv &&& cbi g (th n) j))
    rw [prw, bc32_b, nn_add, this, smN, Nat.add_assoc]
section RP
variable {v : SV} {w : MV}
def cij (v : SV) (i j : Nat) : Nat := cnt (fun m => cov v.1 (sTh v m) i j) (sTn v) 0
theorem pir_0 (hv : okS v) (j : Nat) : pir v j 0 = nI (cnt (fun i => decide (1 ≤ cij v i j)) 32 0) := by
  show bc32 (prw v.1 (sTh v) j (sTn v) 0 0 0 0).1 = _
  rw [bc32_b]
  refine congrArg nI (cnt_congr (fun i _ _ => ?_))
  have := (prw_1 (g := v.1) (th := sTh v) (j := j) (i := i) (sTn v) 0 0 0 0 0 (bt_0 i) (bt_0 i)).1
  rw [Nat.zero_add] at this
  unfold cij
  rw [← cnt_congr (P := fun m => bt (cbi v.1 (sTh v m) j) i) (fun m _ _ => cbi_bt hv.1)]
  exact this
theorem pir_1 (hv : okS v) (j : Nat) : pir v j 1 = nI (cnt (fun i => decide (2 ≤ cij v i j)) 32 0) := by
  show bc32 (prw v.1 (sTh v) j (sTn v) 0 0 0 0).2.1 = _
  rw [bc32_b]
  refine congrArg nI (cnt_congr (fun i _ _ => ?_))
  have := (prw_1 (g := v.1) (th := sTh v) (j := j) (i := i) (sTn v) 0 0 0 0 0 (bt_0 i) (bt_0 i)).2
  rw [Nat.zero_add] at this
  unfold cij
  rw [← cnt_congr (P := fun m => bt (cbi v.1 (sTh v m) j) i) (fun m _ _ => cbi_bt hv.1)]
  exact this
theorem pir_2 (hv : okS v) (j : Nat) : pir v j 2 = nI (smN (fun m => cnt (fun i => cov v.1 (sTh v m) i j) 32 0) (sTn v) 0) := by
  have h1 : pir v j 2 = nI (0 + smN (fun m => cnt (bt (cbi v.1 (sTh v m) j)) 32 0) (sTn v) 0) := prw_2 (g := v.1) (th := sTh v) (j := j) (sTn v) 0 0 0 0
  rw [h1, Nat.zero_add]
  exact congrArg nI (smN_congr (fun m _ _ => cnt_congr (fun i _ _ => cbi_bt hv.1)))
theorem Rel.hm (h : Rel v w) (i j : Nat) : hmC w i j = cij v i j := by
  unfold hmC cij
  rw [h.g, h.ls.cnt (fun t => cov w.1 t i j)]
  exact cnt_congr (fun t _ ht => by rw [mth_lt h.om (by omega)])
theorem smN_bd {f : Nat → Nat} {B : Nat} (h : ∀ j, f j ≤ B) : ∀ {k n : Nat}, smN f k n ≤ k * B
  | 0, n => by simp [smN]
  | k + 1, n => by
    have h1 := h n; have h2 := smN_bd h (k := k) (n := n + 1)
    rw [smN, Nat.add_mul]; omega
theorem Rel.px0 (h : Rel v w) : ppx v 0 = mpx w 0 := by
  unfold ppx mpx
  rw [smZ_congr (Q := fun j => smZ (fun i => if 0 < cij v i j then 1 else 0) 32 0) (fun j _ _ => by
    have hb : cnt (fun i => decide (1 ≤ cij v i j)) 32 0 ≤ 32 := cnt_le
    rw [pir_0 h.os, nI_toInt (by omega), cnt_Z]
    exact smZ_congr (fun i _ _ => by simp; rfl)), smZ_swap]
  refine smZ_congr (fun i _ _ => smZ_congr (fun j _ _ => ?_))
  rw [h.hm]; simp
theorem Rel.px1 (h : Rel v w) : ppx v 1 = mpx w 1 := by
  unfold ppx mpx
  rw [smZ_congr (Q := fun j => smZ (fun i => if 1 < cij v i j then 1 else 0) 32 0) (fun j _ _ => by
    have hb : cnt (fun i => decide (2 ≤ cij v i j)) 32 0 ≤ 32 := cnt_le
    rw [pir_1 h.os, nI_toInt (by omega), cnt_Z]
    exact smZ_congr (fun i _ _ => by simp; rfl)), smZ_swap]
  refine smZ_congr (fun i _ _ => smZ_congr (fun j _ _ => ?_))
  rw [h.hm]; simp
theorem Rel.px2 (h : Rel v w) : ppx v 2 = mpx w 2 := by
  unfold ppx mpx
  rw [smZ_congr (Q := fun j => smZ (fun i => (cij v i j : Int)) 32 0) (fun j _ _ => by
    have hb : smN (fun m => cnt (fun i => cov v.1 (sTh v m) i j) 32 0) (sTn v) 0 ≤ sTn v * 32 := smN_bd (fun m => cnt_le)
    have hn := h.os.2.2.2.1
    rw [pir_2 h.os, nI_toInt (by omega), smN_Z]
    rw [smZ_congr (Q := fun m => smZ (fun i => if cov v.1 (sTh v m) i j = true then 1 else 0) 32 0) (fun m _ _ => cnt_Z _ _ _), smZ_swap (fun i m => if cov v.1 (sTh v m) i j = true then 1 else 0)]
    exact smZ_congr (fun i _ _ => (cnt_Z _ _ _).symm)), smZ_swap]
  refine smZ_congr (fun i _ _ => smZ_congr (fun j _ _ => ?_))
  rw [h.hm]; simp
end RP
