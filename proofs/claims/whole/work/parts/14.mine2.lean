/-! longs, booleans, byte rows -/
def lOk (a : Int) : Prop := -9223372036854775808 ≤ a ∧ a < 9223372036854775808
theorem lOk_0 : lOk 0 := ⟨by decide, by decide⟩
theorem lOk_1 : lOk 1 := ⟨by decide, by decide⟩
theorem zOk.l {a : Int} (h : zOk a) : lOk a := ⟨by have := h.1; omega, by have := h.2; omega⟩
theorem lI_toInt {a : Int} (h : lOk a) : (lI a).toInt = a := Int64.toInt_ofInt_of_le (by have := h.1; omega) (by have := h.2; omega)
theorem lI_lt {a b : Int} (ha : lOk a) (hb : lOk b) : lI a < lI b ↔ a < b := by
  rw [Int64.lt_iff_toInt_lt, lI_toInt ha, lI_toInt hb]
theorem lI_eq {a b : Int} (ha : lOk a) (hb : lOk b) : lI a = lI b ↔ a = b := by
  rw [← Int64.toInt_inj, lI_toInt ha, lI_toInt hb]
theorem lc_v {a b : Int} (ha : lOk a) (hb : lOk b) : lg_cmp (lI a) (lI b) = if b < a then 1 else if a < b then -1 else 0 := by
  unfold lg_cmp
  by_cases h1 : b < a
  · simp [h1, (lI_lt hb ha).mpr h1]
  · by_cases h2 : a < b
    · have e1 : ¬ lI b < lI a := fun q => h1 ((lI_lt hb ha).mp q)
      have e2 := (lI_lt ha hb).mpr h2
      have e3 : ¬ lI a = lI b := fun q => by have := (lI_eq ha hb).mp q; omega
      simp [h1, h2, e1, e2, e3]
    · have e : a = b := by omega
      subst e
      have e1 : ¬ lI a < lI a := fun q => h1 ((lI_lt ha ha).mp q)
      simp [h1, e1]
theorem lc_lt {a b : Int} (ha : lOk a) (hb : lOk b) : lg_cmp (lI a) (lI b) < 0 ↔ a < b := by
  rw [lc_v ha hb]; split
  · constructor <;> intro h <;> first | omega | exact absurd h (by decide)
  · split
    · exact ⟨fun _ => by assumption, fun _ => by decide⟩
    · constructor <;> intro h <;> first | omega | exact absurd h (by decide)
theorem lc_gt {a b : Int} (ha : lOk a) (hb : lOk b) : 0 < lg_cmp (lI a) (lI b) ↔ b < a := by
  rw [lc_v ha hb]; split
  · exact ⟨fun _ => by assumption, fun _ => by decide⟩
  · split
    · constructor <;> intro h <;> first | omega | exact absurd h (by decide)
    · constructor <;> intro h <;> first | omega | exact absurd h (by decide)
theorem lc_eq {a b : Int} (ha : lOk a) (hb : lOk b) : lg_cmp (lI a) (lI b) = 0 ↔ a = b := by
  rw [lc_v ha hb]; split
  · constructor <;> intro h <;> first | omega | exact absurd h (by decide)
  · split
    · constructor <;> intro h <;> first | omega | exact absurd h (by decide)
    · exact ⟨fun _ => by omega, fun _ => rfl⟩
theorem lc_le {a b : Int} (ha : lOk a) (hb : lOk b) : lg_cmp (lI a) (lI b) ≤ 0 ↔ a ≤ b := by
  rw [lc_v ha hb]; split
  · constructor <;> intro h <;> first | omega | exact absurd h (by decide)
  · split
    · exact ⟨fun _ => by omega, fun _ => by decide⟩
    · exact ⟨fun _ => by omega, fun _ => by decide⟩
theorem lc_ge {a b : Int} (ha : lOk a) (hb : lOk b) : 0 ≤ lg_cmp (lI a) (lI b) ↔ b ≤ a := by
  rw [lc_v ha hb]; split
  · exact ⟨fun _ => by omega, fun _ => by decide⟩
  · split
    · constructor <;> intro h <;> first | omega | exact absurd h (by decide)
    · exact ⟨fun _ => by omega, fun _ => by decide⟩
theorem nar_b (b : Bool) : narrow .boolean (.int (bI b)) = .int (bI b) := by cases b <;> decide
theorem trn_lok {ax ay bx b_y cx cy : Int} (h1 : 0 ≤ ax ∧ ax < 512) (h2 : 0 ≤ ay ∧ ay < 512) (h3 : 0 ≤ bx ∧ bx < 512) (h4 : 0 ≤ b_y ∧ b_y < 512) (h5 : zOk cx) (h6 : zOk cy) : lOk (trn ax ay bx b_y cx cy) := by
  have a1 := mul_bd (a := bx - ax) (b := cy - ay) (A := 511) (B := 2147484160) ⟨by omega, by omega⟩ ⟨by have := h6.1; omega, by have := h6.2; omega⟩
  have a2 := mul_bd (a := b_y - ay) (b := cx - ax) (A := 511) (B := 2147484160) ⟨by omega, by omega⟩ ⟨by have := h5.1; omega, by have := h5.2; omega⟩
  unfold lOk trn
  constructor <;> omega
theorem tat_lok {g : GG} (h : okG g) {p q : Nat} {x y : Int} (hx : zOk x) (hy : zOk y) : lOk (tat g p q x y) := by
  have h1 := h.1 p; have h2 := h.1 q; have h3 := h.2.1 p; have h4 := h.2.1 q
  unfold tat gx gy
  exact trn_lok ⟨by omega, by omega⟩ ⟨by omega, by omega⟩ ⟨by omega, by omega⟩ ⟨by omega, by omega⟩ hx hy
section MINE2
variable {p : Program} {l : Launch} {e : Env} {R : Room} {s : State} {m : MethodId} {args : Array Value} {below : List Frame} {meth : Method} {c : Code} {H : Heap} {locs : List Loc} {cells slots : Nat} {Q : State → Prop}
variable {cc : ByteArray} {pc : Nat} {ls : Array Slot} {rest : List Value} {D : va_G} {cl : List vw_C} {a : Nat} {tys : List (ClassId × FieldType)} {ws : va_W}
theorem za_ld (hexec : p.tables.exec = Jvm.exec) (hb : c.code = cc) (hK : va_K D cl tys s) (hP : va_P D cl ws H) (q0 t0 : Nat) {cA : ClassId} {n k : Nat} {f : Nat → Int32} (ha : ws[q0]? = some (a, .inl (cA, n, .inl f))) (ht : tys[t0]? = some (cA, .boolean)) (hk : k < n) (hn : n < 2 ^ 31) (hdg : decode cc pc = .ok (.baload, 1))
    (kk : W p l e R s m args below meth c H locs cells slots Q (F0 m (pc + 1) ls (.int (f k) :: rest))) : W p l e R s m args below meth c H locs cells slots Q (F0 m pc ls (.int (nI k) :: .ref a :: rest)) := by
  refine va_zald hexec hb hK hP q0 t0 ha ht (vp_in_nI hk hn) hdg ?_
  rw [nI_clamp (by omega)]
  exact kk
end MINE2
theorem ne_m1 {u : Nat} (h : u < 2 ^ 31) : ¬ nI u = iI (-1) := fun q => by
  have q2 : (u : Int) = -1 := (nz_eq h zOk_m1).mp q
  omega
section OC
variable {p : Program} {l : Launch} {e : Env} {R : Room} {s : State} {m : MethodId} {args : Array Value} {below : List Frame} {meth : Method} {c : Code} {H : Heap} {locs : List Loc} {cells slots : Nat} {Q : State → Prop} {pc : Nat} {ls : Array Slot} {rest : List Value}
theorem ocase {x : Option Nat} (h0 : x = none → W p l e R s m args below meth c H locs cells slots Q (F0 m pc ls (.int (iI (-1)) :: rest))) (h1 : ∀ u, x = some u → W p l e R s m args below meth c H locs cells slots Q (F0 m pc ls (.int (nI u) :: rest))) : W p l e R s m args below meth c H locs cells slots Q (F0 m pc ls (.int (oI x) :: rest)) := by
  cases x with
  | none => exact h0 rfl
  | some u => exact h1 u rfl
end OC
/-! what the reference computes -/
def mth (w : MV) (t : Int32) : Bool := inB t (mTm w) && mIs w t.toNatClampNeg
def sgn (a : Int) : Int := if a < 0 then -1 else if 0 < a then 1 else 0
def bet (g : GG) (p a b : Nat) : Bool := decide (tof g a b p = 0) && (decide (min (g.1 a) (g.1 b) ≤ g.1 p) && (decide (g.1 p ≤ max (g.1 a) (g.1 b)) && (decide (min (g.2.1 a) (g.2.1 b) ≤ g.2.1 p) && decide (g.2.1 p ≤ max (g.2.1 a) (g.2.1 b)))))
def odd (g : GG) (a b c d : Nat) : Bool := !((decide (a = c) && decide (b = d)) || (decide (a = d) && decide (b = c))) &&
  ((!decide (a = c) && (!decide (a = d) && bet g a c d)) || ((!decide (b = c) && (!decide (b = d) && bet g b c d)) || ((!decide (c = a) && (!decide (c = b) && bet g c a b)) || ((!decide (d = a) && (!decide (d = b) && bet g d a b)) ||
    ((!decide (a = c) && (!decide (a = d) && (!decide (b = c) && !decide (b = d)))) && (decide (sgn (tof g a b c) * sgn (tof g a b d) < 0) && decide (sgn (tof g c d a) * sgn (tof g c d b) < 0)))))))
def nbe (g : GG) (u t k : Nat) : Option Nat := fnd (fun j => decide (gc g u j = gc g t (k + 1)) && decide (gc g u (j + 1) = gc g t k)) 3 0
def mnb (w : MV) (t k : Nat) : Option Nat := fnd (fun u => mIs w u && (!decide (u = t) && (nbe w.1 u t k).isSome)) (mTm w) 0
theorem mnb_lt {w : MV} {t k u : Nat} (h : mnb w t k = some u) : u < mTm w ∧ mIs w u = true ∧ u ≠ t ∧ (nbe w.1 u t k).isSome = true := by
  obtain ⟨-, h1, h2⟩ := fnd_lt h
  simp at h2
  exact ⟨by omega, h2.1, h2.2.1, h2.2.2⟩
def det (a b c d e f g h i : Int) : Int := a * (e * i - f * h) - b * (d * i - f * g) + c * (d * h - e * g)
def ded (g : GG) (a b c d : Nat) : Int := det (gx g a - gx g d) (gy g a - gy g d) ((gx g a - gx g d) * (gx g a - gx g d) + (gy g a - gy g d) * (gy g a - gy g d)) (gx g b - gx g d) (gy g b - gy g d) ((gx g b - gx g d) * (gx g b - gx g d) + (gy g b - gy g d) * (gy g b - gy g d)) (gx g c - gx g d) (gy g c - gy g d) ((gx g c - gx g d) * (gx g c - gx g d) + (gy g c - gy g d) * (gy g c - gy g d))
def god (g : GG) (t k : Nat) (o : Option Nat) (bey : Nat → Nat) : Bool := match o with
  | none => true
  | some u => decide (ded g (gc g t k) (gc g t (k + 1)) (gc g t (k + 2)) (bey u) ≤ 0)
/-- the corner of u beyond the edge k of t -/
def bey (g : GG) (t k u : Nat) : Nat := gc g u ((nbe g u t k).getD 0 + 2)
def mti (g : GG) (t u : Nat) : Bool := alf (fun k => !(!hcr g u (gc g t k) && has g u (gx g (gc g t k)) (gy g (gc g t k))) && !(!hcr g t (gc g u k) && has g t (gx g (gc g u k)) (gy g (gc g u k)))) 3 0 &&
  (!decide (cnt (fun k => hcr g u (gc g t k)) 3 0 = 3) && alf (fun i => alf (fun j => !odd g (gc g t i) (gc g t (i + 1)) (gc g u j) (gc g u (j + 1))) 3 0) 3 0)
theorem rz {a b : Int} (h : a = b) : Value.int (iI a) = .int (iI b) := by rw [h]
theorem rnz {a : Nat} {b : Int} (h : (a : Int) = b) : Value.int (nI a) = .int (iI b) := by rw [nI_z, h]
theorem rn {a b : Nat} (h : a = b) : Value.int (nI a) = .int (nI b) := by rw [h]
theorem bv_1 {b : Bool} (h : b = true) : nI 1 = bI b := by subst h; rfl
theorem bv_0 {b : Bool} (h : b = false) : nI 0 = bI b := by subst h; rfl
theorem sgn_ok (a : Int) : zOk (sgn a) := by
  unfold sgn zOk
  split <;> (try split) <;> constructor <;> decide
theorem sgn_mul_ok (a b : Int) : zOk (sgn a * sgn b) := by
  unfold sgn zOk
  split <;> split <;> (try split) <;> (try split) <;> constructor <;> decide
theorem alf_s {P : Nat → Bool} {k n : Nat} (hk : 0 < k) : alf P k n = (P n && alf P (k - 1) (n + 1)) := by
  obtain ⟨k, rfl⟩ : ∃ j, k = j + 1 := ⟨k - 1, by omega⟩
  rfl
theorem cnt_s {P : Nat → Bool} {k n : Nat} (hk : 0 < k) : cnt P k n = (P n).toNat + cnt P (k - 1) (n + 1) := by
  obtain ⟨k, rfl⟩ : ∃ j, k = j + 1 := ⟨k - 1, by omega⟩
  cases h : P n <;> simp [cnt, h]
theorem g_bdx {g : GG} (h : okG g) (a d : Nat) : -511 ≤ gx g a - gx g d ∧ gx g a - gx g d ≤ 511 := by
  have h1 := h.1 a; have h2 := h.1 d; unfold gx; omega
theorem g_bdy {g : GG} (h : okG g) (a d : Nat) : -511 ≤ gy g a - gy g d ∧ gy g a - gy g d ≤ 511 := by
  have h1 := h.2.1 a; have h2 := h.2.1 d; unfold gy; omega
theorem det_bd {a b c d e f g h i : Int} (ha : -511 ≤ a ∧ a ≤ 511) (hb : -511 ≤ b ∧ b ≤ 511) (hc : -522242 ≤ c ∧ c ≤ 522242) (hd : -511 ≤ d ∧ d ≤ 511) (he : -511 ≤ e ∧ e ≤ 511) (hf : -522242 ≤ f ∧ f ≤ 522242) (hg : -511 ≤ g ∧ g ≤ 511) (hh : -511 ≤ h ∧ h ≤ 511) (hi : -522242 ≤ i ∧ i ≤ 522242) : lOk (det a b c d e f g h i) := by
  have h1 := mul_bd he hi; have h2 := mul_bd hf hh; have h3 := mul_bd hd hi; have h4 := mul_bd hf hg; have h5 := mul_bd hd hh; have h6 := mul_bd he hg
  have k1 := mul_bd (a := a) (b := e * i - f * h) (A := 511) (B := 533731324) ha ⟨by omega, by omega⟩
  have k2 := mul_bd (a := b) (b := d * i - f * g) (A := 511) (B := 533731324) hb ⟨by omega, by omega⟩
  have k3 := mul_bd (a := c) (b := d * h - e * g) (A := 522242) (B := 522242) hc ⟨by omega, by omega⟩
  unfold lOk det
  constructor <;> omega
theorem sq_bd {a b : Int} (ha : -511 ≤ a ∧ a ≤ 511) (hb : -511 ≤ b ∧ b ≤ 511) : -522242 ≤ a * a + b * b ∧ a * a + b * b ≤ 522242 := by
  have h1 := mul_bd ha ha; have h2 := mul_bd hb hb
  constructor <;> omega
theorem ded_lok {g : GG} (h : okG g) {a b c d : Nat} : lOk (ded g a b c d) :=
  det_bd (g_bdx h a d) (g_bdy h a d) (sq_bd (g_bdx h a d) (g_bdy h a d)) (g_bdx h b d) (g_bdy h b d) (sq_bd (g_bdx h b d) (g_bdy h b d)) (g_bdx h c d) (g_bdy h c d) (sq_bd (g_bdx h c d) (g_bdy h c d))
