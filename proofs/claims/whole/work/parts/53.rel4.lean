/-! geometry: what a triangle has lies in its box; edges that cross; places on an edge -/
theorem has_iff {g : GG} {t : Nat} {x y : Int} : has g t x y = true ↔ 0 ≤ tbe g t 0 x y ∧ 0 ≤ tbe g t 1 x y ∧ 0 ≤ tbe g t 2 x y := by
  simp [has, alf]
theorem bar {b0 b1 b2 T x x0 x1 x2 : Int} (h0 : 0 ≤ b0) (h1 : 0 ≤ b1) (h2 : 0 ≤ b2) (hs : b0 + b1 + b2 = T) (hT : 0 < T) (he : b0 * x2 + b1 * x0 + b2 * x1 = T * x) : ¬ (x0 < x ∧ x1 < x ∧ x2 < x) ∧ ¬ (x < x0 ∧ x < x1 ∧ x < x2) := by
  subst hs
  rw [Int.add_mul, Int.add_mul] at he
  constructor
  · rintro ⟨a, b, c⟩
    have e0 := Int.mul_nonneg h0 (show 0 ≤ x - x2 - 1 by omega)
    have e1 := Int.mul_nonneg h1 (show 0 ≤ x - x0 - 1 by omega)
    have e2 := Int.mul_nonneg h2 (show 0 ≤ x - x1 - 1 by omega)
    simp only [Int.mul_sub, Int.mul_one] at e0 e1 e2
    omega
  · rintro ⟨a, b, c⟩
    have e0 := Int.mul_nonneg h0 (show 0 ≤ x2 - x - 1 by omega)
    have e1 := Int.mul_nonneg h1 (show 0 ≤ x0 - x - 1 by omega)
    have e2 := Int.mul_nonneg h2 (show 0 ≤ x1 - x - 1 by omega)
    simp only [Int.mul_sub, Int.mul_one] at e0 e1 e2
    omega
theorem trn_sum (x0 y0 x1 y1 x2 y2 x y : Int) : trn x0 y0 x1 y1 x y + trn x1 y1 x2 y2 x y + trn x2 y2 x0 y0 x y = trn x0 y0 x1 y1 x2 y2 := by
  unfold trn; grind
theorem trn_x (x0 y0 x1 y1 x2 y2 x y : Int) : trn x0 y0 x1 y1 x y * x2 + trn x1 y1 x2 y2 x y * x0 + trn x2 y2 x0 y0 x y * x1 = trn x0 y0 x1 y1 x2 y2 * x := by
  unfold trn; grind
theorem trn_y (x0 y0 x1 y1 x2 y2 x y : Int) : trn x0 y0 x1 y1 x y * y2 + trn x1 y1 x2 y2 x y * y0 + trn x2 y2 x0 y0 x y * y1 = trn x0 y0 x1 y1 x2 y2 * y := by
  unfold trn; grind
theorem has_box {g : GG} {t : Nat} {x y : Int} (hr : rgt g t = true) (hh : has g t x y = true) : (lef g t : Int) ≤ x ∧ x ≤ (rig g t : Int) ∧ (low g t : Int) ≤ y ∧ y ≤ (hig g t : Int) := by
  obtain ⟨h0, h1, h2⟩ := has_iff.mp hh
  have hT : 0 < twi g t := by simpa [rgt] using hr
  have a : ¬ (gx g (gc g t 0) < x ∧ gx g (gc g t 1) < x ∧ gx g (gc g t 2) < x) ∧ ¬ (x < gx g (gc g t 0) ∧ x < gx g (gc g t 1) ∧ x < gx g (gc g t 2)) := bar h0 h1 h2 (trn_sum ..) hT (trn_x ..)
  have b : ¬ (gy g (gc g t 0) < y ∧ gy g (gc g t 1) < y ∧ gy g (gc g t 2) < y) ∧ ¬ (y < gy g (gc g t 0) ∧ y < gy g (gc g t 1) ∧ y < gy g (gc g t 2)) := bar h0 h1 h2 (trn_sum ..) hT (trn_y ..)
  unfold gx at a; unfold gy at b
  unfold lef rig low hig
  omega
theorem fnd_none {P : Nat → Bool} : ∀ {k n : Nat}, (∀ i, n ≤ i → i < n + k → P i = false) → fnd P k n = none
  | 0, n, _ => rfl
  | k + 1, n, h => by
    rw [fnd, h n (by omega) (by omega), fnd_none (fun i h1 h2 => h i (by omega) (by omega))]; rfl
theorem Rel.loc {v : SV} {w : MV} (h : Rel v w) (x y : Int32) : locC v x y = mloC w x y := by
  unfold locC mloC
  split
  · rw [h.g, h.ls.fnd (fun t => rgt w.1 t && has w.1 t x.toInt y.toInt)]
  · rename_i q
    symm
    refine fnd_none (fun t _ _ => ?_)
    cases hr : rgt w.1 t with
    | false => simp
    | true =>
      cases hh : has w.1 t x.toInt y.toInt with
      | false => simp
      | true =>
        exfalso; apply q
        have b := has_box hr hh
        have b1 := rig_lt h.om.1 (t := t); have b2 := hig_lt h.om.1 (t := t)
        simp [inB]; omega
/-! crossing -/
theorem opp_iff {a b : Int} : opp a b = true ↔ (a < 0 ∧ 0 < b) ∨ (0 < a ∧ b < 0) := by
  simp [opp]
theorem cross_no {A1 A2 B1 B2 px qx rx sx M : Int} (hA : opp A1 A2 = true) (hB : opp B1 B2 = true) (id1 : A2 - A1 = B1 - B2) (idx : A2 * rx - A1 * sx = B1 * qx - B2 * px) : ¬ (px ≤ M ∧ qx ≤ M ∧ M < rx ∧ M < sx) ∧ ¬ (rx ≤ M ∧ sx ≤ M ∧ M < px ∧ M < qx) := by
  have e5 : (A2 - A1) * M = (B1 - B2) * M := by rw [id1]
  simp only [Int.sub_mul] at e5
  rw [opp_iff] at hA hB
  rcases hA with ⟨a1, a2⟩ | ⟨a1, a2⟩
  · have b : 0 < B1 ∧ B2 < 0 := by omega
    constructor
    · rintro ⟨h1, h2, h3, h4⟩
      have f1 := Int.mul_nonneg (show 0 ≤ A2 by omega) (show 0 ≤ rx - M - 1 by omega)
      have f2 := Int.mul_nonneg (show 0 ≤ -A1 by omega) (show 0 ≤ sx - M - 1 by omega)
      have f3 := Int.mul_nonneg (show 0 ≤ B1 by omega) (show 0 ≤ M - qx by omega)
      have f4 := Int.mul_nonneg (show 0 ≤ -B2 by omega) (show 0 ≤ M - px by omega)
      simp only [Int.mul_sub, Int.mul_one, Int.neg_mul] at f1 f2 f3 f4
      omega
    · rintro ⟨h1, h2, h3, h4⟩
      have f1 := Int.mul_nonneg (show 0 ≤ A2 by omega) (show 0 ≤ M - rx by omega)
      have f2 := Int.mul_nonneg (show 0 ≤ -A1 by omega) (show 0 ≤ M - sx by omega)
      have f3 := Int.mul_nonneg (show 0 ≤ B1 by omega) (show 0 ≤ qx - M - 1 by omega)
      have f4 := Int.mul_nonneg (show 0 ≤ -B2 by omega) (show 0 ≤ px - M - 1 by omega)
      simp only [Int.mul_sub, Int.mul_one, Int.neg_mul] at f1 f2 f3 f4
      omega
  · have b : B1 < 0 ∧ 0 < B2 := by omega
    constructor
    · rintro ⟨h1, h2, h3, h4⟩
      have f1 := Int.mul_nonneg (show 0 ≤ -A2 by omega) (show 0 ≤ rx - M - 1 by omega)
      have f2 := Int.mul_nonneg (show 0 ≤ A1 by omega) (show 0 ≤ sx - M - 1 by omega)
      have f3 := Int.mul_nonneg (show 0 ≤ -B1 by omega) (show 0 ≤ M - qx by omega)
      have f4 := Int.mul_nonneg (show 0 ≤ B2 by omega) (show 0 ≤ M - px by omega)
      simp only [Int.mul_sub, Int.mul_one, Int.neg_mul] at f1 f2 f3 f4
      omega
    · rintro ⟨h1, h2, h3, h4⟩
      have f1 := Int.mul_nonneg (show 0 ≤ -A2 by omega) (show 0 ≤ M - rx by omega)
      have f2 := Int.mul_nonneg (show 0 ≤ A1 by omega) (show 0 ≤ M - sx by omega)
      have f3 := Int.mul_nonneg (show 0 ≤ -B1 by omega) (show 0 ≤ qx - M - 1 by omega)
      have f4 := Int.mul_nonneg (show 0 ≤ B2 by omega) (show 0 ≤ px - M - 1 by omega)
      simp only [Int.mul_sub, Int.mul_one, Int.neg_mul] at f1 f2 f3 f4
      omega
theorem crs_id (px py qx qy rx ry sx sy : Int) : trn px py qx qy sx sy - trn px py qx qy rx ry = trn rx ry sx sy px py - trn rx ry sx sy qx qy ∧
    trn px py qx qy sx sy * rx - trn px py qx qy rx ry * sx = trn rx ry sx sy px py * qx - trn rx ry sx sy qx qy * px ∧
    trn px py qx qy sx sy * ry - trn px py qx qy rx ry * sy = trn rx ry sx sy px py * qy - trn rx ry sx sy qx qy * py := by
  unfold trn
  refine ⟨?_, ?_, ?_⟩ <;> grind
theorem crs_box {g : GG} {p q r s : Nat} (h : crs g p q r s = true) :
    (∀ M : Int, ¬ (gx g p ≤ M ∧ gx g q ≤ M ∧ M < gx g r ∧ M < gx g s) ∧ ¬ (gx g r ≤ M ∧ gx g s ≤ M ∧ M < gx g p ∧ M < gx g q)) ∧
    ∀ M : Int, ¬ (gy g p ≤ M ∧ gy g q ≤ M ∧ M < gy g r ∧ M < gy g s) ∧ ¬ (gy g r ≤ M ∧ gy g s ≤ M ∧ M < gy g p ∧ M < gy g q) := by
  unfold crs at h
  simp only [Bool.and_eq_true] at h
  obtain ⟨i1, i2, i3⟩ := crs_id (gx g p) (gy g p) (gx g q) (gy g q) (gx g r) (gy g r) (gx g s) (gy g s)
  exact ⟨fun M => cross_no h.1 h.2 i1 i2, fun M => cross_no h.1 h.2 i1 i3⟩
/-! on an edge -/
theorem on_sg {d q S T : Int} (hT : 0 < T) (h : d * S = q * T) (hd : d ≠ 0) (hb : (0 ≤ q ∧ q ≤ d) ∨ (d ≤ q ∧ q ≤ 0)) : 0 ≤ S ∧ S ≤ T := by
  rcases hb with ⟨h1, h2⟩ | ⟨h1, h2⟩
  · have hd0 : 0 < d := by omega
    have e1 := Int.mul_nonneg h1 (show 0 ≤ T by omega)
    have e2 := Int.mul_nonneg (show 0 ≤ d - q by omega) (show 0 ≤ T by omega)
    rw [Int.sub_mul] at e2
    constructor
    · refine Int.not_lt.mp (fun hS => ?_)
      have := Int.mul_nonneg (show 0 ≤ d - 1 by omega) (show 0 ≤ -S by omega)
      rw [Int.mul_neg, Int.sub_mul] at this
      omega
    · refine Int.not_lt.mp (fun hS => ?_)
      have := Int.mul_nonneg (show 0 ≤ d - 1 by omega) (show 0 ≤ S - T by omega)
      rw [Int.mul_sub, Int.sub_mul, Int.sub_mul] at this
      omega
  · have hd0 : d < 0 := by omega
    have e1 := Int.mul_nonneg (show 0 ≤ -q by omega) (show 0 ≤ T by omega)
    have e2 := Int.mul_nonneg (show 0 ≤ q - d by omega) (show 0 ≤ T by omega)
    rw [Int.sub_mul] at e2
    rw [Int.neg_mul] at e1
    constructor
    · refine Int.not_lt.mp (fun hS => ?_)
      have := Int.mul_nonneg (show 0 ≤ -d - 1 by omega) (show 0 ≤ -S by omega)
      rw [Int.mul_neg, Int.sub_mul, Int.neg_mul] at this
      omega
    · refine Int.not_lt.mp (fun hS => ?_)
      have := Int.mul_nonneg (show 0 ≤ -d - 1 by omega) (show 0 ≤ S - T by omega)
      rw [Int.mul_sub, Int.sub_mul, Int.sub_mul, Int.neg_mul, Int.neg_mul] at this
      omega
theorem on_id (cx cy dx dy ex ey ax ay : Int) : (dx - cx) * trn ex ey cx cy ax ay = (ax - cx) * trn cx cy dx dy ex ey - (ex - cx) * trn cx cy dx dy ax ay ∧ (dy - cy) * trn ex ey cx cy ax ay = (ay - cy) * trn cx cy dx dy ex ey - (ey - cy) * trn cx cy dx dy ax ay := by
  unfold trn
  refine ⟨?_, ?_⟩ <;> grind
theorem on_edge {cx cy dx dy ex ey ax ay : Int} (hT : 0 < trn cx cy dx dy ex ey) (hZ : trn cx cy dx dy ax ay = 0) (hx : min cx dx ≤ ax ∧ ax ≤ max cx dx) (hy : min cy dy ≤ ay ∧ ay ≤ max cy dy) : 0 ≤ trn dx dy ex ey ax ay ∧ 0 ≤ trn ex ey cx cy ax ay := by
  have hs := trn_sum cx cy dx dy ex ey ax ay
  obtain ⟨i1, i2⟩ := on_id cx cy dx dy ex ey ax ay
  rw [hZ, Int.mul_zero, Int.sub_zero] at i1 i2
  have key : 0 ≤ trn ex ey cx cy ax ay ∧ trn ex ey cx cy ax ay ≤ trn cx cy dx dy ex ey := by
    by_cases hd : dx - cx = 0
    · refine on_sg hT i2 (fun h0 => ?_) (by omega)
      have : trn cx cy dx dy ex ey = 0 := by
        unfold trn; rw [hd, h0]; simp
      omega
    · exact on_sg hT i1 hd (by omega)
  omega
