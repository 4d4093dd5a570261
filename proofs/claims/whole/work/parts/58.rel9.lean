/-! bitCount of an int and of a long: the number of their bits -/
def tN (x : Int32) : Nat := x.toBitVec.toNat
def tM (x : Int64) : Nat := x.toBitVec.toNat
theorem tN_lt (x : Int32) : tN x < 4294967296 := x.toBitVec.isLt
theorem tM_lt (x : Int64) : tM x < 18446744073709551616 := x.toBitVec.isLt
theorem tN_inj {x y : Int32} (h : tN x = tN y) : x = y := Int32.toBitVec_inj.mp (BitVec.eq_of_toNat_eq h)
theorem tN_sub (x y : Int32) (h : tN y ≤ tN x) : tN (x - y) = tN x - tN y := by
  have h1 := tN_lt x; have h2 := tN_lt y
  show (x - y).toBitVec.toNat = _
  rw [Int32.toBitVec_sub, BitVec.toNat_sub]
  show (2 ^ 32 - tN y + tN x) % 2 ^ 32 = _
  omega
theorem tN_add (x y : Int32) : tN (x + y) = (tN x + tN y) % 4294967296 := by
  show (x + y).toBitVec.toNat = _
  rw [Int32.toBitVec_add, BitVec.toNat_add]; rfl
theorem tN_and (x y : Int32) : tN (x &&& y) = tN x &&& tN y := by
  show (x &&& y).toBitVec.toNat = _
  rw [Int32.toBitVec_and, BitVec.toNat_and]; rfl
theorem tN_or (x y : Int32) : tN (x ||| y) = tN x ||| tN y := by
  show (x ||| y).toBitVec.toNat = _
  rw [Int32.toBitVec_or, BitVec.toNat_or]; rfl
theorem tN_nI {c : Nat} (h : c < 4294967296) : tN (nI c) = c := by
  show (BitVec.ofNat 32 c).toNat = c
  rw [BitVec.toNat_ofNat]; omega
theorem tM_sub (x y : Int64) (h : tM y ≤ tM x) : tM (x - y) = tM x - tM y := by
  have h1 := tM_lt x; have h2 := tM_lt y
  show (x - y).toBitVec.toNat = _
  rw [Int64.toBitVec_sub, BitVec.toNat_sub]
  show (2 ^ 64 - tM y + tM x) % 2 ^ 64 = _
  omega
theorem tM_add (x y : Int64) : tM (x + y) = (tM x + tM y) % 18446744073709551616 := by
  show (x + y).toBitVec.toNat = _
  rw [Int64.toBitVec_add, BitVec.toNat_add]; rfl
theorem tM_and (x y : Int64) : tM (x &&& y) = tM x &&& tM y := by
  show (x &&& y).toBitVec.toNat = _
  rw [Int64.toBitVec_and, BitVec.toNat_and]; rfl
theorem tM_or (x y : Int64) : tM (x ||| y) = tM x ||| tM y := by
  show (x ||| y).toBitVec.toNat = _
  rw [Int64.toBitVec_or, BitVec.toNat_or]; rfl
theorem shI_e (x : Int32) {k : Nat} {c : UInt32} (hc : (nI k).toUInt32 &&& Int32.toUInt32 31 = c) (h : c.toNat % 32 = k) : tN (shI x k) = tN x / 2 ^ k := by
  show (x.toUInt32 >>> ((nI k).toUInt32 &&& Int32.toUInt32 31)).toNat = _
  rw [hc, UInt32.toNat_shiftRight, h, Nat.shiftRight_eq_div_pow]; rfl
theorem shL_e (x : Int64) {k : Nat} {c : UInt64} (hc : (nI k).toInt64.toUInt64 &&& Int64.toUInt64 63 = c) (h : c.toNat % 64 = k) : tM (shL x k) = tM x / 2 ^ k := by
  show (x.toUInt64 >>> ((nI k).toInt64.toUInt64 &&& Int64.toUInt64 63)).toNat = _
  rw [hc, UInt64.toNat_shiftRight, h, Nat.shiftRight_eq_div_pow]; rfl
theorem sh1 (x : Int32) : tN (shI x 1) = tN x / 2 := shI_e x (c := 1) (by decide) (by decide)
theorem sh2 (x : Int32) : tN (shI x 2) = tN x / 4 := shI_e x (c := 2) (by decide) (by decide)
theorem sh4 (x : Int32) : tN (shI x 4) = tN x / 16 := shI_e x (c := 4) (by decide) (by decide)
theorem sh8 (x : Int32) : tN (shI x 8) = tN x / 256 := shI_e x (c := 8) (by decide) (by decide)
theorem sh16 (x : Int32) : tN (shI x 16) = tN x / 65536 := shI_e x (c := 16) (by decide) (by decide)
theorem sl1 (x : Int64) : tM (shL x 1) = tM x / 2 := shL_e x (c := 1) (by decide) (by decide)
theorem sl2 (x : Int64) : tM (shL x 2) = tM x / 4 := shL_e x (c := 2) (by decide) (by decide)
theorem sl4 (x : Int64) : tM (shL x 4) = tM x / 16 := shL_e x (c := 4) (by decide) (by decide)
theorem sl8 (x : Int64) : tM (shL x 8) = tM x / 256 := shL_e x (c := 8) (by decide) (by decide)
theorem sl16 (x : Int64) : tM (shL x 16) = tM x / 65536 := shL_e x (c := 16) (by decide) (by decide)
theorem sl32 (x : Int64) : tM (shL x 32) = tM x / 4294967296 := shL_e x (c := 32) (by decide) (by decide)
theorem fin32 {p0 p1 p2 p3 y u : Nat} (h : p0 ≤ 8 ∧ p1 ≤ 8 ∧ p2 ≤ 8 ∧ p3 ≤ 8) (hy : p0 + 256 * (p1 + 256 * (p2 + 256 * (p3 + 256 * 0))) = y) (hu : (y + y / 256) % 4294967296 = u) : (u + u / 65536) % 4294967296 % 2 ^ 6 = p0 + (p1 + (p2 + (p3 + 0))) := by
  have e1 : y / 256 = p1 + 256 * p2 + 65536 * p3 := by omega
  have e2 : u = (p0 + p1) + 256 * (p1 + p2) + 65536 * (p2 + p3) + 16777216 * p3 := by omega
  have e3 : u / 65536 = (p2 + p3) + 256 * p3 := by clear hu hy e1; omega
  clear hu hy e1
  omega
theorem fin64 {p0 p1 p2 p3 p4 p5 p6 p7 y u z : Nat} (h : p0 ≤ 8 ∧ p1 ≤ 8 ∧ p2 ≤ 8 ∧ p3 ≤ 8 ∧ p4 ≤ 8 ∧ p5 ≤ 8 ∧ p6 ≤ 8 ∧ p7 ≤ 8) (hy : p0 + 256 * (p1 + 256 * (p2 + 256 * (p3 + 256 * (p4 + 256 * (p5 + 256 * (p6 + 256 * (p7 + 256 * 0))))))) = y) (hu : (y + y / 256) % 18446744073709551616 = u) (hz : (u + u / 65536) % 18446744073709551616 = z) : (z + z / 4294967296) % 18446744073709551616 % 4294967296 % 2 ^ 7 = p0 + (p1 + (p2 + (p3 + (p4 + (p5 + (p6 + (p7 + 0))))))) := by
  have e1 : y / 256 = p1 + 256 * p2 + 65536 * p3 + 16777216 * p4 + 4294967296 * p5 + 1099511627776 * p6 + 281474976710656 * p7 := by clear hu hz; omega
  have e2 : u = (p0 + p1) + 256 * (p1 + p2) + 65536 * (p2 + p3) + 16777216 * (p3 + p4) + 4294967296 * (p4 + p5) + 1099511627776 * (p5 + p6) + 281474976710656 * (p6 + p7) + 72057594037927936 * p7 := by clear hz; omega
  clear hu hy e1
  have e3 : u / 65536 = (p2 + p3) + 256 * (p3 + p4) + 65536 * (p4 + p5) + 16777216 * (p5 + p6) + 4294967296 * (p6 + p7) + 1099511627776 * p7 := by clear hz; omega
  have e4 : z = (p0 + p1 + p2 + p3) + 256 * (p1 + p2 + p3 + p4) + 65536 * (p2 + p3 + p4 + p5) + 16777216 * (p3 + p4 + p5 + p6) + 4294967296 * (p4 + p5 + p6 + p7) + 1099511627776 * (p5 + p6 + p7) + 281474976710656 * (p6 + p7) + 72057594037927936 * p7 := by omega
  clear hz e2 e3
  have e5 : z / 4294967296 = (p4 + p5 + p6 + p7) + 256 * (p5 + p6 + p7) + 65536 * (p6 + p7) + 16777216 * p7 := by omega
  have e6 : (z + z / 4294967296) % 18446744073709551616 = (p0 + p1 + p2 + p3 + p4 + p5 + p6 + p7) + 256 * (p1 + p2 + p3 + p4 + p5 + p6 + p7 + 256 * (p2 + p3 + p4 + p5 + p6 + p7) + 65536 * (p3 + p4 + p5 + p6 + p7) + 16777216 * (p4 + p5 + p6 + p7) + 4294967296 * (p5 + p6 + p7) + 1099511627776 * (p6 + p7) + 281474976710656 * p7) := by omega
  rw [e6]
  clear e4 e5 e6
  generalize p1 + p2 + p3 + p4 + p5 + p6 + p7 + 256 * (p2 + p3 + p4 + p5 + p6 + p7) + 65536 * (p3 + p4 + p5 + p6 + p7) + 16777216 * (p4 + p5 + p6 + p7) + 4294967296 * (p5 + p6 + p7) + 1099511627776 * (p6 + p7) + 281474976710656 * p7 = q
  omega
theorem bc32_e (x : Int32) : bc32 x = nI (cnt (fun i => (tN x).testBit i) 32 0) := by
  have hl := tN_lt x
  obtain ⟨hC, hz, -⟩ := dm_all 4 (tN x) (by omega)
  have eA : tN (bA x) = tN x - (tN x / 2 &&& mkb 85 4) := by
    have e : tN (shI x 1 &&& 1431655765) = (tN x / 2 &&& mkb 85 4) := by rw [tN_and, sh1]; rfl
    have b : (tN x / 2 &&& mkb 85 4) ≤ tN x / 2 := Nat.and_le_left
    rw [bA, tN_sub _ _ (by rw [e]; omega), e]
  have eB : tN (bB (bA x)) = (tN (bA x) &&& mkb 51 4) + (tN (bA x) / 4 &&& mkb 51 4) := by
    rw [bB, tN_add, tN_and, tN_and, sh2]
    show ((tN (bA x) &&& mkb 51 4) + (tN (bA x) / 4 &&& mkb 51 4)) % 4294967296 = _
    rw [eA]
    exact Nat.mod_eq_of_lt hz
  have eC : tN (bC (bB (bA x))) = dm (fun d => fC (fB (fA d))) 4 (tN x) := by
    rw [bC, tN_and, tN_add, sh4]
    show ((tN (bB (bA x)) + tN (bB (bA x)) / 16) % 2 ^ 32 &&& mkb 15 4) = _
    rw [← and_low _ (mkb 15 4) 32 (by decide), eB, eA]
    exact hC
  apply tN_inj
  have hc : cnt (fun i => (tN x).testBit i) 32 0 ≤ 32 := cnt_le
  rw [tN_nI (by omega), show (32 : Nat) = 8 * 4 from rfl, cnt_bys]
  rw [bc32, tN_and, bE, tN_add, sh16, bD, tN_add, sh8, eC, tN_nI (by decide), show (63 : Nat) = 2 ^ 6 - 1 from rfl, Nat.and_two_pow_sub_one_eq_mod]
  simp only [dm, bys]
  have b0 := f_le (d := tN x % 256) (by omega)
  have b1 := f_le (d := tN x / 256 % 256) (by omega)
  have b2 := f_le (d := tN x / 256 / 256 % 256) (by omega)
  have b3 := f_le (d := tN x / 256 / 256 / 256 % 256) (by omega)
  exact fin32 ⟨b0, b1, b2, b3⟩ rfl rfl
theorem bc64_e (x : Int64) : bc64 x = nI (cnt (fun i => (tM x).testBit i) 64 0) := by
  have hl := tM_lt x
  obtain ⟨hC, hz, -⟩ := dm_all 8 (tM x) (by omega)
  have eA : tM (lA x) = tM x - (tM x / 2 &&& mkb 85 8) := by
    have e : tM (shL x 1 &&& 6148914691236517205) = (tM x / 2 &&& mkb 85 8) := by rw [tM_and, sl1]; rfl
    have b : (tM x / 2 &&& mkb 85 8) ≤ tM x / 2 := Nat.and_le_left
    rw [lA, tM_sub _ _ (by rw [e]; omega), e]
  have eB : tM (lB (lA x)) = (tM (lA x) &&& mkb 51 8) + (tM (lA x) / 4 &&& mkb 51 8) := by
    rw [lB, tM_add, tM_and, tM_and, sl2]
    show ((tM (lA x) &&& mkb 51 8) + (tM (lA x) / 4 &&& mkb 51 8)) % 18446744073709551616 = _
    rw [eA]
    exact Nat.mod_eq_of_lt hz
  have eC : tM (lC (lB (lA x))) = dm (fun d => fC (fB (fA d))) 8 (tM x) := by
    rw [lC, tM_and, tM_add, sl4]
    show ((tM (lB (lA x)) + tM (lB (lA x)) / 16) % 2 ^ 64 &&& mkb 15 8) = _
    rw [← and_low _ (mkb 15 8) 64 (by decide), eB, eA]
    exact hC
  apply tN_inj
  have hc : cnt (fun i => (tM x).testBit i) 64 0 ≤ 64 := cnt_le
  have hT : ∀ y : Int64, tN y.toInt32 = tM y % 4294967296 := fun y => by
    show (y.toInt32).toBitVec.toNat = _
    rw [Int64.toBitVec_toInt32, BitVec.signExtend_eq_setWidth_of_le _ (by decide), BitVec.toNat_setWidth]; rfl
  rw [tN_nI (by omega), show (64 : Nat) = 8 * 8 from rfl, cnt_bys]
  rw [bc64, tN_and, hT, lF, tM_add, sl32, lE, tM_add, sl16, lD, tM_add, sl8, eC, tN_nI (by decide), show (127 : Nat) = 2 ^ 7 - 1 from rfl, Nat.and_two_pow_sub_one_eq_mod]
  simp only [dm, bys]
  have b0 := f_le (d := tM x % 256) (by omega)
  have b1 := f_le (d := tM x / 256 % 256) (by omega)
  have b2 := f_le (d := tM x / 256 / 256 % 256) (by omega)
  have b3 := f_le (d := tM x / 256 / 256 / 256 % 256) (by omega)
  have b4 := f_le (d := tM x / 256 / 256 / 256 / 256 % 256) (by omega)
  have b5 := f_le (d := tM x / 256 / 256 / 256 / 256 / 256 % 256) (by omega)
  have b6 := f_le (d := tM x / 256 / 256 / 256 / 256 / 256 / 256 % 256) (by omega)
  have b7 := f_le (d := tM x / 256 / 256 / 256 / 256 / 256 / 256 / 256 % 256) (by omega)
  exact fin64 ⟨b0, b1, b2, b3, b4, b5, b6, b7⟩ rfl rfl rfl
