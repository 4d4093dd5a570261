/-! bits: what is painted, corners, edges -/
abbrev shI (x : Int32) (k : Nat) : Int32 := (x.toUInt32 >>> ((nI k).toUInt32 &&& Int32.toUInt32 31)).toInt32
abbrev shL (x : Int64) (k : Nat) : Int64 := (x.toUInt64 >>> ((nI k).toInt64.toUInt64 &&& Int64.toUInt64 63)).toInt64
def bA (x : Int32) : Int32 := x - (shI x 1 &&& 1431655765)
def bB (x : Int32) : Int32 := (x &&& 858993459) + (shI x 2 &&& 858993459)
def bC (x : Int32) : Int32 := (x + shI x 4) &&& 252645135
def bD (x : Int32) : Int32 := x + shI x 8
def bE (x : Int32) : Int32 := x + shI x 16
def bc32 (x : Int32) : Int32 := bE (bD (bC (bB (bA x)))) &&& nI 63
def lA (x : Int64) : Int64 := x - (shL x 1 &&& 6148914691236517205)
def lB (x : Int64) : Int64 := (x &&& 3689348814741910323) + (shL x 2 &&& 3689348814741910323)
def lC (x : Int64) : Int64 := (x + shL x 4) &&& 1085102592571150095
def lD (x : Int64) : Int64 := x + shL x 8
def lE (x : Int64) : Int64 := x + shL x 16
def lF (x : Int64) : Int64 := x + shL x 32
def bc64 (x : Int64) : Int32 := (lF (lE (lD (lC (lB (lA x)))))).toInt32 &&& nI 127
def orb (P : Nat → Bool) : Nat → Nat → Int32 → Int32
  | 0, _, acc => acc
  | k + 1, n, acc => orb P k (n + 1) (if P n = true then acc ||| (nI 1 <<< (nI n &&& 31)) else acc)
theorem orb_t {P : Nat → Bool} {k n : Nat} {acc : Int32} (hk : 0 < k) (h : P n = true) : orb P k n acc = orb P (k - 1) (n + 1) (acc ||| (nI 1 <<< (nI n &&& 31))) := by
  obtain ⟨k, rfl⟩ : ∃ j, k = j + 1 := ⟨k - 1, by omega⟩
  simp [orb, h]
theorem orb_f {P : Nat → Bool} {k n : Nat} {acc : Int32} (hk : 0 < k) (h : P n = false) : orb P k n acc = orb P (k - 1) (n + 1) acc := by
  obtain ⟨k, rfl⟩ : ∃ j, k = j + 1 := ⟨k - 1, by omega⟩
  simp [orb, h]
def lip (g : GG) (t j i : Nat) : Bool := lie g t ((16 * i + 8 : Nat) : Int) ((16 * j + 8 : Nat) : Int)
def cbi (g : GG) (t j : Nat) : Int32 := if j < low g t / 16 ∨ hig g t / 16 < j ∨ rgt g t = false then 0 else orb (lip g t j) (rig g t / 16 + 1 - lef g t / 16) (lef g t / 16) 0
def prw (g : GG) (th : Nat → Nat) (j : Nat) : Nat → Nat → Int32 → Int32 → Int32 → Int32 × Int32 × Int32
  | 0, _, cv, ag, sm => (cv, ag, sm)
  | k + 1, n, cv, ag, sm => prw g th j k (n + 1) (cv ||| cbi g (th n) j) (ag ||| (cv &&& cbi g (th n) j)) (sm + bc32 (cbi g (th n) j))
theorem prw_s {g : GG} {th : Nat → Nat} {j k n : Nat} {cv ag sm : Int32} (hk : 0 < k) : prw g th j k n cv ag sm = prw g th j (k - 1) (n + 1) (cv ||| cbi g (th n) j) (ag ||| (cv &&& cbi g (th n) j)) (sm + bc32 (cbi g (th n) j)) := by
  obtain ⟨k, rfl⟩ : ∃ j, k = j + 1 := ⟨k - 1, by omega⟩
  rfl
def pir (v : SV) (j c : Nat) : Int32 := match c with
  | 0 => bc32 (prw v.1 (sTh v) j (sTn v) 0 0 0 0).1
  | 1 => bc32 (prw v.1 (sTh v) j (sTn v) 0 0 0 0).2.1
  | _ => (prw v.1 (sTh v) j (sTn v) 0 0 0 0).2.2
def ppx (v : SV) (c : Nat) : Int := smZ (fun j => (pir v j c).toInt) 32 0
/-- the corners of a triangle as bits -/
def bo (p : Nat) : Int64 := (lI 1) <<< ((nI p).toInt64 &&& 63)
def orc (g : GG) (t : Nat) : Nat → Nat → Int64 → Int64
  | 0, _, acc => acc
  | k + 1, n, acc => orc g t k (n + 1) (acc ||| bo (gc g t n))
theorem orc_s {g : GG} {t k n : Nat} {acc : Int64} (hk : 0 < k) : orc g t k n acc = orc g t (k - 1) (n + 1) (acc ||| bo (gc g t n)) := by
  obtain ⟨k, rfl⟩ : ∃ j, k = j + 1 := ⟨k - 1, by omega⟩
  rfl
def ort (g : GG) (th : Nat → Nat) : Nat → Nat → Int64 → Int64
  | 0, _, acc => acc
  | k + 1, n, acc => ort g th k (n + 1) (orc g (th n) 3 0 acc)
theorem ort_s {g : GG} {th : Nat → Nat} {k n : Nat} {acc : Int64} (hk : 0 < k) : ort g th k n acc = ort g th (k - 1) (n + 1) (orc g (th n) 3 0 acc) := by
  obtain ⟨k, rfl⟩ : ∃ j, k = j + 1 := ⟨k - 1, by omega⟩
  rfl
def ccpC (v : SV) : Int32 := bc64 (ort v.1 (sTh v) (sTn v) 0 (lI 0))
def fil (x : Int64) : Nat → Nat → (Nat → Int64) → (Nat → Int64)
  | 0, _, f => f
  | k + 1, n, f => fil x k (n + 1) (va_up f n x)
theorem fil_s {x : Int64} {k n : Nat} {f : Nat → Int64} (hk : 0 < k) : fil x k n f = fil x (k - 1) (n + 1) (va_up f n x) := by
  obtain ⟨k, rfl⟩ : ∃ j, k = j + 1 := ⟨k - 1, by omega⟩
  rfl
def jok (g : GG) (t : Nat) : Nat → Nat → (Nat → Int64) → (Nat → Int64)
  | 0, _, f => f
  | k + 1, n, f => jok g t k (n + 1) (va_up f (min (gc g t n) (gc g t (n + 1))) (f (min (gc g t n) (gc g t (n + 1))) ||| bo (max (gc g t n) (gc g t (n + 1)))))
theorem jok_s {g : GG} {t k n : Nat} {f : Nat → Int64} (hk : 0 < k) : jok g t k n f = jok g t (k - 1) (n + 1) (va_up f (min (gc g t n) (gc g t (n + 1))) (f (min (gc g t n) (gc g t (n + 1))) ||| bo (max (gc g t n) (gc g t (n + 1))))) := by
  obtain ⟨k, rfl⟩ : ∃ j, k = j + 1 := ⟨k - 1, by omega⟩
  rfl
def jot (g : GG) (th : Nat → Nat) : Nat → Nat → (Nat → Int64) → (Nat → Int64)
  | 0, _, f => f
  | k + 1, n, f => jot g th k (n + 1) (jok g (th n) 3 0 f)
theorem jot_s {g : GG} {th : Nat → Nat} {k n : Nat} {f : Nat → Int64} (hk : 0 < k) : jot g th k n f = jot g th (k - 1) (n + 1) (jok g (th n) 3 0 f) := by
  obtain ⟨k, rfl⟩ : ∃ j, k = j + 1 := ⟨k - 1, by omega⟩
  rfl
def sme (f : Nat → Int64) : Nat → Nat → Int32 → Int32
  | 0, _, acc => acc
  | k + 1, n, acc => sme f k (n + 1) (acc + bc64 (f n))
theorem sme_s {f : Nat → Int64} {k n : Nat} {acc : Int32} (hk : 0 < k) : sme f k n acc = sme f (k - 1) (n + 1) (acc + bc64 (f n)) := by
  obtain ⟨k, rfl⟩ : ∃ j, k = j + 1 := ⟨k - 1, by omega⟩
  rfl
abbrev sJoX (v : SV) (f : Nat → Int64) : SV := (v.1, sPn v, sTh v, sTn v, sTm v, f, v.2.2.2.2.2.2)
def edJ (v : SV) : Nat → Int64 := jot v.1 (sTh v) (sTn v) 0 (fil (lI 0) 60 0 (sJo v))
def cdeC (v : SV) : Int32 := sme (edJ v) 60 0 0
section WRS
variable {p : Program} {l : Launch} {e : Env} {R : Room} {s : State} {m : MethodId} {args : Array Value} {below : List Frame} {meth : Method} {c : Code} {H H0 : Heap} {locs : List Loc} {cells slots : Nat} {Q : State → Prop} {A0 : Nat → Prop}
variable {cc bytes : ByteArray} {pc nL maxL n index : Nat} {ls : Array Slot} {rest As st : List Value} {D : va_G} {cl : List vw_C} {tys : List (ClassId × FieldType)} {wo wo' : va_W} {Ts ws : List Cond} {own : String} {y : MethodName} {ret : Option FieldType} {rm : Room} {r : Option Value}
theorem wr_S (hx : p.tables.exec = Jvm.exec) (hb : c.code = cc) (hml : c.maxLocals = nL) (hown : s.vm.findClass own = some m.cls) (hts : ∀ w ∈ Ts, w.before args s = true)
    (hM : Met l y ws rm (va_Pc As (wr_B D cl wo tys)) (wr_Q r D cl wo wo') 0 0 (inW wo)) (cw : CallB R s args own index y bytes maxL ret ws rm 0 0 n ∧ (Cond.static y).before args s = true) (hK : va_K D cl tys s) (hP : va_P D cl wo H) (hD : va_D A0 wo) (hS : va_S A0 H0 H locs) (hsm : wo'.map Prod.fst = wo.map Prod.fst)
    (hn : As.length = n) (hsize : ls.size = nL) (hstack : st = As.reverse ++ rest) (hW : (rest.map fun v => v.category).sum ≤ 8) (hdg : decode cc pc = .ok (.invokestatic index, 3)) (hf : cells ≤ R.cells ∧ slots ≤ R.slots)
    (kk : ∀ (H1 : Heap) (locs1 : List Loc), va_P D cl wo' H1 → va_D A0 wo' → va_S A0 H0 H1 locs1 → W p l e R s m args below meth c H1 locs1 cells slots Q (F0 m (pc + 3) ls (r.toList ++ rest))) : W p l e R s m args below meth c H locs cells slots Q (F0 m pc ls st) :=
  wr_call (va_runS (rest := rest) ⟨hx, hb, hml, hown, hts⟩ hM cw (wr_pre hP hK hD As) rfl hn hsize hstack (lv_room hW) hdg hf) hD hS (fun H1 locs1 h1 _ _ h2 => kk H1 locs1 h1 (hD.same hsm) h2)
end WRS
