/-! MY OWN ROWS: numbers, re-naming of tops, read-only methods and their calls -/
def iI (x : Int) : Int32 := Int32.ofInt x
def lI (x : Int) : Int64 := Int64.ofInt x
def bI (b : Bool) : Int32 := if b then 1 else 0
theorem nI_z (a : Nat) : nI a = iI (a : Int) := (Int32.ofInt_eq_ofNat).symm
theorem iI_add (a b : Int) : iI a + iI b = iI (a + b) := (Int32.ofInt_add a b).symm
theorem iI_sub (a b : Int) : iI a - iI b = iI (a - b) := (Int32.ofInt_sub a b).symm
theorem iI_mul (a b : Int) : iI a * iI b = iI (a * b) := (Int32.ofInt_mul a b).symm
theorem nn_add (a b : Nat) : nI a + nI b = nI (a + b) := nI_add a b
theorem nn_mul (a b : Nat) : nI a * nI b = nI (a * b) := pk_mul a b
theorem nn_sub (a b : Nat) : nI a - nI b = iI ((a : Int) - (b : Int)) := by rw [nI_z, nI_z, iI_sub]
theorem nz_add (a : Nat) (b : Int) : nI a + iI b = iI ((a : Int) + b) := by rw [nI_z, iI_add]
theorem zn_add (a : Int) (b : Nat) : iI a + nI b = iI (a + (b : Int)) := by rw [nI_z, iI_add]
theorem zz_add (a b : Int) : iI a + iI b = iI (a + b) := iI_add a b
theorem nz_sub (a : Nat) (b : Int) : nI a - iI b = iI ((a : Int) - b) := by rw [nI_z, iI_sub]
theorem zn_sub (a : Int) (b : Nat) : iI a - nI b = iI (a - (b : Int)) := by rw [nI_z, iI_sub]
theorem zz_sub (a b : Int) : iI a - iI b = iI (a - b) := iI_sub a b
theorem nz_mul (a : Nat) (b : Int) : nI a * iI b = iI ((a : Int) * b) := by rw [nI_z, iI_mul]
theorem zn_mul (a : Int) (b : Nat) : iI a * nI b = iI (a * (b : Int)) := by rw [nI_z, iI_mul]
theorem zz_mul (a b : Int) : iI a * iI b = iI (a * b) := iI_mul a b
theorem lI_add (a b : Int) : lI a + lI b = lI (a + b) := (Int64.ofInt_add a b).symm
theorem lI_sub (a b : Int) : lI a - lI b = lI (a - b) := (Int64.ofInt_sub a b).symm
theorem lI_mul (a b : Int) : lI a * lI b = lI (a * b) := (Int64.ofInt_mul a b).symm
def zOk (a : Int) : Prop := -2147483648 ≤ a ∧ a < 2147483648
theorem iI_toInt {a : Int} (h : zOk a) : (iI a).toInt = a := Int32.toInt_ofInt_of_le (by have := h.1; omega) (by have := h.2; omega)
theorem zOkN {a : Nat} (h : a < 2 ^ 31) : zOk (a : Int) := ⟨by omega, by omega⟩
theorem zz_eq {a b : Int} (ha : zOk a) (hb : zOk b) : iI a = iI b ↔ a = b := by
  rw [← Int32.toInt_inj, iI_toInt ha, iI_toInt hb]
theorem zz_lt {a b : Int} (ha : zOk a) (hb : zOk b) : iI a < iI b ↔ a < b := by
  rw [Int32.lt_iff_toInt_lt, iI_toInt ha, iI_toInt hb]
theorem zz_le {a b : Int} (ha : zOk a) (hb : zOk b) : iI a ≤ iI b ↔ a ≤ b := by
  rw [Int32.le_iff_toInt_le, iI_toInt ha, iI_toInt hb]
theorem nz_eq {a : Nat} {b : Int} (ha : a < 2 ^ 31) (hb : zOk b) : nI a = iI b ↔ (a : Int) = b := by rw [nI_z]; exact zz_eq (zOkN ha) hb
theorem zn_eq {a : Int} {b : Nat} (ha : zOk a) (hb : b < 2 ^ 31) : iI a = nI b ↔ a = (b : Int) := by rw [nI_z]; exact zz_eq ha (zOkN hb)
theorem nz_lt {a : Nat} {b : Int} (ha : a < 2 ^ 31) (hb : zOk b) : nI a < iI b ↔ (a : Int) < b := by rw [nI_z]; exact zz_lt (zOkN ha) hb
theorem zn_lt {a : Int} {b : Nat} (ha : zOk a) (hb : b < 2 ^ 31) : iI a < nI b ↔ a < (b : Int) := by rw [nI_z]; exact zz_lt ha (zOkN hb)
theorem nz_le {a : Nat} {b : Int} (ha : a < 2 ^ 31) (hb : zOk b) : nI a ≤ iI b ↔ (a : Int) ≤ b := by rw [nI_z]; exact zz_le (zOkN ha) hb
theorem zn_le {a : Int} {b : Nat} (ha : zOk a) (hb : b < 2 ^ 31) : iI a ≤ nI b ↔ a ≤ (b : Int) := by rw [nI_z]; exact zz_le ha (zOkN hb)
theorem bI_f {b : Bool} (h : bI b = 0) : b = false := by cases b; rfl; exact absurd h (by decide)
theorem bI_t {b : Bool} (h : ¬ bI b = 0) : b = true := by cases b; exact absurd rfl h; rfl
theorem bI_1 {b : Bool} (h : b = true) : (1 : Int32) = bI b := by subst h; rfl
theorem bI_0 {b : Bool} (h : b = false) : (0 : Int32) = bI b := by subst h; rfl
theorem zI_l {a : Int} (h : zOk a) : (iI a).toInt64 = lI a := Int64.toInt_inj.mp (by
  rw [Int32.toInt_toInt64, iI_toInt h]
  exact (Int64.toInt_ofInt_of_le (by have := h.1; omega) (by have := h.2; omega)).symm)
theorem nzI_l {a : Nat} (h : a < 2 ^ 31) : (nI a).toInt64 = lI (a : Int) := by rw [nI_z]; exact zI_l (zOkN h)
section MINE
variable {p : Program} {l : Launch} {e : Env} {R : Room} {s : State} {m : MethodId} {args : Array Value} {below : List Frame} {meth : Method} {c : Code} {H : Heap} {locs : List Loc} {cells slots : Nat} {Q : State → Prop}
variable {cc : ByteArray} {pc : Nat} {ls : Array Slot} {rest : List Value} {D : va_G} {cl : List vw_C} {A : Nat → Prop} {a : Nat} {tys : List (ClassId × FieldType)} {ws : va_W} {H0 : Heap}
theorem rt_i {x y : Int32} (h : x = y) (k : W p l e R s m args below meth c H locs cells slots Q (F0 m pc ls (.int y :: rest))) : W p l e R s m args below meth c H locs cells slots Q (F0 m pc ls (.int x :: rest)) := by rw [h]; exact k
theorem rt_l {x y : Int64} (h : x = y) (k : W p l e R s m args below meth c H locs cells slots Q (F0 m pc ls (.long y :: rest))) : W p l e R s m args below meth c H locs cells slots Q (F0 m pc ls (.long x :: rest)) := by rw [h]; exact k
/-- an int array read at a number -/
theorem ia_ld (hexec : p.tables.exec = Jvm.exec) (hb : c.code = cc) (hK : va_K D cl tys s) (hP : va_P D cl ws H) (q0 t0 : Nat) {cA : ClassId} {n k : Nat} {f : Nat → Int32} (ha : ws[q0]? = some (a, .inl (cA, n, .inl f))) (ht : tys[t0]? = some (cA, .int)) (hk : k < n) (hn : n < 2 ^ 31) (hdg : decode cc pc = .ok (.iaload, 1))
    (kk : W p l e R s m args below meth c H locs cells slots Q (F0 m (pc + 1) ls (.int (f k) :: rest))) : W p l e R s m args below meth c H locs cells slots Q (F0 m pc ls (.int (nI k) :: .ref a :: rest)) := by
  refine va_iald hexec hb hK hP q0 t0 ha ht (vp_in_nI hk hn) hdg ?_
  rw [nI_clamp (by omega)]
  exact kk
theorem ro_iret {r : Value} {v : Int32} (hexec : p.tables.exec = Jvm.exec) (hb : c.code = cc) (hr : meth.sig.returnType = some .int) (hv : Value.int v = r) (hdg : decode cc pc = .ok (.ireturn, 1)) (hlocks : meth.locks = false) : W p l e R s m args below meth c s.heap [] 0 0 (MQ below (k2_QcV r) args s 0 0 (fun _ => False)) (F0 m pc ls [.int v]) := by
  subst hv
  exact W.iret hexec hb hr (fun t ht _ => ⟨rfl, ht⟩) (fun _ h => nomatch h) hdg hlocks
theorem ro_zret {r : Value} {v : Int32} {ty : FieldType} (hexec : p.tables.exec = Jvm.exec) (hb : c.code = cc) (hr : meth.sig.returnType = some ty) (hn : narrow ty (.int v) = .int v) (hv : Value.int v = r) (hdg : decode cc pc = .ok (.ireturn, 1)) (hlocks : meth.locks = false) : W p l e R s m args below meth c s.heap [] 0 0 (MQ below (k2_QcV r) args s 0 0 (fun _ => False)) (F0 m pc ls [.int v]) := by
  subst hv
  exact W.zret hexec hb hr hn (fun t ht _ => ⟨rfl, ht⟩) (fun _ h => nomatch h) hdg hlocks
theorem ro_lret {r : Value} {v : Int64} (hexec : p.tables.exec = Jvm.exec) (hb : c.code = cc) (hr : meth.sig.returnType = some .long) (hv : Value.long v = r) (hdg : decode cc pc = .ok (.lreturn, 1)) (hlocks : meth.locks = false) : W p l e R s m args below meth c s.heap [] 0 0 (MQ below (k2_QcV r) args s 0 0 (fun _ => False)) (F0 m pc ls [.long v]) := by
  subst hv
  exact W.lret hexec hb hr (fun t ht _ => ⟨rfl, ht⟩) (fun _ h => nomatch h) hdg hlocks
end MINE
/-- a read-only method's contract: what it answers; the heap stays as it is -/
def ro_B (D : va_G) (cl : List vw_C) (ws : va_W) (tys : List (ClassId × FieldType)) (U : State) : Prop := va_P D cl ws U.heap ∧ va_K D cl tys U
theorem ro_Met {l : Launch} {y : MethodName} {ws ws' : List Cond} {rm : Room} {cc : ByteArray} {maxL : Nat} {ret : Option FieldType} {av : List Value} {D : va_G} {cl : List vw_C} {wo : va_W} {tys : List (ClassId × FieldType)} {r : Value}
    (hy : plainName y.cls = true) (hw : ws = Cond.code y cc maxL ret :: ws') (hlen : (lg_sl av).length ≤ maxL)
    (body : ∀ (p : Program) (e : Env) (s : State) (m : MethodId) (below : List Frame) (meth : Method) (c : Code) (ls : Array Slot), p.tables.exec = Jvm.exec → c.code = cc → c.maxLocals = maxL → meth.sig.returnType = ret → meth.locks = false → s.vm.findClass y.cls = some m.cls → (∀ w ∈ ws, w.before av.toArray s = true) → va_P D cl wo s.heap → va_K D cl tys s → lv_has ls maxL (lv_args 0 av) →
      W p l e rm s m av.toArray below meth c s.heap [] 0 0 (MQ below (k2_QcV r) av.toArray s 0 0 (fun _ => False)) (F0 m 0 ls [])) :
    Met l y ws rm (va_Pc av (ro_B D cl wo tys)) (k2_QcV r) 0 0 (fun _ => False) := by
  refine Met.ofW (cc := cc) (maxL := maxL) (ret := ret) hy hw ?_
  intro p e s m args below meth c s₁ B hml hv
  obtain ⟨rfl, hP, hK⟩ := hv
  have hl := lv_entry av (n := maxL) hlen
  rw [lg_entry_eq]
  exact body p e s m below meth c _ B.exec B.bytes hml B.returns B.notSynchronized (findClass_of_methodNamed B.named) (atoms_spec (ws := ws) B.pre) hP hK hl
section MINEC
variable {p : Program} {l : Launch} {e : Env} {R : Room} {s : State} {m : MethodId} {args : Array Value} {below : List Frame} {meth : Method} {c : Code} {H : Heap} {locs : List Loc} {cells slots : Nat} {Q : State → Prop}
variable {cc bytes : ByteArray} {pc nL maxL n index : Nat} {ls : Array Slot} {rest As st : List Value} {D : va_G} {cl : List vw_C} {tys : List (ClassId × FieldType)} {wo : va_W} {Ts ws : List Cond} {own C : String} {y : MethodName} {ret : Option FieldType} {rm : Room} {r : Value} {b : Nat}
theorem ro_pre (hP : va_P D cl wo H) (hK : va_K D cl tys s) (av : List Value) : PreS s H (va_Pc av (ro_B D cl wo tys)) av :=
  ⟨fun a U g mk q => by obtain ⟨q0, qP, qK⟩ := q; exact ⟨q0, qP, va_K.moved (u := U) (U := U.calling g mk a) (Vm.Alike.refl U.vm) qK⟩, fun U hU hW => ⟨rfl, by rw [hU]; exact hP, va_K.moved hW.alike hK⟩⟩
/-- a call of a read-only instance method -/
theorem ro_V (hx : p.tables.exec = Jvm.exec) (hb : c.code = cc) (hml : c.maxLocals = nL) (hown : s.vm.findClass own = some m.cls) (hts : ∀ w ∈ Ts, w.before args s = true)
    (hM : Met l y ws rm (va_Pc (.ref b :: As) (ro_B D cl wo tys)) (k2_QcV r) 0 0 (fun _ => False)) (cw : CallW R s args own C index y bytes maxL ret ws rm 0 0 n) (hK : va_K D cl tys s) (hP : va_P D cl wo H) {q0 ci : Nat} {q : u_T × Nat} {fs : List Value} (hc : cl[ci]? = some (C, q)) (he : wo[q0]? = some (b, .inr (ci, fs)))
    (hn : As.length = n) (hsize : ls.size = nL) (hstack : st = As.reverse ++ .ref b :: rest) (hW : (rest.map fun v => v.category).sum ≤ 8) (hdg : decode cc pc = .ok (.invokevirtual index, 3)) (hf : cells ≤ R.cells ∧ slots ≤ R.slots)
    (kk : W p l e R s m args below meth c H locs cells slots Q (F0 m (pc + 3) ls (r :: rest))) : W p l e R s m args below meth c H locs cells slots Q (F0 m pc ls st) := by
  obtain ⟨p1, p2⟩ := ro_pre hP hK (.ref b :: As)
  exact W.callV (W.runV (rest := rest) ⟨hx, hb, hml, hown, hts⟩ hM cw ⟨p1, va_recv hK hP hc he, p2⟩ rfl hn hsize hstack (lv_room hW) hdg hf) kk
/-- a call of a read-only static method -/
theorem ro_S (hx : p.tables.exec = Jvm.exec) (hb : c.code = cc) (hml : c.maxLocals = nL) (hown : s.vm.findClass own = some m.cls) (hts : ∀ w ∈ Ts, w.before args s = true)
    (hM : Met l y ws rm (va_Pc As (ro_B D cl wo tys)) (k2_QcV r) 0 0 (fun _ => False)) (cw : CallB R s args own index y bytes maxL ret ws rm 0 0 n ∧ (Cond.static y).before args s = true) (hK : va_K D cl tys s) (hP : va_P D cl wo H)
    (hn : As.length = n) (hsize : ls.size = nL) (hstack : st = As.reverse ++ rest) (hW : (rest.map fun v => v.category).sum ≤ 8) (hdg : decode cc pc = .ok (.invokestatic index, 3)) (hf : cells ≤ R.cells ∧ slots ≤ R.slots)
    (kk : W p l e R s m args below meth c H locs cells slots Q (F0 m (pc + 3) ls (r :: rest))) : W p l e R s m args below meth c H locs cells slots Q (F0 m pc ls st) :=
  W.callV (W.runS (rest := rest) ⟨hx, hb, hml, hown, hts⟩ hM cw (ro_pre hP hK As) rfl hn hsize hstack (lv_room hW) hdg hf) kk
end MINEC
