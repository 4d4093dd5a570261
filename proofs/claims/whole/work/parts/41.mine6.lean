/-! THROWN OUT OF THE CLASS: what a throwing call wants of the machine, and how its contract begins and ends -/
abbrev xt_nm : List String := ["java/lang/RuntimeException", "java/lang/Exception"]
def xt_texts : List (Nat × String) := [(44, "no such place"), (54, "a point is there, or all have come"), (67, "no such point"), (73, "another point is there"), (79, "no such points"), (81, "two points are one"), (85, "no more triangles can be"), (93, "no such triangle"), (103, "not a place within the triangle"), (105, "a point is there, or no more can be"), (116, "no such edge"), (121, "not 0 to 500 times")]
def xt_str (U : State) : Prop := ∀ q ∈ xt_texts, ∃ sa, vk_R RX2 q.1 q.2 sa U
def xt_E (A : Nat → Prop) (U : State) (H : Heap) : Prop := vx_Zq Bundle.tN "UNASSIGNED_STACK" Bundle.steD A U H ∧ vx_Zq Bundle.tN "SUPPRESSED_SENTINEL" Bundle.listD A U H ∧ xt_str U
theorem xt_E.moved {A : Nat → Prop} {u U : State} {H : Heap} (hW : u.WarmedH U.vm) (h : xt_E A u H) : xt_E A U H :=
  ⟨vx_Zq.moved hW.alike h.1, vx_Zq.moved hW.alike h.2.1, fun q hq => by obtain ⟨sa, h9⟩ := h.2.2 q hq; exact ⟨sa, vk_R.warm hW h9⟩⟩
theorem xt_E.kept {A : Nat → Prop} {U : State} {H H1 : Heap} (h : xt_E A U H) (hq : ∀ a : Nat, a < H.size → ¬ A a → H1[a]? = H[a]?) : xt_E A U H1 := ⟨h.1.kept hq, h.2.1.kept hq, h.2.2⟩
theorem xt_E.narrow {A B : Nat → Prop} {U : State} {H : Heap} (h : xt_E A U H) (hq : ∀ a, B a → A a) : xt_E B U H := ⟨h.1.narrow hq, h.2.1.narrow hq, h.2.2⟩
/-- the exception's class; nothing old has changed -/
def xt_X (E0 : String) : String → State → State → Prop := fun E st t => E = E0 ∧ st.heap.size ≤ t.heap.size ∧ ∀ q : Nat, q < st.heap.size → t.heap[q]? = st.heap[q]?
def xt_N : Array Value → State → Outcome → State → Prop := fun _ _ _ _ => False
def xt_B (D : va_G) (cl : List vw_C) (ws : va_W) (tys : List (ClassId × FieldType)) (U : State) : Prop := ro_B D cl ws tys U ∧ xt_E (fun _ => False) U U.heap
theorem xt_Met {l : Launch} {y : MethodName} {ws ws' : List Cond} {rm : Room} {cc : ByteArray} {maxL : Nat} {ret : Option FieldType} {av : List Value} {D : va_G} {cl : List vw_C} {wo : va_W} {tys : List (ClassId × FieldType)} {E0 : String}
    (hy : plainName y.cls = true) (hw : ws = Cond.code y cc maxL ret :: ws') (hlen : (lg_sl av).length ≤ maxL)
    (body : ∀ (p : Program) (e : Env) (s : State) (m : MethodId) (below : List Frame) (meth : Method) (c : Code) (ls : Array Slot), p.tables.exec = Jvm.exec → c.code = cc → c.maxLocals = maxL → meth.sig.returnType = ret → meth.locks = false → s.vm.findClass y.cls = some m.cls → (∀ w ∈ ws, w.before av.toArray s = true) → va_P D cl wo s.heap → va_K D cl tys s → lv_has ls maxL (lv_args 0 av) → (∀ x ∈ c.exceptionTable.toList, False) → xt_E (fun _ => False) s s.heap →
      W p l e rm s m av.toArray below meth c s.heap [] 0 0 (vx_MQ below xt_N (xt_X E0) av.toArray s 1 6 (fun _ => False)) (F0 m 0 ls [])) :
    vx_Met l y ws rm (va_Pc av (xt_B D cl wo tys)) xt_N (xt_X E0) 1 6 (fun _ => False) := by
  refine vx_ofW (cc := cc) (maxL := maxL) (ret := ret) hy hw ?_
  intro p e s m args below meth c s₁ B hml hex hv
  obtain ⟨rfl, ⟨hP, hK⟩, hE⟩ := hv
  have hl := lv_entry av (n := maxL) hlen
  rw [lg_entry_eq]
  exact body p e s m below meth c _ B.exec B.bytes hml B.returns B.notSynchronized (findClass_of_methodNamed B.named) (atoms_spec (ws := ws) B.pre) hP hK hl hex hE
theorem xt_cast {E : String} {args : Array Value} {s : State} (h : (Cond.initialized E).before args s = true) : (Cond.castable E E).before args s = true := by
  have h9 : (Cond.initialized E).holds args s none s [] = true := h
  show (Cond.castable E E).holds args s none s [] = true
  cases hc : s.vm.findClass E with
  | none => simp [Cond.holds, Cond.value, hc] at h9
  | some c =>
    have ha : s.vm.assignable c c = true := by
      show s.vm.assignableAux (255 + 1) c c = true
      rw [Vm.assignableAux, beq_self_eq_true, Bool.true_or]
    simp [Cond.holds, Cond.value, hc, ha]
theorem xt_decl {x : MethodName} {bytes : ByteArray} {n : Nat} {ret : Option FieldType} {args : Array Value} {s : State} (h : (Cond.instanceMethod x).before args s = true) (h2 : (Cond.code x bytes n ret).before args s = true) : (Cond.declares x).before args s = true := by
  obtain ⟨mk, meth, hn, hm, hs, -⟩ := Cond.instanceMethod_spec h
  obtain ⟨meth', c, hm', -, -, -, -, -, -, hsig⟩ := Cond.code_spec hn h2
  cases hm.symm.trans hm'
  show (Cond.declares x).holds args s none s [] = true
  simp [Cond.holds, Cond.value, hn, hm, hs, hsig]
theorem xt_bad (ic : Nat) (E : String) (h : E = "java/lang/IllegalArgumentException" ∧ ic = 46 ∨ E = "java/lang/IllegalStateException" ∧ ic = 56 ∨ E = "java/lang/IndexOutOfBoundsException" ∧ ic = 69) : (vx_atS RX2 ic E xt_nm).filter (fun w => !goodWord w) = [.declares (Bundle.initS "java/lang/RuntimeException"), .declares (Bundle.initS "java/lang/Exception"), .declares (Bundle.initS Bundle.tN), .castable E E] ∧ (vx_atS RX2 ic E xt_nm).all vx_ot = true ∧ Bundle.fit E = true := by
  rcases h with ⟨rfl, rfl⟩ | ⟨rfl, rfl⟩ | ⟨rfl, rfl⟩ <;> refine ⟨?_, ?_, ?_⟩ <;> decide +kernel
section XT
variable {p : Program} {l : Launch} {e : Env} {R : Room} {s : State} {m : MethodId} {args : Array Value} {below : List Frame} {meth : Method} {c : Code} {cc : ByteArray} {pc : Nat} {ls : Array Slot} {rest : List Value}
theorem xt_throw {Ts : List Cond} (hexec : p.tables.exec = Jvm.exec) (hb : c.code = cc) (hml : c.maxLocals = ls.size) (hl : l.stackTraces = false) {E text : String} {ik is ic : Nat} (hown : s.vm.findClass RX2 = some m.cls) (hts : ∀ w ∈ Ts, w.before args s = true)
    (hE0 : E = "java/lang/IllegalArgumentException" ∧ ic = 46 ∨ E = "java/lang/IllegalStateException" ∧ ic = 56 ∨ E = "java/lang/IndexOutOfBoundsException" ∧ ic = 69)
    (hk : Cond.classLink RX2 ik E ∈ Ts) (hi : Cond.initialized E ∈ Ts) (hat : ∀ w ∈ (vx_atS RX2 ic E xt_nm).filter goodWord, w ∈ Ts) (hE : xt_E (fun _ => False) s s.heap) (hin : (is, text) ∈ xt_texts) (hout : ∀ x ∈ c.exceptionTable.toList, False)
    (d0 : decode cc pc = .ok (.new ik, 3)) (d3 : decode cc (pc + 3) = .ok (.dup, 1)) (d4 : decode cc (pc + 4) = .ok (.ldc is, 2)) (d6 : decode cc (pc + 6) = .ok (.invokespecial ic, 3)) (d9 : decode cc (pc + 9) = .ok (.athrow, 1))
    (hRf : 6 ≤ R.frames) (hRl : (rest.map fun v => v.category).sum + 82 ≤ R.locals) (hRc : 1 ≤ R.cells) (hRs : 6 ≤ R.slots) (hlocks : meth.locks = false) :
    W p l e R s m args below meth c s.heap [] 0 0 (vx_MQ below xt_N (xt_X E) args s 1 6 (fun _ => False)) (F0 m pc ls rest) := by
  obtain ⟨h1, h2, h3⟩ := xt_bad ic E hE0
  obtain ⟨sa, hsa⟩ := hE.2.2 _ hin
  have hg : ∀ w, w ∈ vx_atS RX2 ic E xt_nm → goodWord w = true → w.before args s = true := fun w hw g => hts w (hat w (List.mem_filter.mpr ⟨hw, g⟩))
  have ha : ∀ w ∈ vx_atS RX2 ic E xt_nm, w.before args s = true := vx_hat (fun w hw => hts w (hat w hw)) (by rw [h1]; exact fun _ h => h) 
    (vx_c (xt_decl (bytes := Bundle.six) (n := 2) (ret := none) (hg _ (by simp [vx_atS, Bundle.ownAtoms, Bundle.chainSAtoms, Bundle.passSAtoms, vx_no]) rfl) (hg _ (by simp [vx_atS, Bundle.ownAtoms, Bundle.chainSAtoms, Bundle.passSAtoms, vx_no]) rfl))
    (vx_c (xt_decl (bytes := Bundle.six) (n := 2) (ret := none) (hg _ (by simp [vx_atS, Bundle.ownAtoms, Bundle.chainSAtoms, Bundle.passSAtoms, vx_no]) rfl) (hg _ (by simp [vx_atS, Bundle.ownAtoms, Bundle.chainSAtoms, Bundle.passSAtoms, vx_no]) rfl))
    (vx_c (xt_decl (bytes := LibCode.Throwable.InitS.code) (n := 2) (ret := none) (hg _ (by simp [vx_atS, Bundle.ownAtoms, Bundle.throwableSAtoms, vx_no]) rfl) (hg _ (by simp [vx_atS, Bundle.ownAtoms, Bundle.throwableSAtoms, vx_no]) rfl))
    (vx_c (xt_cast (hts _ hi)) vx_n))))
  refine vx_throwS (A := fun _ => False) (sa := sa) (names := xt_nm) (free := fun _ => False) hexec hb hl hown h3 (by decide) (hts _ hk) (hts _ hi) hsa ha ?_ hE.1 hE.2.1 ⟨Nat.le_refl _, fun _ _ _ => rfl, fun _ h => nomatch h⟩ hml.symm d0 d3 d4 d6 d9 (fun x hx => (hout x hx).elim) hRf (by simpa using hRl) (by simpa using hRc) (by simpa using hRs) hlocks (fun t _ h9 h8 => ⟨rfl, h9, h8⟩) (fun _ h => nomatch h) (Nat.le_refl _) (Nat.le_refl _)
  intro w hw
  rcases List.mem_cons.mp hw with rfl | hw
  · rfl
  · rcases List.mem_cons.mp hw with rfl | hw
    · rfl
    · exact List.all_eq_true.mp h2 w hw
end XT
