/-! writers: methods that change cells of their own world, and make none -/
def inW (wo : va_W) (q : Nat) : Prop := ∃ (k : Nat) (e : va_E), wo[k]? = some (q, e)
def wr_B (D : va_G) (cl : List vw_C) (wo : va_W) (tys : List (ClassId × FieldType)) (U : State) : Prop := va_P D cl wo U.heap ∧ va_K D cl tys U ∧ va_D (fun _ => True) wo
def wr_Q (r : Option Value) (D : va_G) (cl : List vw_C) (wo wo' : va_W) : Array Value → State → Outcome → State → Prop := fun _ st o t => o = .returned r ∧ va_P D cl wo' t.heap ∧ va_F (inW wo) st t
theorem va_D.same {A : Nat → Prop} {w w' : va_W} (h : va_D A w) (e : w'.map Prod.fst = w.map Prod.fst) : va_D A w' := by
  have key : ∀ (k : Nat) (q : Nat × va_E), w'[k]? = some q → ∃ q0, w[k]? = some q0 ∧ q0.1 = q.1 := by
    intro k q hk
    have h1 : (w'.map Prod.fst)[k]? = some q.1 := by rw [List.getElem?_map, hk]; rfl
    rw [e, List.getElem?_map] at h1
    cases hq : w[k]? with
    | none => rw [hq] at h1; cases h1
    | some q0 => rw [hq] at h1; exact ⟨q0, rfl, Option.some.inj h1⟩
  refine ⟨fun i j x y hi hj hxy => ?_, fun k q hk => ?_⟩
  · obtain ⟨x0, h1, h2⟩ := key i x hi
    obtain ⟨y0, h3, h4⟩ := key j y hj
    exact h.1 i j x0 y0 h1 h3 (h2.trans (hxy.trans h4.symm))
  · obtain ⟨q0, h1, h2⟩ := key k q hk
    rw [← h2]; exact h.2 k q0 h1
theorem inW.same {w w' : va_W} (e : w'.map Prod.fst = w.map Prod.fst) {q : Nat} (h : inW w' q) : inW w q := by
  obtain ⟨k, x, hk⟩ := h
  have h1 : (w'.map Prod.fst)[k]? = some q := by rw [List.getElem?_map, hk]; rfl
  rw [e, List.getElem?_map] at h1
  cases hq : w[k]? with
  | none => rw [hq] at h1; cases h1
  | some q0 => rw [hq] at h1; obtain ⟨q1, q2⟩ := q0; cases Option.some.inj h1; exact ⟨k, q2, hq⟩
theorem upd_n (f : Nat → Nat) (k x : Nat) : upd (fun j => nI (f j)) k (nI x) = fun j => nI (va_up f k x j) := by
  funext j; unfold upd va_up; split <;> rfl
theorem upd_b (f : Nat → Bool) (k : Nat) (x : Bool) : upd (fun j => bI (f j)) k (bI x) = fun j => bI (va_up f k x j) := by
  funext j; unfold upd va_up; split <;> rfl
theorem wr_Met {l : Launch} {y : MethodName} {ws ws' : List Cond} {rm : Room} {cc : ByteArray} {maxL : Nat} {ret : Option FieldType} {av : List Value} {D : va_G} {cl : List vw_C} {wo wo' : va_W} {tys : List (ClassId × FieldType)} {r : Option Value}
    (hy : plainName y.cls = true) (hw : ws = Cond.code y cc maxL ret :: ws') (hlen : (lg_sl av).length ≤ maxL)
    (body : ∀ (p : Program) (e : Env) (s : State) (m : MethodId) (below : List Frame) (meth : Method) (c : Code) (ls : Array Slot), p.tables.exec = Jvm.exec → c.code = cc → c.maxLocals = maxL → meth.sig.returnType = ret → meth.locks = false → s.vm.findClass y.cls = some m.cls → (∀ w ∈ ws, w.before av.toArray s = true) → va_P D cl wo s.heap → va_K D cl tys s → va_D (inW wo) wo → va_S (inW wo) s.heap s.heap [] → lv_has ls maxL (lv_args 0 av) →
      W p l e rm s m av.toArray below meth c s.heap [] 0 0 (MQ below (wr_Q r D cl wo wo') av.toArray s 0 0 (inW wo)) (F0 m 0 ls [])) :
    Met l y ws rm (va_Pc av (wr_B D cl wo tys)) (wr_Q r D cl wo wo') 0 0 (inW wo) := by
  refine Met.ofW (cc := cc) (maxL := maxL) (ret := ret) hy hw ?_
  intro p e s m args below meth c s₁ B hml hv
  obtain ⟨rfl, hP, hK, hD⟩ := hv
  have hl := lv_entry av (n := maxL) hlen
  rw [lg_entry_eq]
  exact body p e s m below meth c _ B.exec B.bytes hml B.returns B.notSynchronized (findClass_of_methodNamed B.named) (atoms_spec (ws := ws) B.pre) hP hK (hD.weaken (fun k q hk _ => ⟨k, q.2, hk⟩)) va_S.rf hl
section WRC
variable {p : Program} {l : Launch} {e : Env} {R : Room} {s : State} {m : MethodId} {args : Array Value} {below : List Frame} {meth : Method} {c : Code} {H H0 : Heap} {locs : List Loc} {cells slots : Nat} {Q : State → Prop} {A0 : Nat → Prop}
variable {cc bytes : ByteArray} {pc nL maxL n index : Nat} {ls : Array Slot} {rest As st : List Value} {D : va_G} {cl : List vw_C} {tys : List (ClassId × FieldType)} {wo wo' wz : va_W} {Ts ws : List Cond} {own C : String} {y : MethodName} {ret : Option FieldType} {rm : Room} {r : Option Value} {b : Nat}
theorem wr_iret {v : Int32} (hexec : p.tables.exec = Jvm.exec) (hb : c.code = cc) (hr : meth.sig.returnType = some .int) (hP : va_P D cl wz H) (hS : va_S (inW wo) s.heap H locs) (hv : some (Value.int v) = r) (hw : wz = wo') (hdg : decode cc pc = .ok (.ireturn, 1)) (hlocks : meth.locks = false) : W p l e R s m args below meth c H locs 0 0 (MQ below (wr_Q r D cl wo wo') args s 0 0 (inW wo)) (F0 m pc ls [.int v]) := by
  subst hv; subst hw
  exact W.iret hexec hb hr (fun t ht _ => ⟨rfl, by rw [ht]; exact hP, hS.F ht⟩) hS.2.2 hdg hlocks
theorem wr_zret {v : Int32} {ty : FieldType} (hexec : p.tables.exec = Jvm.exec) (hb : c.code = cc) (hr : meth.sig.returnType = some ty) (hn : narrow ty (.int v) = .int v) (hP : va_P D cl wz H) (hS : va_S (inW wo) s.heap H locs) (hv : some (Value.int v) = r) (hw : wz = wo') (hdg : decode cc pc = .ok (.ireturn, 1)) (hlocks : meth.locks = false) : W p l e R s m args below meth c H locs 0 0 (MQ below (wr_Q r D cl wo wo') args s 0 0 (inW wo)) (F0 m pc ls [.int v]) := by
  subst hv; subst hw
  exact W.zret hexec hb hr hn (fun t ht _ => ⟨rfl, by rw [ht]; exact hP, hS.F ht⟩) hS.2.2 hdg hlocks
theorem wr_lret {v : Int64} (hexec : p.tables.exec = Jvm.exec) (hb : c.code = cc) (hr : meth.sig.returnType = some .long) (hP : va_P D cl wz H) (hS : va_S (inW wo) s.heap H locs) (hv : some (Value.long v) = r) (hw : wz = wo') (hdg : decode cc pc = .ok (.lreturn, 1)) (hlocks : meth.locks = false) : W p l e R s m args below meth c H locs 0 0 (MQ below (wr_Q r D cl wo wo') args s 0 0 (inW wo)) (F0 m pc ls [.long v]) := by
  subst hv; subst hw
  exact W.lret hexec hb hr (fun t ht _ => ⟨rfl, by rw [ht]; exact hP, hS.F ht⟩) hS.2.2 hdg hlocks
theorem wr_vret (hexec : p.tables.exec = Jvm.exec) (hb : c.code = cc) (hr : meth.sig.returnType = none) (hP : va_P D cl wz H) (hS : va_S (inW wo) s.heap H locs) (hv : none = r) (hw : wz = wo') (hdg : decode cc pc = .ok (.return_, 1)) (hlocks : meth.locks = false) : W p l e R s m args below meth c H locs 0 0 (MQ below (wr_Q r D cl wo wo') args s 0 0 (inW wo)) (F0 m pc ls []) := by
  subst hv; subst hw
  exact W.vret hexec hb hr (fun t ht _ => ⟨rfl, by rw [ht]; exact hP, hS.F ht⟩) hS.2.2 hdg hlocks
theorem wr_pre (hP : va_P D cl wo H) (hK : va_K D cl tys s) (hD : va_D A0 wo) (av : List Value) : PreS s H (va_Pc av (wr_B D cl wo tys)) av :=
  ⟨fun a U g mk q => by obtain ⟨q0, qP, qK, qD⟩ := q; exact ⟨q0, qP, va_K.moved (u := U) (U := U.calling g mk a) (Vm.Alike.refl U.vm) qK, qD⟩, fun U hU hW => ⟨rfl, by rw [hU]; exact hP, va_K.moved hW.alike hK, hD.weaken (fun _ _ _ _ => trivial)⟩⟩
/-- what a call of a writer leaves, from its run -/
theorem wr_call {g : JFrame} {a : Array Value} (hr : va_Run p l e R s m args below meth c H locs cells slots 0 0 g rest (wr_Q r D cl wo wo' a) (inW wo)) (hD : va_D A0 wo) (hS : va_S A0 H0 H locs)
    (kk : ∀ (H1 : Heap) (locs1 : List Loc), va_P D cl wo' H1 → (∀ q : Nat, q < H.size → ¬ inW wo q → H1[q]? = H[q]?) → H.size ≤ H1.size → va_S A0 H0 H1 locs1 → W p l e R s m args below meth c H1 locs1 cells slots Q { g with pc := g.pc + 3, stack := r.toList ++ rest }) : W p l e R s m args below meth c H locs cells slots Q g := by
  intro T hT X
  obtain ⟨v, st₀, t, T', L, h0, X', hL, e1, e2, ⟨hv, hP, hz, hk⟩, st⟩ := hr T hT X
  cases hv
  rw [h0] at hz hk
  have hA : ∀ q, inW wo q → A0 q := fun q ⟨k, x, hx⟩ => hD.2 k (q, x) hx
  obtain ⟨t2, a1, b1⟩ := kk T'.heap (locs ++ L) (by rw [e1]; exact hP) (fun q h1 h2 => by rw [e1]; exact hk q h1 h2) (by rw [e1]; exact hz)
    ⟨Nat.le_trans hS.1 (by rw [e1]; exact hz), fun q h1 h2 => by rw [e1, hk q (Nat.lt_of_lt_of_le h1 hS.1) (fun z => h2 (hA q z))]; exact hS.2.1 q h1 h2, fun q hq => by
      rcases List.mem_append.mp hq with h | h
      · exact hS.2.2 q h
      · exact hA _ (hL q h)⟩ T' rfl X'
  exact ⟨t2, st t2 a1, b1⟩
/-- a writer called where its world is the caller's own -/
theorem wr_V (hx : p.tables.exec = Jvm.exec) (hb : c.code = cc) (hml : c.maxLocals = nL) (hown : s.vm.findClass own = some m.cls) (hts : ∀ w ∈ Ts, w.before args s = true)
    (hM : Met l y ws rm (va_Pc (.ref b :: As) (wr_B D cl wo tys)) (wr_Q r D cl wo wo') 0 0 (inW wo)) (cw : CallW R s args own C index y bytes maxL ret ws rm 0 0 n) (hK : va_K D cl tys s) (hP : va_P D cl wo H) (hD : va_D A0 wo) (hS : va_S A0 H0 H locs) {q0 ci : Nat} {q : u_T × Nat} {fs : List Value} (hc : cl[ci]? = some (C, q)) (he : wo[q0]? = some (b, .inr (ci, fs))) (hsm : wo'.map Prod.fst = wo.map Prod.fst)
    (hn : As.length = n) (hsize : ls.size = nL) (hstack : st = As.reverse ++ .ref b :: rest) (hW : (rest.map fun v => v.category).sum ≤ 8) (hdg : decode cc pc = .ok (.invokevirtual index, 3)) (hf : cells ≤ R.cells ∧ slots ≤ R.slots)
    (kk : ∀ (H1 : Heap) (locs1 : List Loc), va_P D cl wo' H1 → va_D A0 wo' → va_S A0 H0 H1 locs1 → W p l e R s m args below meth c H1 locs1 cells slots Q (F0 m (pc + 3) ls (r.toList ++ rest))) : W p l e R s m args below meth c H locs cells slots Q (F0 m pc ls st) := by
  obtain ⟨p1, p2⟩ := wr_pre hP hK hD (.ref b :: As)
  exact wr_call (va_runV (rest := rest) ⟨hx, hb, hml, hown, hts⟩ hM cw ⟨p1, va_recv hK hP hc he, p2⟩ rfl hn hsize hstack (lv_room hW) hdg hf) hD hS (fun H1 locs1 h1 _ _ h2 => kk H1 locs1 h1 (hD.same hsm) h2)
/-- an int array written at a number -/
theorem ia_st {a : Nat} (hexec : p.tables.exec = Jvm.exec) (hb : c.code = cc) (hK : va_K D cl tys s) (hP : va_P D cl wo H) (hD : va_D A0 wo) (hS : va_S A0 H0 H locs) (q0 t0 : Nat) {cA : ClassId} {N k : Nat} {f f' : Nat → Int32} {x : Int32} (ha : wo[q0]? = some (a, .inl (cA, N, .inl f))) (ht : tys[t0]? = some (cA, .int)) (hk : k < N) (hN : N < 2 ^ 31) (hf : upd f k x = f') (hdg : decode cc pc = .ok (.iastore, 1))
    (kk : ∀ (H1 : Heap) (locs1 : List Loc), va_P D cl (wo.set q0 (a, .inl (cA, N, .inl f'))) H1 → va_D A0 (wo.set q0 (a, .inl (cA, N, .inl f'))) → va_S A0 H0 H1 locs1 → W p l e R s m args below meth c H1 locs1 cells slots Q (F0 m (pc + 1) ls rest)) : W p l e R s m args below meth c H locs cells slots Q (F0 m pc ls (.int x :: .int (nI k) :: .ref a :: rest)) := by
  subst hf
  refine va_iast hexec hb hK hP hD hS q0 t0 ha ht (vp_in_nI hk hN) hdg (fun H1 locs1 h1 h2 h3 => ?_)
  rw [nI_clamp (by omega)] at h1 h2
  exact kk H1 locs1 h1 h2 h3
theorem za_st {a : Nat} (hexec : p.tables.exec = Jvm.exec) (hb : c.code = cc) (hK : va_K D cl tys s) (hP : va_P D cl wo H) (hD : va_D A0 wo) (hS : va_S A0 H0 H locs) (q0 t0 : Nat) {cA : ClassId} {N k : Nat} {f f' : Nat → Int32} {x : Int32} (ha : wo[q0]? = some (a, .inl (cA, N, .inl f))) (ht : tys[t0]? = some (cA, .boolean)) (hk : k < N) (hN : N < 2 ^ 31) (hf : upd f k (vp_nar .boolean x) = f') (hdg : decode cc pc = .ok (.bastore, 1))
    (kk : ∀ (H1 : Heap) (locs1 : List Loc), va_P D cl (wo.set q0 (a, .inl (cA, N, .inl f'))) H1 → va_D A0 (wo.set q0 (a, .inl (cA, N, .inl f'))) → va_S A0 H0 H1 locs1 → W p l e R s m args below meth c H1 locs1 cells slots Q (F0 m (pc + 1) ls rest)) : W p l e R s m args below meth c H locs cells slots Q (F0 m pc ls (.int x :: .int (nI k) :: .ref a :: rest)) := by
  subst hf
  refine va_zast hexec hb hK hP hD hS q0 t0 ha ht (vp_in_nI hk hN) hdg (fun H1 locs1 h1 h2 h3 => ?_)
  rw [nI_clamp (by omega)] at h1 h2
  exact kk H1 locs1 h1 h2 h3
theorem la_st {a : Nat} (hexec : p.tables.exec = Jvm.exec) (hb : c.code = cc) (hK : va_K D cl tys s) (hP : va_P D cl wo H) (hD : va_D A0 wo) (hS : va_S A0 H0 H locs) (q0 t0 : Nat) {cA : ClassId} {N k : Nat} {f : Nat → Int64} {x : Int64} (ha : wo[q0]? = some (a, .inl (cA, N, .inr (.inl f)))) (ht : tys[t0]? = some (cA, .long)) (hk : k < N) (hN : N < 2 ^ 31) (hdg : decode cc pc = .ok (.lastore, 1))
    (kk : ∀ (H1 : Heap) (locs1 : List Loc), va_P D cl (wo.set q0 (a, .inl (cA, N, .inr (.inl (va_up f k x))))) H1 → va_D A0 (wo.set q0 (a, .inl (cA, N, .inr (.inl (va_up f k x))))) → va_S A0 H0 H1 locs1 → W p l e R s m args below meth c H1 locs1 cells slots Q (F0 m (pc + 1) ls rest)) : W p l e R s m args below meth c H locs cells slots Q (F0 m pc ls (.long x :: .int (nI k) :: .ref a :: rest)) := by
  refine va_last hexec hb hK hP hD hS q0 t0 ha ht (vp_in_nI hk hN) hdg (fun H1 locs1 h1 h2 h3 => ?_)
  rw [nI_clamp (by omega)] at h1 h2
  exact kk H1 locs1 h1 h2 h3
theorem la_ld {a : Nat} (hexec : p.tables.exec = Jvm.exec) (hb : c.code = cc) (hK : va_K D cl tys s) (hP : va_P D cl wo H) (q0 t0 : Nat) {cA : ClassId} {N k : Nat} {f : Nat → Int64} (ha : wo[q0]? = some (a, .inl (cA, N, .inr (.inl f)))) (ht : tys[t0]? = some (cA, .long)) (hk : k < N) (hN : N < 2 ^ 31) (hdg : decode cc pc = .ok (.laload, 1))
    (kk : W p l e R s m args below meth c H locs cells slots Q (F0 m (pc + 1) ls (.long (f k) :: rest))) : W p l e R s m args below meth c H locs cells slots Q (F0 m pc ls (.int (nI k) :: .ref a :: rest)) := by
  refine va_lald hexec hb hK hP q0 t0 ha ht (vp_in_nI hk hN) hdg ?_
  rw [nI_clamp (by omega)]
  exact kk
/-- a loop that writes its world: fuel, its own state, the locals and the cells by the state -/
theorem lpW {σ : Type} {LV : σ → List (Nat × Value)} {WS : σ → va_W} {I : Nat → σ → Prop}
    (h : ∀ (k : Nat) (x : σ) (ls : Array Slot) (H : Heap) (locs : List Loc), I k x → lv_has ls nL (LV x) → va_P D cl (WS x) H → va_D A0 (WS x) → va_S A0 H0 H locs → (∀ (k' : Nat) (x' : σ) (ls' : Array Slot) (H' : Heap) (locs' : List Loc), k' < k → I k' x' → lv_has ls' nL (LV x') → va_P D cl (WS x') H' → va_D A0 (WS x') → va_S A0 H0 H' locs' → W p l e R s m args below meth c H' locs' cells slots Q (F0 m pc ls' st)) → W p l e R s m args below meth c H locs cells slots Q (F0 m pc ls st))
    (k : Nat) (x : σ) (ls : Array Slot) (H : Heap) (locs : List Loc) (hi : I k x) (hl : lv_has ls nL (LV x)) (hP : va_P D cl (WS x) H) (hD : va_D A0 (WS x)) (hS : va_S A0 H0 H locs) : W p l e R s m args below meth c H locs cells slots Q (F0 m pc ls st) := by
  induction k using Nat.strongRecOn generalizing x ls H locs with
  | ind k ih => exact h k x ls H locs hi hl hP hD hS (fun k' x' ls' H' locs' hk hi' hl' hP' hD' hS' => ih k' hk x' ls' H' locs' hi' hl' hP' hD' hS')
end WRC
