/-! THE LAW'S WRAPPERS: a call whose world is a part of the caller's; a call that throws and is caught -/
theorem inW_app {X wo Y : va_W} {q : Nat} (h : inW wo q) : inW (X ++ wo ++ Y) q := by
  obtain ⟨k, x, hk⟩ := h
  have hl := (List.getElem?_eq_some_iff.mp hk).1
  exact ⟨X.length + k, x, by rw [List.append_assoc, List.getElem?_append_right (by omega), Nat.add_sub_cancel_left, List.getElem?_append_left hl]; exact hk⟩
theorem pj_mem {D : va_G} {cl : List vw_C} {w w' : va_W} {H : Heap} (hP : va_P D cl w H) (h : ∀ q ∈ w', q ∈ w) : va_P D cl w' H := by
  intro k q hk
  obtain ⟨i, hi⟩ := List.getElem?_of_mem (h q (List.mem_of_getElem? hk))
  exact hP i q hi
theorem pj_sub {D : va_G} {cl : List vw_C} {X wo Y : va_W} {H : Heap} (hP : va_P D cl (X ++ wo ++ Y) H) : va_P D cl wo H :=
  pj_mem hP (fun q hq => List.mem_append_left _ (List.mem_append_right _ hq))
theorem pj_out {A : Nat → Prop} {X wo Y : va_W} (hD : va_D A (X ++ wo ++ Y)) {q : Nat × va_E} (hq : q ∈ X ∨ q ∈ Y) : ¬ inW wo q.1 := by
  rintro ⟨k, x, hk⟩
  have hl := (List.getElem?_eq_some_iff.mp hk).1
  have h1 : (X ++ wo ++ Y)[X.length + k]? = some (q.1, x) := by
    rw [List.append_assoc, List.getElem?_append_right (by omega), Nat.add_sub_cancel_left, List.getElem?_append_left hl]; exact hk
  rcases hq with hq | hq
  · obtain ⟨i, hi⟩ := List.getElem?_of_mem hq
    have hil := (List.getElem?_eq_some_iff.mp hi).1
    have h2 : (X ++ wo ++ Y)[i]? = some q := by rw [List.append_assoc, List.getElem?_append_left hil]; exact hi
    have := hD.1 _ _ _ _ h1 h2 rfl
    omega
  · obtain ⟨i, hi⟩ := List.getElem?_of_mem hq
    have h2 : (X ++ wo ++ Y)[X.length + wo.length + i]? = some q := by
      rw [List.getElem?_append_right (by simp), List.length_append, Nat.add_sub_cancel_left]; exact hi
    have := hD.1 _ _ _ _ h1 h2 rfl
    omega
theorem pj_new {A : Nat → Prop} {D : va_G} {cl : List vw_C} {X wo wo' Y : va_W} {H H1 : Heap} (hP : va_P D cl (X ++ wo ++ Y) H) (hD : va_D A (X ++ wo ++ Y)) (h : va_P D cl wo' H1) (hk : ∀ q : Nat, q < H.size → ¬ inW wo q → H1[q]? = H[q]?) : va_P D cl (X ++ wo' ++ Y) H1 := by
  have key : ∀ q, q ∈ X ∨ q ∈ Y → va_at D cl q H1 := by
    intro q hq
    have hm : q ∈ X ++ wo ++ Y := by
      rcases hq with h | h
      · exact List.mem_append_left _ (List.mem_append_left _ h)
      · exact List.mem_append_right _ h
    obtain ⟨i, hi⟩ := List.getElem?_of_mem hm
    have h0 := hP i q hi
    exact va_at.kept h0 (hk _ (va_at.lt h0) (pj_out hD hq))
  intro k q hq
  rcases List.mem_append.mp (List.mem_of_getElem? hq) with h9 | h9
  · rcases List.mem_append.mp h9 with h8 | h8
    · exact key q (Or.inl h8)
    · obtain ⟨i, hi⟩ := List.getElem?_of_mem h8
      exact h i q hi
  · exact key q (Or.inr h9)
theorem pj_D {A : Nat → Prop} {X wo Y : va_W} (hD : va_D A (X ++ wo ++ Y)) : va_D A wo := by
  have key : ∀ (k : Nat) (q : Nat × va_E), wo[k]? = some q → (X ++ wo ++ Y)[X.length + k]? = some q := by
    intro k q hk
    have hl := (List.getElem?_eq_some_iff.mp hk).1
    rw [List.append_assoc, List.getElem?_append_right (by omega), Nat.add_sub_cancel_left, List.getElem?_append_left hl]; exact hk
  refine ⟨fun i j x y hi hj hxy => ?_, fun k q hk => hD.2 _ _ (key k q hk)⟩
  have := hD.1 _ _ _ _ (key i x hi) (key j y hj) hxy
  omega
def xw_nc (U : State) : Prop := va_Nc "java/lang/IllegalArgumentException" "java/lang/IndexOutOfBoundsException" U ∧ va_Nc "java/lang/IllegalStateException" "java/lang/IndexOutOfBoundsException" U ∧ va_Nc "java/lang/IllegalStateException" "java/lang/IllegalArgumentException" U
theorem xw_nc.moved {u U : State} (hvm : u.vm.Alike U.vm) (h : xw_nc u) : xw_nc U := ⟨h.1.moved hvm, h.2.1.moved hvm, h.2.2.moved hvm⟩
def xw_B (D : va_G) (cl : List vw_C) (wo : va_W) (tys : List (ClassId × FieldType)) (U : State) : Prop := wr_B D cl wo tys U ∧ xt_E (fun _ => False) U U.heap ∧ xw_nc U
abbrev wO (cL : ClassId) (o : Nat) (f : Nat → Int64) : va_W := [(o, .inl (cL, 1, .inr (.inl f)))]
section WX
variable {p : Program} {l : Launch} {e : Env} {R : Room} {s : State} {m : MethodId} {args : Array Value} {below : List Frame} {meth : Method} {c : Code} {H H0 : Heap} {locs : List Loc} {cells slots mc ms : Nat} {Q : State → Prop} {A0 : Nat → Prop}
variable {cc bytes : ByteArray} {pc nL maxL n index : Nat} {ls : Array Slot} {rest As st : List Value} {D : va_G} {cl : List vw_C} {tys : List (ClassId × FieldType)} {wo wo' X Y wz : va_W} {Ts ws : List Cond} {own C : String} {y : MethodName} {ret : Option FieldType} {rm : Room} {r : Option Value} {b : Nat}
/-- behind a call whose world is a part of the caller's -/
theorem wx_call {g : JFrame} {a : Array Value} (hr : va_Run p l e R s m args below meth c H locs cells slots mc ms g rest (wr_Q r D cl wo wo' a) (inW wo)) (hP : va_P D cl (X ++ wo ++ Y) H) (hD : va_D A0 (X ++ wo ++ Y)) (hS : va_S A0 H0 H locs) (hsm : wo'.map Prod.fst = wo.map Prod.fst)
    (kk : ∀ (H1 : Heap) (locs1 : List Loc), va_P D cl (X ++ wo' ++ Y) H1 → va_D A0 (X ++ wo' ++ Y) → va_S A0 H0 H1 locs1 → W p l e R s m args below meth c H1 locs1 (cells + mc) (slots + ms) Q { g with pc := g.pc + 3, stack := r.toList ++ rest }) : W p l e R s m args below meth c H locs cells slots Q g := by
  intro T hT X9
  obtain ⟨v, st₀, t, T', L, h0, X', hL, e1, e2, ⟨hv, hP1, hz, hk⟩, st⟩ := hr T hT X9
  cases hv
  rw [h0] at hz hk
  have hA : ∀ q, inW wo q → A0 q := fun q h => by obtain ⟨k, x, hx⟩ := inW_app (X := X) (Y := Y) h; exact hD.2 k (q, x) hx
  obtain ⟨t2, a1, b1⟩ := kk T'.heap (locs ++ L) (pj_new hP hD (by rw [e1]; exact hP1) (fun q h1 h2 => by rw [e1]; exact hk q h1 h2)) (hD.same (by simp only [List.map_append, hsm]))
    ⟨Nat.le_trans hS.1 (by rw [e1]; exact hz), fun q h1 h2 => by rw [e1, hk q (Nat.lt_of_lt_of_le h1 hS.1) (fun z => h2 (hA q z))]; exact hS.2.1 q h1 h2, fun q hq => by
      rcases List.mem_append.mp hq with h | h
      · exact hS.2.2 q h
      · exact hA _ (hL q h)⟩ T' rfl X'
  exact ⟨t2, st t2 a1, b1⟩
theorem wx_V (hx : p.tables.exec = Jvm.exec) (hb : c.code = cc) (hml : c.maxLocals = nL) (hown : s.vm.findClass own = some m.cls) (hts : ∀ w ∈ Ts, w.before args s = true)
    (hM : Met l y ws rm (va_Pc (.ref b :: As) (wr_B D cl wo tys)) (wr_Q r D cl wo wo') 0 0 (inW wo)) (cw : CallW R s args own C index y bytes maxL ret ws rm 0 0 n) (hK : va_K D cl tys s) (hP : va_P D cl (X ++ wo ++ Y) H) (hD : va_D A0 (X ++ wo ++ Y)) (hS : va_S A0 H0 H locs) {q0 ci : Nat} {q : u_T × Nat} {fs : List Value} (hc : cl[ci]? = some (C, q)) (he : wo[q0]? = some (b, .inr (ci, fs))) (hsm : wo'.map Prod.fst = wo.map Prod.fst)
    (hn : As.length = n) (hsize : ls.size = nL) (hstack : st = As.reverse ++ .ref b :: rest) (hW : (rest.map fun v => v.category).sum ≤ 8) (hdg : decode cc pc = .ok (.invokevirtual index, 3)) (hf : cells ≤ R.cells ∧ slots ≤ R.slots)
    (kk : ∀ (H1 : Heap) (locs1 : List Loc), va_P D cl (X ++ wo' ++ Y) H1 → va_D A0 (X ++ wo' ++ Y) → va_S A0 H0 H1 locs1 → W p l e R s m args below meth c H1 locs1 cells slots Q (F0 m (pc + 3) ls (r.toList ++ rest))) : W p l e R s m args below meth c H locs cells slots Q (F0 m pc ls st) := by
  obtain ⟨p1, p2⟩ := wr_pre (pj_sub hP) hK (pj_D hD) (.ref b :: As)
  exact wx_call (va_runV (rest := rest) ⟨hx, hb, hml, hown, hts⟩ hM cw ⟨p1, va_recv hK (pj_sub hP) hc he, p2⟩ rfl hn hsize hstack (lv_room hW) hdg hf) hP hD hS hsm kk
theorem xt_blind {av : List Value} : FrameBlind (va_Pc av (xt_B D cl wo tys)) := fun a U g mk q => by
  obtain ⟨q0, ⟨qP, qK⟩, qE⟩ := q
  exact ⟨q0, ⟨qP, va_K.moved (u := U) (U := U.calling g mk a) (Vm.Alike.refl U.vm) qK⟩, xt_E.moved (u := U) (U := U.calling g mk a) (State.WarmedH.refl U) qE⟩
/-- a call that throws: on at the throw, one new cell, nothing else -/
theorem xw_inv {E : String} (hx : p.tables.exec = Jvm.exec) (hb : c.code = cc) (hml : c.maxLocals = nL) (hown : s.vm.findClass own = some m.cls) (hts : ∀ w ∈ Ts, w.before args s = true)
    (hM : vx_Met l y ws rm (va_Pc (.ref b :: As) (xt_B D cl wo tys)) xt_N (xt_X E) 1 6 (fun _ => False)) (cw : CallW R s args own C index y bytes maxL ret ws rm 1 6 n) (hK : va_K D cl tys s) (hP : va_P D cl (X ++ wo ++ Y) s.heap) {q0 ci : Nat} {q : u_T × Nat} {fs : List Value} (hc : cl[ci]? = some (C, q)) (he : wo[q0]? = some (b, .inr (ci, fs)))
    (hn : As.length = n) (hsize : ls.size = nL) (hstack : st = As.reverse ++ .ref b :: rest) (hW : (rest.map fun v => v.category).sum ≤ 8) (hdg : decode cc pc = .ok (.invokevirtual index, 3)) (hf : 1 ≤ R.cells ∧ 6 ≤ R.slots) (hE : xt_E (fun _ => False) s s.heap)
    (kk : ∀ (q9 : Addr) (ce : Cell) (H1 : Heap), s.heap.size ≤ H1.size → (∀ q : Nat, q < s.heap.size → H1[q]? = s.heap[q]?) → H1[q9]? = some ce → ce.vm = .none → s.vm.findClass E = some ce.cls → vx_W p l e R s m args below meth c H1 [] 1 6 Q (F0 m pc ls rest) q9) : W p l e R s m args below meth c s.heap [] 0 0 Q (F0 m pc ls st) := by
  have hr := vx_runV (p := p) (e := e) (below := below) (meth := meth) (H := s.heap) (locs := []) (cells := 0) (slots := 0) (g := F0 m pc ls st) (rest := rest) ⟨hx, hb, hml, hown, hts⟩ hM cw ⟨xt_blind, va_recv hK (pj_sub hP) hc he, fun U hU hW => ⟨rfl, ⟨by rw [hU]; exact pj_sub hP, va_K.moved hW.alike hK⟩, by rw [hU]; exact hE.moved hW⟩⟩ rfl hn hsize hstack (lv_room hW) hdg ⟨by simpa using hf.1, by simpa using hf.2⟩
  intro T hT X9
  rcases hr T hT X9 with ⟨v, st₀, t, T', L, h0, X', hL, e1, e2, hq, st⟩ | ⟨q9, st₀, t, T', L, E', ce, h0, X', hL, e1, e2, ⟨rfl, hz, hk⟩, hce, hcv, hcl, st⟩
  · exact hq.elim
  · have hL0 : L = [] := by
      cases L with
      | nil => rfl
      | cons z zs => exact (hL z List.mem_cons_self).elim
    subst hL0
    rw [h0] at hz hk
    obtain ⟨t2, a1, b1⟩ := kk q9 ce T'.heap (by rw [e1]; exact hz) (fun q h1 => by rw [e1]; exact hk q h1) (by rw [e1]; exact hce) hcv hcl T' rfl (by simpa using X')
    exact ⟨t2, st.trans a1, b1⟩
theorem xw_iret {v : Int32} (hexec : p.tables.exec = Jvm.exec) (hb : c.code = cc) (hr : meth.sig.returnType = some .int) (hP : va_P D cl wo s.heap) (h1 : s.heap.size ≤ H.size) (h2 : ∀ q : Nat, q < s.heap.size → H[q]? = s.heap[q]?) (hdg : decode cc pc = .ok (.ireturn, 1)) (hlocks : meth.locks = false) : W p l e R s m args below meth c H [] 1 6 (MQ below (wr_Q (some (.int v)) D cl wo wo) args s 1 6 (inW wo)) (F0 m pc ls [.int v]) := by
  have hP1 : va_P D cl wo H := fun k q hk => va_at.kept (hP k q hk) (h2 _ (va_at.lt (hP k q hk)))
  exact W.iret hexec hb hr (fun t ht _ => ⟨rfl, by rw [ht]; exact hP1, by rw [ht]; exact h1, fun q h3 _ => by rw [ht]; exact h2 q h3⟩) (fun _ h => nomatch h) hdg hlocks
end WX
theorem tb_eq {t : List ExceptionTableEntry} {hh : List (Nat × Nat × Nat × Nat)} (h : t.map (fun h => (h.startPc, h.endPc, h.handlerPc, h.catchType)) = hh) : t = hh.map (fun q => ⟨q.1, q.2.1, q.2.2.1, q.2.2.2⟩) := by
  subst h
  rw [List.map_map]
  exact (List.map_id _).symm.trans (List.map_congr_left (fun x _ => by cases x; rfl))
/-- a wrapper's contract begins: no throw leaves it -/
theorem lw_Met {l : Launch} {y : MethodName} {ws ws' : List Cond} {rm : Room} {cc : ByteArray} {maxL mc ms : Nat} {ret : Option FieldType} {hh : List (Nat × Nat × Nat × Nat)} {av : List Value} {D : va_G} {cl : List vw_C} {wo wo' : va_W} {tys : List (ClassId × FieldType)} {r : Option Value}
    (hy : plainName y.cls = true) (hw : ws = Cond.codeWith y cc maxL ret hh :: ws') (hlen : (lg_sl av).length ≤ maxL)
    (body : ∀ (p : Program) (e : Env) (s : State) (m : MethodId) (below : List Frame) (meth : Method) (c : Code) (ls : Array Slot), p.tables.exec = Jvm.exec → c.code = cc → c.maxLocals = maxL → meth.sig.returnType = ret → meth.locks = false → s.vm.findClass y.cls = some m.cls → (∀ w ∈ ws, w.before av.toArray s = true) → va_P D cl wo s.heap → va_K D cl tys s → va_D (inW wo) wo → va_S (inW wo) s.heap s.heap [] → lv_has ls maxL (lv_args 0 av) → c.exceptionTable.toList = hh.map (fun q => ⟨q.1, q.2.1, q.2.2.1, q.2.2.2⟩) → xt_E (fun _ => False) s s.heap → xw_nc s →
      W p l e rm s m av.toArray below meth c s.heap [] 0 0 (MQ below (wr_Q r D cl wo wo') av.toArray s mc ms (inW wo)) (F0 m 0 ls [])) :
    Met l y ws rm (va_Pc av (xw_B D cl wo tys)) (wr_Q r D cl wo wo') mc ms (inW wo) := by
  refine va_MetW (cc := cc) (maxL := maxL) (ret := ret) (hh := hh) hy hw ?_
  intro p e s m args below meth c s₁ B hml hv
  obtain ⟨rfl, ⟨hP, hK, hD⟩, hE, hN⟩ := hv
  have hl := lv_entry av (n := maxL) hlen
  have ht : c.exceptionTable.toList = hh.map (fun q => ⟨q.1, q.2.1, q.2.2.1, q.2.2.2⟩) := by
    obtain ⟨m9, meth9, c9, hn9, h1, h2, -, -, h5, -⟩ := Cond.codeWith_spec (atoms_spec (ws := ws) B.pre _ (by rw [hw]; exact List.mem_cons_self))
    cases Option.some.inj (hn9.symm.trans B.named)
    cases Option.some.inj (h1.symm.trans B.method)
    cases Option.some.inj (h2.symm.trans (Stand.of_body B).code)
    exact tb_eq h5
  rw [lg_entry_eq]
  exact body p e s m below meth c _ B.exec B.bytes hml B.returns B.notSynchronized (findClass_of_methodNamed B.named) (atoms_spec (ws := ws) B.pre) hP hK (hD.weaken (fun k q hk _ => ⟨k, q.2, hk⟩)) va_S.rf hl ht hE hN
