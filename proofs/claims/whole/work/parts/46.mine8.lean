/-! THE LAW'S BODY: what stands fixed through it; the script's cells; calls of wrappers, of the class and of the reference over one world -/
abbrev nwA (s : State) : Nat → Prop := fun q => s.heap.size ≤ q
def LX (p : Program) (l : Launch) (s : State) (m : MethodId) (meth : Method) (c : Code) (args : Array Value) (dC : Nat → ClassId) (dI : Nat → Nat → Nat) (cI cL cZ : ClassId) (sc L : Nat) (xs : Nat → Int32) : Prop :=
  p.tables.exec = Jvm.exec ∧ c.code = cL_law ∧ c.maxLocals = 7 ∧ s.vm.findClass RL = some m.cls ∧ (∀ w ∈ wsL_law, w.before args s = true) ∧ va_X sc L xs s s.heap ∧ sc < s.heap.size ∧ va_K (dC, dI) vwCl (tyS cI cL cZ) s ∧ xt_E (nwA s) s s.heap ∧ xw_nc s ∧ L ≤ 2048 ∧ l.stackTraces = false
abbrev TW (cI cL cZ : ClassId) (a b : Nat → Nat) (o : Nat) (v : SV) (w : MV) (f : Nat → Int64) : va_W := wM cI cZ b w ++ wS cI cL a v ++ wO cL o f
theorem lg_self (x : Int64) : lg_cmp x x = 0 := by
  unfold lg_cmp; simp
section LB
variable {p : Program} {l : Launch} {e : Env} {R : Room} {s : State} {m : MethodId} {args : Array Value} {below : List Frame} {meth : Method} {c : Code} {H H0 : Heap} {locs : List Loc} {cells slots mc ms : Nat} {Q : State → Prop} {A0 : Nat → Prop}
variable {cc bytes : ByteArray} {pc nL maxL n index : Nat} {ls : Array Slot} {rest As st : List Value} {D : va_G} {cl : List vw_C} {tys : List (ClassId × FieldType)} {wo wo' X Y : va_W} {Ts ws : List Cond} {own C : String} {y : MethodName} {ret : Option FieldType} {rm : Room} {r : Option Value} {b : Nat}
theorem sc_ld (hexec : p.tables.exec = Jvm.exec) (hb : c.code = cc) {sc L k : Nat} {xs : Nat → Int32} (hX : va_X sc L xs s s.heap) (hbl : sc < s.heap.size) (hS : va_S (nwA s) s.heap H locs) (hk : k < L) (hL : L ≤ 2048) {x : Int32} (hxk : xs k = x) (hdg : decode cc pc = .ok (.iaload, 1))
    (kk : W p l e R s m args below meth c H locs cells slots Q (F0 m (pc + 1) ls (.int x :: rest))) : W p l e R s m args below meth c H locs cells slots Q (F0 m pc ls (.int (nI k) :: .ref sc :: rest)) := by
  refine va_sld hexec hb hX hbl (Nat.not_le.mpr hbl) hS (vp_in_nI hk (by omega)) hdg ?_
  rw [nI_clamp (by omega), hxk]
  exact kk
theorem sc_len (hexec : p.tables.exec = Jvm.exec) (hb : c.code = cc) {sc L : Nat} {xs : Nat → Int32} (hX : va_X sc L xs s s.heap) (hbl : sc < s.heap.size) (hS : va_S (nwA s) s.heap H locs) (hdg : decode cc pc = .ok (.arraylength, 1))
    (kk : W p l e R s m args below meth c H locs cells slots Q (F0 m (pc + 1) ls (.int (nI L) :: rest))) : W p l e R s m args below meth c H locs cells slots Q (F0 m pc ls (.ref sc :: rest)) :=
  va_slen hexec hb hX hbl (Nat.not_le.mpr hbl) hS hdg kk
theorem xw_blind {av : List Value} : FrameBlind (va_Pc av (xw_B D cl wo tys)) := fun a U g mk q => by
  obtain ⟨q0, ⟨qP, qK, qD⟩, qE, qN⟩ := q
  exact ⟨q0, ⟨qP, va_K.moved (u := U) (U := U.calling g mk a) (Vm.Alike.refl U.vm) qK, qD⟩, xt_E.moved (u := U) (U := U.calling g mk a) (State.WarmedH.refl U) qE, qN.moved (u := U) (U := U.calling g mk a) (Vm.Alike.refl U.vm)⟩
/-- a wrapper called by the law -/
theorem wx_L {hh : List (Nat × Nat × Nat × Nat)} (hx : p.tables.exec = Jvm.exec) (hb : c.code = cc) (hml : c.maxLocals = nL) (hown : s.vm.findClass own = some m.cls) (hts : ∀ w ∈ Ts, w.before args s = true) (hE : xt_E (nwA s) s s.heap) (hN : xw_nc s)
    (hM : Met l y ws rm (va_Pc As (xw_B D cl wo tys)) (wr_Q r D cl wo wo') mc ms (inW wo)) (cw : vx_CSW R s args own index y bytes maxL ret hh ws rm mc ms n) (hK : va_K D cl tys s) (hP : va_P D cl (X ++ wo ++ Y) H) (hD : va_D (nwA s) (X ++ wo ++ Y)) (hS : va_S (nwA s) s.heap H locs) (hsm : wo'.map Prod.fst = wo.map Prod.fst)
    (hn : As.length = n) (hsize : ls.size = nL) (hstack : st = As.reverse ++ rest) (hW : (rest.map fun v => v.category).sum ≤ 8) (hdg : decode cc pc = .ok (.invokestatic index, 3)) (hf : cells + mc ≤ R.cells ∧ slots + ms ≤ R.slots)
    (kk : ∀ (H1 : Heap) (locs1 : List Loc), va_P D cl (X ++ wo' ++ Y) H1 → va_D (nwA s) (X ++ wo' ++ Y) → va_S (nwA s) s.heap H1 locs1 → W p l e R s m args below meth c H1 locs1 (cells + mc) (slots + ms) Q (F0 m (pc + 3) ls (r.toList ++ rest))) : W p l e R s m args below meth c H locs cells slots Q (F0 m pc ls st) := by
  have hEH : xt_E (fun _ => False) s H := (hE.kept hS.2.1).narrow (fun _ h => h.elim)
  refine wx_call (vx_runSW (rest := rest) ⟨hx, hb, hml, hown, hts⟩ hM cw ⟨xw_blind, fun U hU hW => ⟨rfl, ⟨by rw [hU]; exact pj_sub hP, va_K.moved hW.alike hK, (pj_D hD).weaken (fun _ _ _ _ => trivial)⟩, by rw [hU]; exact hEH.moved hW, hN.moved hW.alike⟩⟩ rfl hn hsize hstack (lv_room hW) hdg hf) hP hD hS hsm kk
end LB
