/-! new arrays of a known class; constructors -/
theorem ka_eq {D : va_G} {cl : List vw_C} {tys : List (ClassId × FieldType)} {s : State} {cA cB : ClassId} {ty : FieldType} {t0 : Nat} (hp : ∀ C, ty ≠ .object C) (hK : va_K D cl (tys ++ [(cA, ty)]) s) (ht : tys[t0]? = some (cB, ty)) : cA = cB := by
  have hl : t0 < tys.length := (List.getElem?_eq_some_iff.mp ht).1
  have h1 := (hK.2 t0 (cB, ty) (by rw [List.getElem?_append_left hl]; exact ht)).2
  have h2 := (hK.2 tys.length (cA, ty) (by rw [List.getElem?_append_right (Nat.le_refl _), Nat.sub_self]; rfl)).2
  unfold va_RA at h1 h2
  cases ty <;> first | exact absurd rfl (hp _) | exact Option.some.inj (h2.symm.trans h1)
section NWA
variable {p : Program} {l : Launch} {e : Env} {R : Room} {s : State} {m : MethodId} {args : Array Value} {below : List Frame} {meth : Method} {c : Code} {H : Heap} {locs : List Loc} {cells slots : Nat} {Q : State → Prop}
variable {cc : ByteArray} {pc : Nat} {ls : Array Slot} {rest : List Value} {D : va_G} {cl : List vw_C} {A : Nat → Prop} {tys : List (ClassId × FieldType)} {ws : va_W} {H0 : Heap}
theorem nwa (hexec : p.tables.exec = Jvm.exec) (hb : c.code = cc) {atype : ArrayType} (harr : (Cond.arrayClass (newarray.typeOf atype)).before args s = true) {ty : FieldType} (hty : newarray.typeOf atype = ty) (hK : va_K D cl tys s) (hP : va_P D cl ws H) (hD : va_D A ws) (hS : va_S A H0 H locs) (hA : ∀ q, H0.size ≤ q → A q) {t0 : Nat} {cI : ClassId} (ht : tys[t0]? = some (cI, ty)) (hp : ∀ C, ty ≠ .object C)
    {n : Int32} {N' : Nat} {a0 : vp_A} (ha : ∀ cA : ClassId, vp_cell cA a0 = arrV cA N' (fun _ => defaultValue ty)) (hn : ¬ n < 0) (hN : n.toNatClampNeg = N') (hbytes : N' * componentBytes ty ≤ 536870912) (hcells : cells + 1 ≤ R.cells) (hslots : slots + N' ≤ R.slots) (hdg : decode cc pc = .ok (.newarray atype, 2))
    (kk : ∀ (q : Nat) (H1 : Heap), va_P D cl (ws ++ [(q, .inl (cI, a0))]) H1 → va_D A (ws ++ [(q, .inl (cI, a0))]) → va_S A H0 H1 locs →
      W p l e R s m args below meth c H1 locs (cells + 1) (slots + N') Q (F0 m (pc + 2) ls (.ref q :: rest))) : W p l e R s m args below meth c H locs cells slots Q (F0 m pc ls (.int n :: rest)) :=
  va_newa hexec hb harr hty hK hP hD hS hA ha hn hN hbytes hcells hslots hdg (fun q cA H1 hK1 hP1 hD1 hS1 => by
    obtain rfl := ka_eq hp hK1 ht
    exact kk q H1 hP1 hD1 hS1)
end NWA
/-- the cells of a new Points, a new Triangles -/
abbrev wP0 (cI : ClassId) (h0 q1 q2 : Nat) : va_W := [(h0, .inr (0, [.ref q1, .ref q2, .int (nI 0)])), (q1, .inl (cI, 60, .inl (fun _ => 0))), (q2, .inl (cI, 60, .inl (fun _ => 0)))]
abbrev wT0 (cI : ClassId) (h0 q1 q2 : Nat) : va_W := [(h0, .inr (1, [.ref q1, .ref q2, .int (nI 0), .int (nI 0)])), (q1, .inl (cI, 600, .inl (fun _ => 0))), (q2, .inl (cI, 60, .inl (fun _ => 0)))]
abbrev v00 : SV := ((fun _ => 0, fun _ => 0, fun _ => 0), 0, fun _ => 0, 0, 0, fun _ => 0, fun _ => 0, iI (-1), iI (-1))
abbrev w00 : MV := ((fun _ => 0, fun _ => 0, fun _ => 0), 0, 0, 0, 0, fun _ => false, iI (-1), iI (-1), fun _ => 0)
theorem ha_i (N : Nat) (cA : ClassId) : vp_cell cA (N, .inl (fun _ => 0)) = arrV cA N (fun _ => defaultValue .int) := by
  rw [vp_cell_i]; exact congrArg (arrV cA N) (funext fun _ => (show Value.int 0 = defaultValue .int from rfl))
theorem ha_z (N : Nat) (cA : ClassId) : vp_cell cA (N, .inl (fun _ => 0)) = arrV cA N (fun _ => defaultValue .boolean) := by
  rw [vp_cell_i]; exact congrArg (arrV cA N) (funext fun _ => (show Value.int 0 = defaultValue .boolean from rfl))
theorem ha_l (N : Nat) (cA : ClassId) : vp_cell cA (N, .inr (.inl (fun _ => 0))) = arrV cA N (fun _ => defaultValue .long) := by
  rw [vp_cell_l]; exact congrArg (arrV cA N) (funext fun _ => (show Value.long 0 = defaultValue .long from rfl))
