set_option maxHeartbeats 4000000 in
set_option maxRecDepth 100000 in
theorem c_X0_init (l : Launch) (dC : Nat → ClassId) (dI : Nat → Nat → Nat) (cI cL cZ : ClassId) (h0 sz : Nat) : Met l yX0_init wsX0_init ({ frames := 1, cells := 2, slots := 120, locals := 12 }) (va_Pc [.ref h0] (fun U => U.heap.size = sz ∧ va_P (dC, dI) vwCl [(h0, .inr (0, [.null, .null, .int 0]))] U.heap ∧ va_K (dC, dI) vwCl (tyS cI cL cZ) U ∧ va_D (fun _ => True) [(h0, .inr (0, [.null, .null, .int 0]))])) (va_Qv (fun _ : Unit => True) (fun (_ : Unit) t => ∃ q1 q2 : Nat, va_P (dC, dI) vwCl (wP0 cI h0 q1 q2) t.heap ∧ va_K (dC, dI) vwCl (tyS cI cL cZ) t ∧ va_D (va_A [(h0, .inr (0, [.null, .null, .int 0]))] sz) (wP0 cI h0 q1 q2)) (va_A [(h0, .inr (0, [.null, .null, .int 0]))] sz)) 2 120 (va_A [(h0, .inr (0, [.null, .null, .int 0]))] sz) := by
  refine Met.ofW (cc := cX0_init) (maxL := 1) (ret := none) (by decide) rfl ?_
  intro p e s m args below meth c s₁ B hml hv
  obtain ⟨rfl, hsz, hP, hK, hD0⟩ := hv
  have hx := B.exec
  have hb := B.bytes
  have hr := B.returns
  have hts := atoms_spec (ws := wsX0_init) B.pre
  have hown : s.vm.findClass RX0 = some m.cls := findClass_of_methodNamed B.named
  have hlocks := B.notSynchronized
  have hin : meth.name = "<init>" := (name_of_methodNamed B.named B.method).1
  subst hsz
  have hD := hD0.self (sz := s.heap.size)
  generalize hAe : va_A [(h0, .inr (0, [.null, .null, .int 0]))] s.heap.size = A at hD ⊢
  have hA : ∀ q : Nat, s.heap.size ≤ q → A q := fun q h => by rw [← hAe]; exact Or.inr h
  have hS : va_S A s.heap s.heap [] := va_S.rf
  have hP : va_P (dC, dI) vwCl [(h0, .inr (0, [.null, .null, .int 0]))] s.heap := hP
  have hl := lv_entry ([.ref h0]) (n := 1) (Nat.le_of_ble_eq_true rfl)
  rw [lg_entry_eq]
  generalize (lg_sl ([.ref h0]) ++ List.replicate (1 - (lg_sl ([.ref h0])).length) Slot.unset).toArray = ls at hl ⊢
  have hl : lv_has ls 1 [(0, .ref h0)] := hl
  refine lv_aload_n hx hb dX0_init_0 rfl (lv_at hl 0 rfl) ?_
  refine W.objInit hx hb hown (hts (.methodLink RX0 3 objectInit) (by decide +kernel)) (hts (.instanceMethod objectInit) (by decide +kernel)) (hts _ (List.mem_cons_of_mem _ (List.mem_append_left _ (List.mem_of_getElem? (i := 2) rfl)))) rfl (by rw [hml]; exact hl.1) rfl dX0_init_1 (Nat.le_of_ble_eq_true rfl) (Nat.le_of_ble_eq_true rfl) ?_
  refine W.eq (g2 := F0 m 4 ls []) rfl ?_
  refine lv_aload_n hx hb dX0_init_4 rfl (lv_at hl 0 rfl) ?_
  refine lv_bipush (v := nI (60)) hx hb dX0_init_5 (by decide) ?_
  refine nwa (atype := .int) (n := nI (60)) (N' := 60) (t0 := 0) (cI := cI) (a0 := (60, .inl (fun _ => 0))) hx hb (hts (.arrayClass .int) (by decide +kernel)) (ty := .int) rfl hK hP hD hS hA rfl (fun C h => by cases h) (ha_i 60) (by decide) (by decide) (by decide) (by decide) (by decide) dX0_init_7 (fun q1 H hP hD hS => ?_)
  have hP : va_P (dC, dI) vwCl [(h0, .inr (0, [.null, .null, .int 0])), (q1, .inl (cI, 60, .inl (fun _ => 0)))] H := hP
  have hD : va_D A [(h0, .inr (0, [.null, .null, .int 0])), (q1, .inl (cI, 60, .inl (fun _ => 0)))] := hD
  refine W.widen (k := 1) (n := 60) (by decide) (by decide) ?_
  refine va_putF (D := (dC, dI)) (ci := 0) (v := .ref q1) (ty := .array .int) (C := RX0) (T := TX0) (N := 3) hx hb hts (by decide +kernel) tyX0 tyX0_ok nmX0 hown hK hP hD hS 0 rfl rfl 0 (by decide) (hts (.fieldLink RX0 9 "TriangleSheet$Points" "xs" "[I") (by decide +kernel)) (fun _ h9 => h9) rfl hin rfl (by decide +kernel) rfl rfl (Nat.le_of_ble_eq_true rfl) dX0_init_9 (fun H locs hP hD hS => ?_)
  have hP : va_P (dC, dI) vwCl [(h0, .inr (0, [.ref q1, .null, .int 0])), (q1, .inl (cI, 60, .inl (fun _ => 0)))] H := hP
  have hD : va_D A [(h0, .inr (0, [.ref q1, .null, .int 0])), (q1, .inl (cI, 60, .inl (fun _ => 0)))] := hD
  refine lv_aload_n hx hb dX0_init_12 rfl (lv_at hl 0 rfl) ?_
  refine lv_bipush (v := nI (60)) hx hb dX0_init_13 (by decide) ?_
  refine nwa (atype := .int) (n := nI (60)) (N' := 60) (t0 := 0) (cI := cI) (a0 := (60, .inl (fun _ => 0))) hx hb (hts (.arrayClass .int) (by decide +kernel)) (ty := .int) rfl hK hP hD hS hA rfl (fun C h => by cases h) (ha_i 60) (by decide) (by decide) (by decide) (by decide) (by decide) dX0_init_15 (fun q2 H hP hD hS => ?_)
  have hP : va_P (dC, dI) vwCl [(h0, .inr (0, [.ref q1, .null, .int 0])), (q1, .inl (cI, 60, .inl (fun _ => 0))), (q2, .inl (cI, 60, .inl (fun _ => 0)))] H := hP
  have hD : va_D A [(h0, .inr (0, [.ref q1, .null, .int 0])), (q1, .inl (cI, 60, .inl (fun _ => 0))), (q2, .inl (cI, 60, .inl (fun _ => 0)))] := hD
  refine W.widen (k := 2) (n := 120) (by decide) (by decide) ?_
  refine va_putF (D := (dC, dI)) (ci := 0) (v := .ref q2) (ty := .array .int) (C := RX0) (T := TX0) (N := 3) hx hb hts (by decide +kernel) tyX0 tyX0_ok nmX0 hown hK hP hD hS 0 rfl rfl 1 (by decide) (hts (.fieldLink RX0 15 "TriangleSheet$Points" "ys" "[I") (by decide +kernel)) (fun _ h9 => h9) rfl hin rfl (by decide +kernel) rfl rfl (Nat.le_of_ble_eq_true rfl) dX0_init_17 (fun H locs hP hD hS => ?_)
  have hP : va_P (dC, dI) vwCl [(h0, .inr (0, [.ref q1, .ref q2, .int 0])), (q1, .inl (cI, 60, .inl (fun _ => 0))), (q2, .inl (cI, 60, .inl (fun _ => 0)))] H := hP
  have hD : va_D A [(h0, .inr (0, [.ref q1, .ref q2, .int 0])), (q1, .inl (cI, 60, .inl (fun _ => 0))), (q2, .inl (cI, 60, .inl (fun _ => 0)))] := hD
  refine lv_aload_n hx hb dX0_init_20 rfl (lv_at hl 0 rfl) ?_
  refine lv_iconst (v := nI (0)) hx hb dX0_init_21 (by decide) ?_
  refine va_put (D := (dC, dI)) (ci := 0) (v := .int (nI (0))) (ty := .int) (C := RX0) (T := TX0) (N := 3) hx hb hts (by decide +kernel) tyX0 tyX0_ok nmX0 hown hK hP hD hS 0 rfl rfl 2 (by decide) (hts (.fieldLink RX0 18 "TriangleSheet$Points" "came" "I") (by decide +kernel)) (fun _ h9 => h9) rfl (by decide +kernel) rfl rfl (Nat.le_of_ble_eq_true rfl) dX0_init_22 (fun H locs hP hD hS => ?_)
  have hP : va_P (dC, dI) vwCl [(h0, .inr (0, [.ref q1, .ref q2, .int (nI (0))])), (q1, .inl (cI, 60, .inl (fun _ => 0))), (q2, .inl (cI, 60, .inl (fun _ => 0)))] H := hP
  have hD : va_D A [(h0, .inr (0, [.ref q1, .ref q2, .int (nI (0))])), (q1, .inl (cI, 60, .inl (fun _ => 0))), (q2, .inl (cI, 60, .inl (fun _ => 0)))] := hD
  have hP9 := hP.sub (ws' := wP0 cI h0 q1 q2) [0, 1, 2] rfl
  have hD9 := hD.sub (ws' := wP0 cI h0 q1 q2) [0, 1, 2] (by decide) rfl
  exact W.vret hx hb hr (fun t ht hW => ⟨⟨(), rfl, trivial, q1, q2, by rw [ht]; exact hP9, va_K.moved hW.alike hK, hD9⟩, hS.F ht⟩) hS.2.2 dX0_init_25
set_option maxHeartbeats 4000000 in
set_option maxRecDepth 100000 in
theorem c_X1_init (l : Launch) (dC : Nat → ClassId) (dI : Nat → Nat → Nat) (cI cL cZ : ClassId) (h0 sz : Nat) : Met l yX1_init wsX1_init ({ frames := 1, cells := 2, slots := 660, locals := 12 }) (va_Pc [.ref h0] (fun U => U.heap.size = sz ∧ va_P (dC, dI) vwCl [(h0, .inr (1, [.null, .null, .int 0, .int 0]))] U.heap ∧ va_K (dC, dI) vwCl (tyS cI cL cZ) U ∧ va_D (fun _ => True) [(h0, .inr (1, [.null, .null, .int 0, .int 0]))])) (va_Qv (fun _ : Unit => True) (fun (_ : Unit) t => ∃ q1 q2 : Nat, va_P (dC, dI) vwCl (wT0 cI h0 q1 q2) t.heap ∧ va_K (dC, dI) vwCl (tyS cI cL cZ) t ∧ va_D (va_A [(h0, .inr (1, [.null, .null, .int 0, .int 0]))] sz) (wT0 cI h0 q1 q2)) (va_A [(h0, .inr (1, [.null, .null, .int 0, .int 0]))] sz)) 2 660 (va_A [(h0, .inr (1, [.null, .null, .int 0, .int 0]))] sz) := by
  refine Met.ofW (cc := cX1_init) (maxL := 1) (ret := none) (by decide) rfl ?_
  intro p e s m args below meth c s₁ B hml hv
  obtain ⟨rfl, hsz, hP, hK, hD0⟩ := hv
  have hx := B.exec
  have hb := B.bytes
  have hr := B.returns
  have hts := atoms_spec (ws := wsX1_init) B.pre
  have hown : s.vm.findClass RX1 = some m.cls := findClass_of_methodNamed B.named
  have hlocks := B.notSynchronized
  have hin : meth.name = "<init>" := (name_of_methodNamed B.named B.method).1
  subst hsz
  have hD := hD0.self (sz := s.heap.size)
  generalize hAe : va_A [(h0, .inr (1, [.null, .null, .int 0, .int 0]))] s.heap.size = A at hD ⊢
  have hA : ∀ q : Nat, s.heap.size ≤ q → A q := fun q h => by rw [← hAe]; exact Or.inr h
  have hS : va_S A s.heap s.heap [] := va_S.rf
  have hP : va_P (dC, dI) vwCl [(h0, .inr (1, [.null, .null, .int 0, .int 0]))] s.heap := hP
  have hl := lv_entry ([.ref h0]) (n := 1) (Nat.le_of_ble_eq_true rfl)
  rw [lg_entry_eq]
  generalize (lg_sl ([.ref h0]) ++ List.replicate (1 - (lg_sl ([.ref h0])).length) Slot.unset).toArray = ls at hl ⊢
  have hl : lv_has ls 1 [(0, .ref h0)] := hl
  refine lv_aload_n hx hb dX1_init_0 rfl (lv_at hl 0 rfl) ?_
  refine W.objInit hx hb hown (hts (.methodLink RX1 3 objectInit) (by decide +kernel)) (hts (.instanceMethod objectInit) (by decide +kernel)) (hts _ (List.mem_cons_of_mem _ (List.mem_append_left _ (List.mem_of_getElem? (i := 2) rfl)))) rfl (by rw [hml]; exact hl.1) rfl dX1_init_1 (Nat.le_of_ble_eq_true rfl) (Nat.le_of_ble_eq_true rfl) ?_
  refine W.eq (g2 := F0 m 4 ls []) rfl ?_
  refine lv_aload_n hx hb dX1_init_4 rfl (lv_at hl 0 rfl) ?_
  refine lv_sipush (v := nI (600)) hx hb dX1_init_5 (by decide) ?_
  refine nwa (atype := .int) (n := nI (600)) (N' := 600) (t0 := 0) (cI := cI) (a0 := (600, .inl (fun _ => 0))) hx hb (hts (.arrayClass .int) (by decide +kernel)) (ty := .int) rfl hK hP hD hS hA rfl (fun C h => by cases h) (ha_i 600) (by decide) (by decide) (by decide) (by decide) (by decide) dX1_init_8 (fun q1 H hP hD hS => ?_)
  have hP : va_P (dC, dI) vwCl [(h0, .inr (1, [.null, .null, .int 0, .int 0])), (q1, .inl (cI, 600, .inl (fun _ => 0)))] H := hP
  have hD : va_D A [(h0, .inr (1, [.null, .null, .int 0, .int 0])), (q1, .inl (cI, 600, .inl (fun _ => 0)))] := hD
  refine W.widen (k := 1) (n := 600) (by decide) (by decide) ?_
  refine va_putF (D := (dC, dI)) (ci := 1) (v := .ref q1) (ty := .array .int) (C := RX1) (T := TX1) (N := 4) hx hb hts (by decide +kernel) tyX1 tyX1_ok nmX1 hown hK hP hD hS 0 rfl rfl 0 (by decide) (hts (.fieldLink RX1 9 "TriangleSheet$Triangles" "corners" "[I") (by decide +kernel)) (fun _ h9 => h9) rfl hin rfl (by decide +kernel) rfl rfl (Nat.le_of_ble_eq_true rfl) dX1_init_10 (fun H locs hP hD hS => ?_)
  have hP : va_P (dC, dI) vwCl [(h0, .inr (1, [.ref q1, .null, .int 0, .int 0])), (q1, .inl (cI, 600, .inl (fun _ => 0)))] H := hP
  have hD : va_D A [(h0, .inr (1, [.ref q1, .null, .int 0, .int 0])), (q1, .inl (cI, 600, .inl (fun _ => 0)))] := hD
  refine lv_aload_n hx hb dX1_init_13 rfl (lv_at hl 0 rfl) ?_
  refine lv_bipush (v := nI (60)) hx hb dX1_init_14 (by decide) ?_
  refine nwa (atype := .int) (n := nI (60)) (N' := 60) (t0 := 0) (cI := cI) (a0 := (60, .inl (fun _ => 0))) hx hb (hts (.arrayClass .int) (by decide +kernel)) (ty := .int) rfl hK hP hD hS hA rfl (fun C h => by cases h) (ha_i 60) (by decide) (by decide) (by decide) (by decide) (by decide) dX1_init_16 (fun q2 H hP hD hS => ?_)
  have hP : va_P (dC, dI) vwCl [(h0, .inr (1, [.ref q1, .null, .int 0, .int 0])), (q1, .inl (cI, 600, .inl (fun _ => 0))), (q2, .inl (cI, 60, .inl (fun _ => 0)))] H := hP
  have hD : va_D A [(h0, .inr (1, [.ref q1, .null, .int 0, .int 0])), (q1, .inl (cI, 600, .inl (fun _ => 0))), (q2, .inl (cI, 60, .inl (fun _ => 0)))] := hD
  refine W.widen (k := 2) (n := 660) (by decide) (by decide) ?_
  refine va_putF (D := (dC, dI)) (ci := 1) (v := .ref q2) (ty := .array .int) (C := RX1) (T := TX1) (N := 4) hx hb hts (by decide +kernel) tyX1 tyX1_ok nmX1 hown hK hP hD hS 0 rfl rfl 1 (by decide) (hts (.fieldLink RX1 15 "TriangleSheet$Triangles" "there" "[I") (by decide +kernel)) (fun _ h9 => h9) rfl hin rfl (by decide +kernel) rfl rfl (Nat.le_of_ble_eq_true rfl) dX1_init_18 (fun H locs hP hD hS => ?_)
  have hP : va_P (dC, dI) vwCl [(h0, .inr (1, [.ref q1, .ref q2, .int 0, .int 0])), (q1, .inl (cI, 600, .inl (fun _ => 0))), (q2, .inl (cI, 60, .inl (fun _ => 0)))] H := hP
  have hD : va_D A [(h0, .inr (1, [.ref q1, .ref q2, .int 0, .int 0])), (q1, .inl (cI, 600, .inl (fun _ => 0))), (q2, .inl (cI, 60, .inl (fun _ => 0)))] := hD
  refine lv_aload_n hx hb dX1_init_21 rfl (lv_at hl 0 rfl) ?_
  refine lv_iconst (v := nI (0)) hx hb dX1_init_22 (by decide) ?_
  refine va_put (D := (dC, dI)) (ci := 1) (v := .int (nI (0))) (ty := .int) (C := RX1) (T := TX1) (N := 4) hx hb hts (by decide +kernel) tyX1 tyX1_ok nmX1 hown hK hP hD hS 0 rfl rfl 2 (by decide) (hts (.fieldLink RX1 18 "TriangleSheet$Triangles" "thereCount" "I") (by decide +kernel)) (fun _ h9 => h9) rfl (by decide +kernel) rfl rfl (Nat.le_of_ble_eq_true rfl) dX1_init_23 (fun H locs hP hD hS => ?_)
  have hP : va_P (dC, dI) vwCl [(h0, .inr (1, [.ref q1, .ref q2, .int (nI (0)), .int 0])), (q1, .inl (cI, 600, .inl (fun _ => 0))), (q2, .inl (cI, 60, .inl (fun _ => 0)))] H := hP
  have hD : va_D A [(h0, .inr (1, [.ref q1, .ref q2, .int (nI (0)), .int 0])), (q1, .inl (cI, 600, .inl (fun _ => 0))), (q2, .inl (cI, 60, .inl (fun _ => 0)))] := hD
  refine lv_aload_n hx hb dX1_init_26 rfl (lv_at hl 0 rfl) ?_
  refine lv_iconst (v := nI (0)) hx hb dX1_init_27 (by decide) ?_
  refine va_put (D := (dC, dI)) (ci := 1) (v := .int (nI (0))) (ty := .int) (C := RX1) (T := TX1) (N := 4) hx hb hts (by decide +kernel) tyX1 tyX1_ok nmX1 hown hK hP hD hS 0 rfl rfl 3 (by decide) (hts (.fieldLink RX1 22 "TriangleSheet$Triangles" "came" "I") (by decide +kernel)) (fun _ h9 => h9) rfl (by decide +kernel) rfl rfl (Nat.le_of_ble_eq_true rfl) dX1_init_28 (fun H locs hP hD hS => ?_)
  have hP : va_P (dC, dI) vwCl [(h0, .inr (1, [.ref q1, .ref q2, .int (nI (0)), .int (nI (0))])), (q1, .inl (cI, 600, .inl (fun _ => 0))), (q2, .inl (cI, 60, .inl (fun _ => 0)))] H := hP
  have hD : va_D A [(h0, .inr (1, [.ref q1, .ref q2, .int (nI (0)), .int (nI (0))])), (q1, .inl (cI, 600, .inl (fun _ => 0))), (q2, .inl (cI, 60, .inl (fun _ => 0)))] := hD
  have hP9 := hP.sub (ws' := wT0 cI h0 q1 q2) [0, 1, 2] rfl
  have hD9 := hD.sub (ws' := wT0 cI h0 q1 q2) [0, 1, 2] (by decide) rfl
  exact W.vret hx hb hr (fun t ht hW => ⟨⟨(), rfl, trivial, q1, q2, by rw [ht]; exact hP9, va_K.moved hW.alike hK, hD9⟩, hS.F ht⟩) hS.2.2 dX1_init_31
set_option maxHeartbeats 4000000 in
set_option maxRecDepth 100000 in
theorem c_X2_init (l : Launch) (dC : Nat → ClassId) (dI : Nat → Nat → Nat) (cI cL cZ : ClassId) (h0 sz : Nat) : Met l yX2_init wsX2_init ({ frames := 2, cells := 8, slots := 1047, locals := 32 }) (va_Pc [.ref h0] (fun U => U.heap.size = sz ∧ va_P (dC, dI) vwCl [(h0, .inr (2, [.null, .null, .null, .null, .int 0, .int 0]))] U.heap ∧ va_K (dC, dI) vwCl (tyS cI cL cZ) U ∧ va_D (fun _ => True) [(h0, .inr (2, [.null, .null, .null, .null, .int 0, .int 0]))])) (va_Qv (fun _ : Unit => True) (fun (_ : Unit) t => ∃ z1 z2 z3 z4 z5 z6 z7 z8 : Nat, va_P (dC, dI) vwCl (wS cI cL (fun k => [h0, z1, z2, z3, z4, z5, z6, z7, z8].getD k 0) v00) t.heap ∧ va_K (dC, dI) vwCl (tyS cI cL cZ) t ∧ va_D (va_A [(h0, .inr (2, [.null, .null, .null, .null, .int 0, .int 0]))] sz) (wS cI cL (fun k => [h0, z1, z2, z3, z4, z5, z6, z7, z8].getD k 0) v00)) (va_A [(h0, .inr (2, [.null, .null, .null, .null, .int 0, .int 0]))] sz)) 8 1047 (va_A [(h0, .inr (2, [.null, .null, .null, .null, .int 0, .int 0]))] sz) := by
  refine Met.ofW (cc := cX2_init) (maxL := 1) (ret := none) (by decide) rfl ?_
  intro p e s m args below meth c s₁ B hml hv
  obtain ⟨rfl, hsz, hP, hK, hD0⟩ := hv
  have hx := B.exec
  have hb := B.bytes
  have hr := B.returns
  have hts := atoms_spec (ws := wsX2_init) B.pre
  have hown : s.vm.findClass RX2 = some m.cls := findClass_of_methodNamed B.named
  have hlocks := B.notSynchronized
  have hin : meth.name = "<init>" := (name_of_methodNamed B.named B.method).1
  subst hsz
  have hD := hD0.self (sz := s.heap.size)
  generalize hAe : va_A [(h0, .inr (2, [.null, .null, .null, .null, .int 0, .int 0]))] s.heap.size = A at hD ⊢
  have hA : ∀ q : Nat, s.heap.size ≤ q → A q := fun q h => by rw [← hAe]; exact Or.inr h
  have hS : va_S A s.heap s.heap [] := va_S.rf
  have hP : va_P (dC, dI) vwCl [(h0, .inr (2, [.null, .null, .null, .null, .int 0, .int 0]))] s.heap := hP
  have hl := lv_entry ([.ref h0]) (n := 1) (Nat.le_of_ble_eq_true rfl)
  rw [lg_entry_eq]
  generalize (lg_sl ([.ref h0]) ++ List.replicate (1 - (lg_sl ([.ref h0])).length) Slot.unset).toArray = ls at hl ⊢
  have hl : lv_has ls 1 [(0, .ref h0)] := hl
  refine lv_aload_n hx hb dX2_init_0 rfl (lv_at hl 0 rfl) ?_
  refine W.objInit hx hb hown (hts (.methodLink RX2 1 objectInit) (by decide +kernel)) (hts (.instanceMethod objectInit) (by decide +kernel)) (hts _ (List.mem_cons_of_mem _ (List.mem_append_left _ (List.mem_of_getElem? (i := 2) rfl)))) rfl (by rw [hml]; exact hl.1) rfl dX2_init_1 (Nat.le_of_ble_eq_true rfl) (Nat.le_of_ble_eq_true rfl) ?_
  refine W.eq (g2 := F0 m 4 ls []) rfl ?_
  refine lv_aload_n hx hb dX2_init_4 rfl (lv_at hl 0 rfl) ?_
  refine va_new (ci := 0) (fs := [.null, .null, .int 0]) (C := RX0) (T := TX0) (N := 3) hx hb hts (by decide +kernel) tyX0 tyX0_ok hown (hts (.classLink RX2 7 RX0) (by decide +kernel)) (hts (.instantiable RX0 3) (by decide +kernel)) (hts (.initialized RX0) (by decide +kernel)) hK hP hD hS hA rfl (fun j hj => by rcases (show j = 0 ∨ j = 1 ∨ j = 2 by omega) with rfl | rfl | rfl <;> rfl) (by decide) (by decide) dX2_init_5 (fun q1 H hP hD hS => ?_)
  have hP : va_P (dC, dI) vwCl [(h0, .inr (2, [.null, .null, .null, .null, .int 0, .int 0])), (q1, .inr (0, [.null, .null, .int 0]))] H := hP
  have hD : va_D A [(h0, .inr (2, [.null, .null, .null, .null, .int 0, .int 0])), (q1, .inr (0, [.null, .null, .int 0]))] := hD
  refine W.widen (k := 1) (n := 3) (by decide) (by decide) ?_
  refine lv_dup hx hb dX2_init_8 rfl ?_
  have hPc := hP.sub (ws' := [(q1, .inr (0, [.null, .null, .int 0]))]) [1] rfl
  have hDc := hD.sub (ws' := [(q1, .inr (0, [.null, .null, .int 0]))]) [1] (by decide) rfl
  have hKc := hK
  have hFc := va_free (wc := [(q1, .inr (0, [.null, .null, .int 0]))]) hD hS hA [1] rfl
  refine va_callv (va_runI (As := []) (rest := [.ref q1, .ref h0]) ⟨hx, hb, hml, hown, hts⟩ (c_X0_init l dC dI cI cL cZ q1 H.size) (cwI 0 hts gX2_init_X0_init rfl rfl rfl (hts (.initialized RX0) (by decide +kernel)) (hts (.methodLink RX2 9 yX0_init) (by decide +kernel)) (hts (.instanceMethod yX0_init) (by decide +kernel)) rfl (by decide +kernel) ⟨Nat.le_of_ble_eq_true rfl, Nat.le_of_ble_eq_true rfl⟩) ⟨fun a U g mk q => by obtain ⟨q0, q1, qP, qK, qD⟩ := q; exact ⟨q0, q1, qP, va_K.moved (u := U) (U := U.calling g mk a) (Vm.Alike.refl U.vm) qK, qD⟩, fun U hU hW => ⟨rfl, by rw [hU], by rw [hU]; exact hPc, va_K.moved hW.alike hKc, hDc.weaken (fun _ _ _ _ => trivial)⟩⟩ rfl rfl hl.1 rfl (lv_room (Nat.le_of_ble_eq_true rfl)) dX2_init_9 ⟨by decide, by decide⟩) hS (fun q _ h => hFc q h) hFc (fun u t H1 locs ht hvm hw hB hz1 hk1 hS => ?_)
  obtain ⟨r1a, r1b, hP1, hK1, hD1⟩ := hB
  rw [ht] at hP1
  obtain ⟨hP, hD⟩ := va_join (wr := [(h0, .inr (2, [.null, .null, .null, .null, .int 0, .int 0]))]) (w1 := wP0 cI q1 r1a r1b) hP hD [1] [0] rfl rfl (by decide) (by decide) hk1 hFc hP1 hD1
  generalize H1 = H at hP hS ⊢
  have hP : va_P (dC, dI) vwCl [(h0, .inr (2, [.null, .null, .null, .null, .int 0, .int 0])), (q1, .inr (0, [.ref r1a, .ref r1b, .int (nI 0)])), (r1a, .inl (cI, 60, .inl (fun _ => 0))), (r1b, .inl (cI, 60, .inl (fun _ => 0)))] H := hP
  have hD : va_D A [(h0, .inr (2, [.null, .null, .null, .null, .int 0, .int 0])), (q1, .inr (0, [.ref r1a, .ref r1b, .int (nI 0)])), (r1a, .inl (cI, 60, .inl (fun _ => 0))), (r1b, .inl (cI, 60, .inl (fun _ => 0)))] := hD
  refine W.widen (k := 3) (n := 123) (by decide) (by decide) ?_
  refine va_putF (D := (dC, dI)) (ci := 2) (v := .ref q1) (ty := .object "TriangleSheet$Points") (C := RX2) (T := TX2) (N := 6) hx hb hts (by decide +kernel) tyX2 tyX2_ok nmX2 hown hK hP hD hS 0 rfl rfl 0 (by decide) (hts (.fieldLink RX2 10 "TriangleSheet" "points" "LTriangleSheet$Points;") (by decide +kernel)) (fun _ h9 => h9) rfl hin rfl (by decide +kernel) rfl rfl (Nat.le_of_ble_eq_true rfl) dX2_init_12 (fun H locs hP hD hS => ?_)
  have hP : va_P (dC, dI) vwCl [(h0, .inr (2, [.ref q1, .null, .null, .null, .int 0, .int 0])), (q1, .inr (0, [.ref r1a, .ref r1b, .int (nI 0)])), (r1a, .inl (cI, 60, .inl (fun _ => 0))), (r1b, .inl (cI, 60, .inl (fun _ => 0)))] H := hP
  have hD : va_D A [(h0, .inr (2, [.ref q1, .null, .null, .null, .int 0, .int 0])), (q1, .inr (0, [.ref r1a, .ref r1b, .int (nI 0)])), (r1a, .inl (cI, 60, .inl (fun _ => 0))), (r1b, .inl (cI, 60, .inl (fun _ => 0)))] := hD
  refine lv_aload_n hx hb dX2_init_15 rfl (lv_at hl 0 rfl) ?_
  refine va_new (ci := 1) (fs := [.null, .null, .int 0, .int 0]) (C := RX1) (T := TX1) (N := 4) hx hb hts (by decide +kernel) tyX1 tyX1_ok hown (hts (.classLink RX2 16 RX1) (by decide +kernel)) (hts (.instantiable RX1 4) (by decide +kernel)) (hts (.initialized RX1) (by decide +kernel)) hK hP hD hS hA rfl (fun j hj => by rcases (show j = 0 ∨ j = 1 ∨ j = 2 ∨ j = 3 by omega) with rfl | rfl | rfl | rfl <;> rfl) (by decide) (by decide) dX2_init_16 (fun q2 H hP hD hS => ?_)
  have hP : va_P (dC, dI) vwCl [(h0, .inr (2, [.ref q1, .null, .null, .null, .int 0, .int 0])), (q1, .inr (0, [.ref r1a, .ref r1b, .int (nI 0)])), (r1a, .inl (cI, 60, .inl (fun _ => 0))), (r1b, .inl (cI, 60, .inl (fun _ => 0))), (q2, .inr (1, [.null, .null, .int 0, .int 0]))] H := hP
  have hD : va_D A [(h0, .inr (2, [.ref q1, .null, .null, .null, .int 0, .int 0])), (q1, .inr (0, [.ref r1a, .ref r1b, .int (nI 0)])), (r1a, .inl (cI, 60, .inl (fun _ => 0))), (r1b, .inl (cI, 60, .inl (fun _ => 0))), (q2, .inr (1, [.null, .null, .int 0, .int 0]))] := hD
  refine W.widen (k := 4) (n := 127) (by decide) (by decide) ?_
  refine lv_dup hx hb dX2_init_19 rfl ?_
  have hPc := hP.sub (ws' := [(q2, .inr (1, [.null, .null, .int 0, .int 0]))]) [4] rfl
  have hDc := hD.sub (ws' := [(q2, .inr (1, [.null, .null, .int 0, .int 0]))]) [4] (by decide) rfl
  have hKc := hK
  have hFc := va_free (wc := [(q2, .inr (1, [.null, .null, .int 0, .int 0]))]) hD hS hA [4] rfl
  refine va_callv (va_runI (As := []) (rest := [.ref q2, .ref h0]) ⟨hx, hb, hml, hown, hts⟩ (c_X1_init l dC dI cI cL cZ q2 H.size) (cwI 0 hts gX2_init_X1_init rfl rfl rfl (hts (.initialized RX1) (by decide +kernel)) (hts (.methodLink RX2 18 yX1_init) (by decide +kernel)) (hts (.instanceMethod yX1_init) (by decide +kernel)) rfl (by decide +kernel) ⟨Nat.le_of_ble_eq_true rfl, Nat.le_of_ble_eq_true rfl⟩) ⟨fun a U g mk q => by obtain ⟨q0, q1, qP, qK, qD⟩ := q; exact ⟨q0, q1, qP, va_K.moved (u := U) (U := U.calling g mk a) (Vm.Alike.refl U.vm) qK, qD⟩, fun U hU hW => ⟨rfl, by rw [hU], by rw [hU]; exact hPc, va_K.moved hW.alike hKc, hDc.weaken (fun _ _ _ _ => trivial)⟩⟩ rfl rfl hl.1 rfl (lv_room (Nat.le_of_ble_eq_true rfl)) dX2_init_20 ⟨by decide, by decide⟩) hS (fun q _ h => hFc q h) hFc (fun u t H1 locs ht hvm hw hB hz1 hk1 hS => ?_)
  obtain ⟨r2a, r2b, hP1, hK1, hD1⟩ := hB
  rw [ht] at hP1
  obtain ⟨hP, hD⟩ := va_join (wr := [(h0, .inr (2, [.ref q1, .null, .null, .null, .int 0, .int 0])), (q1, .inr (0, [.ref r1a, .ref r1b, .int (nI 0)])), (r1a, .inl (cI, 60, .inl (fun _ => 0))), (r1b, .inl (cI, 60, .inl (fun _ => 0)))]) (w1 := wT0 cI q2 r2a r2b) hP hD [4] [0, 1, 2, 3] rfl rfl (by decide) (by decide) hk1 hFc hP1 hD1
  generalize H1 = H at hP hS ⊢
  have hP : va_P (dC, dI) vwCl [(h0, .inr (2, [.ref q1, .null, .null, .null, .int 0, .int 0])), (q1, .inr (0, [.ref r1a, .ref r1b, .int (nI 0)])), (r1a, .inl (cI, 60, .inl (fun _ => 0))), (r1b, .inl (cI, 60, .inl (fun _ => 0))), (q2, .inr (1, [.ref r2a, .ref r2b, .int (nI 0), .int (nI 0)])), (r2a, .inl (cI, 600, .inl (fun _ => 0))), (r2b, .inl (cI, 60, .inl (fun _ => 0)))] H := hP
  have hD : va_D A [(h0, .inr (2, [.ref q1, .null, .null, .null, .int 0, .int 0])), (q1, .inr (0, [.ref r1a, .ref r1b, .int (nI 0)])), (r1a, .inl (cI, 60, .inl (fun _ => 0))), (r1b, .inl (cI, 60, .inl (fun _ => 0))), (q2, .inr (1, [.ref r2a, .ref r2b, .int (nI 0), .int (nI 0)])), (r2a, .inl (cI, 600, .inl (fun _ => 0))), (r2b, .inl (cI, 60, .inl (fun _ => 0)))] := hD
  refine W.widen (k := 6) (n := 787) (by decide) (by decide) ?_
  refine va_putF (D := (dC, dI)) (ci := 2) (v := .ref q2) (ty := .object "TriangleSheet$Triangles") (C := RX2) (T := TX2) (N := 6) hx hb hts (by decide +kernel) tyX2 tyX2_ok nmX2 hown hK hP hD hS 0 rfl rfl 1 (by decide) (hts (.fieldLink RX2 19 "TriangleSheet" "triangles" "LTriangleSheet$Triangles;") (by decide +kernel)) (fun _ h9 => h9) rfl hin rfl (by decide +kernel) rfl rfl (Nat.le_of_ble_eq_true rfl) dX2_init_23 (fun H locs hP hD hS => ?_)
  have hP : va_P (dC, dI) vwCl [(h0, .inr (2, [.ref q1, .ref q2, .null, .null, .int 0, .int 0])), (q1, .inr (0, [.ref r1a, .ref r1b, .int (nI 0)])), (r1a, .inl (cI, 60, .inl (fun _ => 0))), (r1b, .inl (cI, 60, .inl (fun _ => 0))), (q2, .inr (1, [.ref r2a, .ref r2b, .int (nI 0), .int (nI 0)])), (r2a, .inl (cI, 600, .inl (fun _ => 0))), (r2b, .inl (cI, 60, .inl (fun _ => 0)))] H := hP
  have hD : va_D A [(h0, .inr (2, [.ref q1, .ref q2, .null, .null, .int 0, .int 0])), (q1, .inr (0, [.ref r1a, .ref r1b, .int (nI 0)])), (r1a, .inl (cI, 60, .inl (fun _ => 0))), (r1b, .inl (cI, 60, .inl (fun _ => 0))), (q2, .inr (1, [.ref r2a, .ref r2b, .int (nI 0), .int (nI 0)])), (r2a, .inl (cI, 600, .inl (fun _ => 0))), (r2b, .inl (cI, 60, .inl (fun _ => 0)))] := hD
  refine lv_aload_n hx hb dX2_init_26 rfl (lv_at hl 0 rfl) ?_
  refine lv_bipush (v := nI (60)) hx hb dX2_init_27 (by decide) ?_
  refine nwa (atype := .long) (n := nI (60)) (N' := 60) (t0 := 1) (cI := cL) (a0 := (60, .inr (.inl (fun _ => 0)))) hx hb (hts (.arrayClass .long) (by decide +kernel)) (ty := .long) rfl hK hP hD hS hA rfl (fun C h => by cases h) (ha_l 60) (by decide) (by decide) (by decide) (by decide) (by decide) dX2_init_29 (fun q3 H hP hD hS => ?_)
  have hP : va_P (dC, dI) vwCl [(h0, .inr (2, [.ref q1, .ref q2, .null, .null, .int 0, .int 0])), (q1, .inr (0, [.ref r1a, .ref r1b, .int (nI 0)])), (r1a, .inl (cI, 60, .inl (fun _ => 0))), (r1b, .inl (cI, 60, .inl (fun _ => 0))), (q2, .inr (1, [.ref r2a, .ref r2b, .int (nI 0), .int (nI 0)])), (r2a, .inl (cI, 600, .inl (fun _ => 0))), (r2b, .inl (cI, 60, .inl (fun _ => 0))), (q3, .inl (cL, 60, .inr (.inl (fun _ => 0))))] H := hP
  have hD : va_D A [(h0, .inr (2, [.ref q1, .ref q2, .null, .null, .int 0, .int 0])), (q1, .inr (0, [.ref r1a, .ref r1b, .int (nI 0)])), (r1a, .inl (cI, 60, .inl (fun _ => 0))), (r1b, .inl (cI, 60, .inl (fun _ => 0))), (q2, .inr (1, [.ref r2a, .ref r2b, .int (nI 0), .int (nI 0)])), (r2a, .inl (cI, 600, .inl (fun _ => 0))), (r2b, .inl (cI, 60, .inl (fun _ => 0))), (q3, .inl (cL, 60, .inr (.inl (fun _ => 0))))] := hD
  refine W.widen (k := 7) (n := 847) (by decide) (by decide) ?_
  refine va_putF (D := (dC, dI)) (ci := 2) (v := .ref q3) (ty := .array .long) (C := RX2) (T := TX2) (N := 6) hx hb hts (by decide +kernel) tyX2 tyX2_ok nmX2 hown hK hP hD hS 0 rfl rfl 2 (by decide) (hts (.fieldLink RX2 23 "TriangleSheet" "joinedTo" "[J") (by decide +kernel)) (fun _ h9 => h9) rfl hin rfl (by decide +kernel) rfl rfl (Nat.le_of_ble_eq_true rfl) dX2_init_31 (fun H locs hP hD hS => ?_)
  have hP : va_P (dC, dI) vwCl [(h0, .inr (2, [.ref q1, .ref q2, .ref q3, .null, .int 0, .int 0])), (q1, .inr (0, [.ref r1a, .ref r1b, .int (nI 0)])), (r1a, .inl (cI, 60, .inl (fun _ => 0))), (r1b, .inl (cI, 60, .inl (fun _ => 0))), (q2, .inr (1, [.ref r2a, .ref r2b, .int (nI 0), .int (nI 0)])), (r2a, .inl (cI, 600, .inl (fun _ => 0))), (r2b, .inl (cI, 60, .inl (fun _ => 0))), (q3, .inl (cL, 60, .inr (.inl (fun _ => 0))))] H := hP
  have hD : va_D A [(h0, .inr (2, [.ref q1, .ref q2, .ref q3, .null, .int 0, .int 0])), (q1, .inr (0, [.ref r1a, .ref r1b, .int (nI 0)])), (r1a, .inl (cI, 60, .inl (fun _ => 0))), (r1b, .inl (cI, 60, .inl (fun _ => 0))), (q2, .inr (1, [.ref r2a, .ref r2b, .int (nI 0), .int (nI 0)])), (r2a, .inl (cI, 600, .inl (fun _ => 0))), (r2b, .inl (cI, 60, .inl (fun _ => 0))), (q3, .inl (cL, 60, .inr (.inl (fun _ => 0))))] := hD
  refine lv_aload_n hx hb dX2_init_34 rfl (lv_at hl 0 rfl) ?_
  refine lv_sipush (v := nI (200)) hx hb dX2_init_35 (by decide) ?_
  refine nwa (atype := .int) (n := nI (200)) (N' := 200) (t0 := 0) (cI := cI) (a0 := (200, .inl (fun _ => 0))) hx hb (hts (.arrayClass .int) (by decide +kernel)) (ty := .int) rfl hK hP hD hS hA rfl (fun C h => by cases h) (ha_i 200) (by decide) (by decide) (by decide) (by decide) (by decide) dX2_init_38 (fun q4 H hP hD hS => ?_)
  have hP : va_P (dC, dI) vwCl [(h0, .inr (2, [.ref q1, .ref q2, .ref q3, .null, .int 0, .int 0])), (q1, .inr (0, [.ref r1a, .ref r1b, .int (nI 0)])), (r1a, .inl (cI, 60, .inl (fun _ => 0))), (r1b, .inl (cI, 60, .inl (fun _ => 0))), (q2, .inr (1, [.ref r2a, .ref r2b, .int (nI 0), .int (nI 0)])), (r2a, .inl (cI, 600, .inl (fun _ => 0))), (r2b, .inl (cI, 60, .inl (fun _ => 0))), (q3, .inl (cL, 60, .inr (.inl (fun _ => 0)))), (q4, .inl (cI, 200, .inl (fun _ => 0)))] H := hP
  have hD : va_D A [(h0, .inr (2, [.ref q1, .ref q2, .ref q3, .null, .int 0, .int 0])), (q1, .inr (0, [.ref r1a, .ref r1b, .int (nI 0)])), (r1a, .inl (cI, 60, .inl (fun _ => 0))), (r1b, .inl (cI, 60, .inl (fun _ => 0))), (q2, .inr (1, [.ref r2a, .ref r2b, .int (nI 0), .int (nI 0)])), (r2a, .inl (cI, 600, .inl (fun _ => 0))), (r2b, .inl (cI, 60, .inl (fun _ => 0))), (q3, .inl (cL, 60, .inr (.inl (fun _ => 0)))), (q4, .inl (cI, 200, .inl (fun _ => 0)))] := hD
  refine W.widen (k := 8) (n := 1047) (by decide) (by decide) ?_
  refine va_putF (D := (dC, dI)) (ci := 2) (v := .ref q4) (ty := .array .int) (C := RX2) (T := TX2) (N := 6) hx hb hts (by decide +kernel) tyX2 tyX2_ok nmX2 hown hK hP hD hS 0 rfl rfl 3 (by decide) (hts (.fieldLink RX2 27 "TriangleSheet" "pieceOf" "[I") (by decide +kernel)) (fun _ h9 => h9) rfl hin rfl (by decide +kernel) rfl rfl (Nat.le_of_ble_eq_true rfl) dX2_init_40 (fun H locs hP hD hS => ?_)
  have hP : va_P (dC, dI) vwCl [(h0, .inr (2, [.ref q1, .ref q2, .ref q3, .ref q4, .int 0, .int 0])), (q1, .inr (0, [.ref r1a, .ref r1b, .int (nI 0)])), (r1a, .inl (cI, 60, .inl (fun _ => 0))), (r1b, .inl (cI, 60, .inl (fun _ => 0))), (q2, .inr (1, [.ref r2a, .ref r2b, .int (nI 0), .int (nI 0)])), (r2a, .inl (cI, 600, .inl (fun _ => 0))), (r2b, .inl (cI, 60, .inl (fun _ => 0))), (q3, .inl (cL, 60, .inr (.inl (fun _ => 0)))), (q4, .inl (cI, 200, .inl (fun _ => 0)))] H := hP
  have hD : va_D A [(h0, .inr (2, [.ref q1, .ref q2, .ref q3, .ref q4, .int 0, .int 0])), (q1, .inr (0, [.ref r1a, .ref r1b, .int (nI 0)])), (r1a, .inl (cI, 60, .inl (fun _ => 0))), (r1b, .inl (cI, 60, .inl (fun _ => 0))), (q2, .inr (1, [.ref r2a, .ref r2b, .int (nI 0), .int (nI 0)])), (r2a, .inl (cI, 600, .inl (fun _ => 0))), (r2b, .inl (cI, 60, .inl (fun _ => 0))), (q3, .inl (cL, 60, .inr (.inl (fun _ => 0)))), (q4, .inl (cI, 200, .inl (fun _ => 0)))] := hD
  refine lv_aload_n hx hb dX2_init_43 rfl (lv_at hl 0 rfl) ?_
  refine lv_iconst (v := iI (-1)) hx hb dX2_init_44 (by decide) ?_
  refine va_put (D := (dC, dI)) (ci := 2) (v := .int (iI (-1))) (ty := .int) (C := RX2) (T := TX2) (N := 6) hx hb hts (by decide +kernel) tyX2 tyX2_ok nmX2 hown hK hP hD hS 0 rfl rfl 4 (by decide) (hts (.fieldLink RX2 31 "TriangleSheet" "faulty" "I") (by decide +kernel)) (fun _ h9 => h9) rfl (by decide +kernel) rfl rfl (Nat.le_of_ble_eq_true rfl) dX2_init_45 (fun H locs hP hD hS => ?_)
  have hP : va_P (dC, dI) vwCl [(h0, .inr (2, [.ref q1, .ref q2, .ref q3, .ref q4, .int (iI (-1)), .int 0])), (q1, .inr (0, [.ref r1a, .ref r1b, .int (nI 0)])), (r1a, .inl (cI, 60, .inl (fun _ => 0))), (r1b, .inl (cI, 60, .inl (fun _ => 0))), (q2, .inr (1, [.ref r2a, .ref r2b, .int (nI 0), .int (nI 0)])), (r2a, .inl (cI, 600, .inl (fun _ => 0))), (r2b, .inl (cI, 60, .inl (fun _ => 0))), (q3, .inl (cL, 60, .inr (.inl (fun _ => 0)))), (q4, .inl (cI, 200, .inl (fun _ => 0)))] H := hP
  have hD : va_D A [(h0, .inr (2, [.ref q1, .ref q2, .ref q3, .ref q4, .int (iI (-1)), .int 0])), (q1, .inr (0, [.ref r1a, .ref r1b, .int (nI 0)])), (r1a, .inl (cI, 60, .inl (fun _ => 0))), (r1b, .inl (cI, 60, .inl (fun _ => 0))), (q2, .inr (1, [.ref r2a, .ref r2b, .int (nI 0), .int (nI 0)])), (r2a, .inl (cI, 600, .inl (fun _ => 0))), (r2b, .inl (cI, 60, .inl (fun _ => 0))), (q3, .inl (cL, 60, .inr (.inl (fun _ => 0)))), (q4, .inl (cI, 200, .inl (fun _ => 0)))] := hD
  refine lv_aload_n hx hb dX2_init_48 rfl (lv_at hl 0 rfl) ?_
  refine lv_iconst (v := iI (-1)) hx hb dX2_init_49 (by decide) ?_
  refine va_put (D := (dC, dI)) (ci := 2) (v := .int (iI (-1))) (ty := .int) (C := RX2) (T := TX2) (N := 6) hx hb hts (by decide +kernel) tyX2 tyX2_ok nmX2 hown hK hP hD hS 0 rfl rfl 5 (by decide) (hts (.fieldLink RX2 35 "TriangleSheet" "faultyWith" "I") (by decide +kernel)) (fun _ h9 => h9) rfl (by decide +kernel) rfl rfl (Nat.le_of_ble_eq_true rfl) dX2_init_50 (fun H locs hP hD hS => ?_)
  have hP : va_P (dC, dI) vwCl [(h0, .inr (2, [.ref q1, .ref q2, .ref q3, .ref q4, .int (iI (-1)), .int (iI (-1))])), (q1, .inr (0, [.ref r1a, .ref r1b, .int (nI 0)])), (r1a, .inl (cI, 60, .inl (fun _ => 0))), (r1b, .inl (cI, 60, .inl (fun _ => 0))), (q2, .inr (1, [.ref r2a, .ref r2b, .int (nI 0), .int (nI 0)])), (r2a, .inl (cI, 600, .inl (fun _ => 0))), (r2b, .inl (cI, 60, .inl (fun _ => 0))), (q3, .inl (cL, 60, .inr (.inl (fun _ => 0)))), (q4, .inl (cI, 200, .inl (fun _ => 0)))] H := hP
  have hD : va_D A [(h0, .inr (2, [.ref q1, .ref q2, .ref q3, .ref q4, .int (iI (-1)), .int (iI (-1))])), (q1, .inr (0, [.ref r1a, .ref r1b, .int (nI 0)])), (r1a, .inl (cI, 60, .inl (fun _ => 0))), (r1b, .inl (cI, 60, .inl (fun _ => 0))), (q2, .inr (1, [.ref r2a, .ref r2b, .int (nI 0), .int (nI 0)])), (r2a, .inl (cI, 600, .inl (fun _ => 0))), (r2b, .inl (cI, 60, .inl (fun _ => 0))), (q3, .inl (cL, 60, .inr (.inl (fun _ => 0)))), (q4, .inl (cI, 200, .inl (fun _ => 0)))] := hD
  have hP9 := hP.sub (ws' := wS cI cL (fun k => [h0, q1, r1a, r1b, q2, r2a, r2b, q3, q4].getD k 0) v00) [0, 1, 2, 3, 4, 5, 6, 7, 8] rfl
  have hD9 := hD.sub (ws' := wS cI cL (fun k => [h0, q1, r1a, r1b, q2, r2a, r2b, q3, q4].getD k 0) v00) [0, 1, 2, 3, 4, 5, 6, 7, 8] (by decide) rfl
  exact W.vret hx hb hr (fun t ht hW => ⟨⟨(), rfl, trivial, q1, r1a, r1b, q2, r2a, r2b, q3, q4, by rw [ht]; exact hP9, va_K.moved hW.alike hK, hD9⟩, hS.F ht⟩) hS.2.2 dX2_init_53
set_option maxHeartbeats 4000000 in
set_option maxRecDepth 100000 in
theorem c_X3_init (l : Launch) (dC : Nat → ClassId) (dI : Nat → Nat → Nat) (cI cL cZ : ClassId) (h0 sz : Nat) : Met l yX3_init wsX3_init ({ frames := 1, cells := 5, slots := 1120, locals := 12 }) (va_Pc [.ref h0] (fun U => U.heap.size = sz ∧ va_P (dC, dI) vwCl [(h0, .inr (3, [.int 0, .int 0, .int 0, .int 0, .null, .null, .null, .null, .int 0, .int 0, .null]))] U.heap ∧ va_K (dC, dI) vwCl (tyS cI cL cZ) U ∧ va_D (fun _ => True) [(h0, .inr (3, [.int 0, .int 0, .int 0, .int 0, .null, .null, .null, .null, .int 0, .int 0, .null]))])) (va_Qv (fun _ : Unit => True) (fun (_ : Unit) t => ∃ z1 z2 z3 z4 z5 : Nat, va_P (dC, dI) vwCl (wM cI cZ (fun k => [h0, z1, z2, z3, z4, z5].getD k 0) w00) t.heap ∧ va_K (dC, dI) vwCl (tyS cI cL cZ) t ∧ va_D (va_A [(h0, .inr (3, [.int 0, .int 0, .int 0, .int 0, .null, .null, .null, .null, .int 0, .int 0, .null]))] sz) (wM cI cZ (fun k => [h0, z1, z2, z3, z4, z5].getD k 0) w00)) (va_A [(h0, .inr (3, [.int 0, .int 0, .int 0, .int 0, .null, .null, .null, .null, .int 0, .int 0, .null]))] sz)) 5 1120 (va_A [(h0, .inr (3, [.int 0, .int 0, .int 0, .int 0, .null, .null, .null, .null, .int 0, .int 0, .null]))] sz) := by
  refine Met.ofW (cc := cX3_init) (maxL := 1) (ret := none) (by decide) rfl ?_
  intro p e s m args below meth c s₁ B hml hv
  obtain ⟨rfl, hsz, hP, hK, hD0⟩ := hv
  have hx := B.exec
  have hb := B.bytes
  have hr := B.returns
  have hts := atoms_spec (ws := wsX3_init) B.pre
  have hown : s.vm.findClass RX3 = some m.cls := findClass_of_methodNamed B.named
  have hlocks := B.notSynchronized
  have hin : meth.name = "<init>" := (name_of_methodNamed B.named B.method).1
  subst hsz
  have hD := hD0.self (sz := s.heap.size)
  generalize hAe : va_A [(h0, .inr (3, [.int 0, .int 0, .int 0, .int 0, .null, .null, .null, .null, .int 0, .int 0, .null]))] s.heap.size = A at hD ⊢
  have hA : ∀ q : Nat, s.heap.size ≤ q → A q := fun q h => by rw [← hAe]; exact Or.inr h
  have hS : va_S A s.heap s.heap [] := va_S.rf
  have hP : va_P (dC, dI) vwCl [(h0, .inr (3, [.int 0, .int 0, .int 0, .int 0, .null, .null, .null, .null, .int 0, .int 0, .null]))] s.heap := hP
  have hl := lv_entry ([.ref h0]) (n := 1) (Nat.le_of_ble_eq_true rfl)
  rw [lg_entry_eq]
  generalize (lg_sl ([.ref h0]) ++ List.replicate (1 - (lg_sl ([.ref h0])).length) Slot.unset).toArray = ls at hl ⊢
  have hl : lv_has ls 1 [(0, .ref h0)] := hl
  refine lv_aload_n hx hb dX3_init_0 rfl (lv_at hl 0 rfl) ?_
  refine W.objInit hx hb hown (hts (.methodLink RX3 1 objectInit) (by decide +kernel)) (hts (.instanceMethod objectInit) (by decide +kernel)) (hts _ (List.mem_cons_of_mem _ (List.mem_append_left _ (List.mem_of_getElem? (i := 2) rfl)))) rfl (by rw [hml]; exact hl.1) rfl dX3_init_1 (Nat.le_of_ble_eq_true rfl) (Nat.le_of_ble_eq_true rfl) ?_
  refine W.eq (g2 := F0 m 4 ls []) rfl ?_
  refine lv_aload_n hx hb dX3_init_4 rfl (lv_at hl 0 rfl) ?_
  refine lv_bipush (v := nI (60)) hx hb dX3_init_5 (by decide) ?_
  refine nwa (atype := .int) (n := nI (60)) (N' := 60) (t0 := 0) (cI := cI) (a0 := (60, .inl (fun _ => 0))) hx hb (hts (.arrayClass .int) (by decide +kernel)) (ty := .int) rfl hK hP hD hS hA rfl (fun C h => by cases h) (ha_i 60) (by decide) (by decide) (by decide) (by decide) (by decide) dX3_init_7 (fun q1 H hP hD hS => ?_)
  have hP : va_P (dC, dI) vwCl [(h0, .inr (3, [.int 0, .int 0, .int 0, .int 0, .null, .null, .null, .null, .int 0, .int 0, .null])), (q1, .inl (cI, 60, .inl (fun _ => 0)))] H := hP
  have hD : va_D A [(h0, .inr (3, [.int 0, .int 0, .int 0, .int 0, .null, .null, .null, .null, .int 0, .int 0, .null])), (q1, .inl (cI, 60, .inl (fun _ => 0)))] := hD
  refine W.widen (k := 1) (n := 60) (by decide) (by decide) ?_
  refine va_putF (D := (dC, dI)) (ci := 3) (v := .ref q1) (ty := .array .int) (C := RX3) (T := TX3) (N := 11) hx hb hts (by decide +kernel) tyX3 tyX3_ok nmX3 hown hK hP hD hS 0 rfl rfl 4 (by decide) (hts (.fieldLink RX3 7 "TriangleSheetModel" "px" "[I") (by decide +kernel)) (fun _ h9 => h9) rfl hin rfl (by decide +kernel) rfl rfl (Nat.le_of_ble_eq_true rfl) dX3_init_9 (fun H locs hP hD hS => ?_)
  have hP : va_P (dC, dI) vwCl [(h0, .inr (3, [.int 0, .int 0, .int 0, .int 0, .ref q1, .null, .null, .null, .int 0, .int 0, .null])), (q1, .inl (cI, 60, .inl (fun _ => 0)))] H := hP
  have hD : va_D A [(h0, .inr (3, [.int 0, .int 0, .int 0, .int 0, .ref q1, .null, .null, .null, .int 0, .int 0, .null])), (q1, .inl (cI, 60, .inl (fun _ => 0)))] := hD
  refine lv_aload_n hx hb dX3_init_12 rfl (lv_at hl 0 rfl) ?_
  refine lv_bipush (v := nI (60)) hx hb dX3_init_13 (by decide) ?_
  refine nwa (atype := .int) (n := nI (60)) (N' := 60) (t0 := 0) (cI := cI) (a0 := (60, .inl (fun _ => 0))) hx hb (hts (.arrayClass .int) (by decide +kernel)) (ty := .int) rfl hK hP hD hS hA rfl (fun C h => by cases h) (ha_i 60) (by decide) (by decide) (by decide) (by decide) (by decide) dX3_init_15 (fun q2 H hP hD hS => ?_)
  have hP : va_P (dC, dI) vwCl [(h0, .inr (3, [.int 0, .int 0, .int 0, .int 0, .ref q1, .null, .null, .null, .int 0, .int 0, .null])), (q1, .inl (cI, 60, .inl (fun _ => 0))), (q2, .inl (cI, 60, .inl (fun _ => 0)))] H := hP
  have hD : va_D A [(h0, .inr (3, [.int 0, .int 0, .int 0, .int 0, .ref q1, .null, .null, .null, .int 0, .int 0, .null])), (q1, .inl (cI, 60, .inl (fun _ => 0))), (q2, .inl (cI, 60, .inl (fun _ => 0)))] := hD
  refine W.widen (k := 2) (n := 120) (by decide) (by decide) ?_
  refine va_putF (D := (dC, dI)) (ci := 3) (v := .ref q2) (ty := .array .int) (C := RX3) (T := TX3) (N := 11) hx hb hts (by decide +kernel) tyX3 tyX3_ok nmX3 hown hK hP hD hS 0 rfl rfl 5 (by decide) (hts (.fieldLink RX3 13 "TriangleSheetModel" "py" "[I") (by decide +kernel)) (fun _ h9 => h9) rfl hin rfl (by decide +kernel) rfl rfl (Nat.le_of_ble_eq_true rfl) dX3_init_17 (fun H locs hP hD hS => ?_)
  have hP : va_P (dC, dI) vwCl [(h0, .inr (3, [.int 0, .int 0, .int 0, .int 0, .ref q1, .ref q2, .null, .null, .int 0, .int 0, .null])), (q1, .inl (cI, 60, .inl (fun _ => 0))), (q2, .inl (cI, 60, .inl (fun _ => 0)))] H := hP
  have hD : va_D A [(h0, .inr (3, [.int 0, .int 0, .int 0, .int 0, .ref q1, .ref q2, .null, .null, .int 0, .int 0, .null])), (q1, .inl (cI, 60, .inl (fun _ => 0))), (q2, .inl (cI, 60, .inl (fun _ => 0)))] := hD
  refine lv_aload_n hx hb dX3_init_20 rfl (lv_at hl 0 rfl) ?_
  refine lv_sipush (v := nI (200)) hx hb dX3_init_21 (by decide) ?_
  refine nwa (atype := .boolean) (n := nI (200)) (N' := 200) (t0 := 2) (cI := cZ) (a0 := (200, .inl (fun _ => 0))) hx hb (hts (.arrayClass .boolean) (by decide +kernel)) (ty := .boolean) rfl hK hP hD hS hA rfl (fun C h => by cases h) (ha_z 200) (by decide) (by decide) (by decide) (by decide) (by decide) dX3_init_24 (fun q3 H hP hD hS => ?_)
  have hP : va_P (dC, dI) vwCl [(h0, .inr (3, [.int 0, .int 0, .int 0, .int 0, .ref q1, .ref q2, .null, .null, .int 0, .int 0, .null])), (q1, .inl (cI, 60, .inl (fun _ => 0))), (q2, .inl (cI, 60, .inl (fun _ => 0))), (q3, .inl (cZ, 200, .inl (fun _ => 0)))] H := hP
  have hD : va_D A [(h0, .inr (3, [.int 0, .int 0, .int 0, .int 0, .ref q1, .ref q2, .null, .null, .int 0, .int 0, .null])), (q1, .inl (cI, 60, .inl (fun _ => 0))), (q2, .inl (cI, 60, .inl (fun _ => 0))), (q3, .inl (cZ, 200, .inl (fun _ => 0)))] := hD
  refine W.widen (k := 3) (n := 320) (by decide) (by decide) ?_
  refine va_putF (D := (dC, dI)) (ci := 3) (v := .ref q3) (ty := .array .boolean) (C := RX3) (T := TX3) (N := 11) hx hb hts (by decide +kernel) tyX3 tyX3_ok nmX3 hown hK hP hD hS 0 rfl rfl 6 (by decide) (hts (.fieldLink RX3 16 "TriangleSheetModel" "is" "[Z") (by decide +kernel)) (fun _ h9 => h9) rfl hin rfl (by decide +kernel) rfl rfl (Nat.le_of_ble_eq_true rfl) dX3_init_26 (fun H locs hP hD hS => ?_)
  have hP : va_P (dC, dI) vwCl [(h0, .inr (3, [.int 0, .int 0, .int 0, .int 0, .ref q1, .ref q2, .ref q3, .null, .int 0, .int 0, .null])), (q1, .inl (cI, 60, .inl (fun _ => 0))), (q2, .inl (cI, 60, .inl (fun _ => 0))), (q3, .inl (cZ, 200, .inl (fun _ => 0)))] H := hP
  have hD : va_D A [(h0, .inr (3, [.int 0, .int 0, .int 0, .int 0, .ref q1, .ref q2, .ref q3, .null, .int 0, .int 0, .null])), (q1, .inl (cI, 60, .inl (fun _ => 0))), (q2, .inl (cI, 60, .inl (fun _ => 0))), (q3, .inl (cZ, 200, .inl (fun _ => 0)))] := hD
  refine lv_aload_n hx hb dX3_init_29 rfl (lv_at hl 0 rfl) ?_
  refine lv_sipush (v := nI (600)) hx hb dX3_init_30 (by decide) ?_
  refine nwa (atype := .int) (n := nI (600)) (N' := 600) (t0 := 0) (cI := cI) (a0 := (600, .inl (fun _ => 0))) hx hb (hts (.arrayClass .int) (by decide +kernel)) (ty := .int) rfl hK hP hD hS hA rfl (fun C h => by cases h) (ha_i 600) (by decide) (by decide) (by decide) (by decide) (by decide) dX3_init_33 (fun q4 H hP hD hS => ?_)
  have hP : va_P (dC, dI) vwCl [(h0, .inr (3, [.int 0, .int 0, .int 0, .int 0, .ref q1, .ref q2, .ref q3, .null, .int 0, .int 0, .null])), (q1, .inl (cI, 60, .inl (fun _ => 0))), (q2, .inl (cI, 60, .inl (fun _ => 0))), (q3, .inl (cZ, 200, .inl (fun _ => 0))), (q4, .inl (cI, 600, .inl (fun _ => 0)))] H := hP
  have hD : va_D A [(h0, .inr (3, [.int 0, .int 0, .int 0, .int 0, .ref q1, .ref q2, .ref q3, .null, .int 0, .int 0, .null])), (q1, .inl (cI, 60, .inl (fun _ => 0))), (q2, .inl (cI, 60, .inl (fun _ => 0))), (q3, .inl (cZ, 200, .inl (fun _ => 0))), (q4, .inl (cI, 600, .inl (fun _ => 0)))] := hD
  refine W.widen (k := 4) (n := 920) (by decide) (by decide) ?_
  refine va_putF (D := (dC, dI)) (ci := 3) (v := .ref q4) (ty := .array .int) (C := RX3) (T := TX3) (N := 11) hx hb hts (by decide +kernel) tyX3 tyX3_ok nmX3 hown hK hP hD hS 0 rfl rfl 7 (by decide) (hts (.fieldLink RX3 20 "TriangleSheetModel" "corners" "[I") (by decide +kernel)) (fun _ h9 => h9) rfl hin rfl (by decide +kernel) rfl rfl (Nat.le_of_ble_eq_true rfl) dX3_init_35 (fun H locs hP hD hS => ?_)
  have hP : va_P (dC, dI) vwCl [(h0, .inr (3, [.int 0, .int 0, .int 0, .int 0, .ref q1, .ref q2, .ref q3, .ref q4, .int 0, .int 0, .null])), (q1, .inl (cI, 60, .inl (fun _ => 0))), (q2, .inl (cI, 60, .inl (fun _ => 0))), (q3, .inl (cZ, 200, .inl (fun _ => 0))), (q4, .inl (cI, 600, .inl (fun _ => 0)))] H := hP
  have hD : va_D A [(h0, .inr (3, [.int 0, .int 0, .int 0, .int 0, .ref q1, .ref q2, .ref q3, .ref q4, .int 0, .int 0, .null])), (q1, .inl (cI, 60, .inl (fun _ => 0))), (q2, .inl (cI, 60, .inl (fun _ => 0))), (q3, .inl (cZ, 200, .inl (fun _ => 0))), (q4, .inl (cI, 600, .inl (fun _ => 0)))] := hD
  refine lv_aload_n hx hb dX3_init_38 rfl (lv_at hl 0 rfl) ?_
  refine lv_iconst (v := iI (-1)) hx hb dX3_init_39 (by decide) ?_
  refine va_put (D := (dC, dI)) (ci := 3) (v := .int (iI (-1))) (ty := .int) (C := RX3) (T := TX3) (N := 11) hx hb hts (by decide +kernel) tyX3 tyX3_ok nmX3 hown hK hP hD hS 0 rfl rfl 8 (by decide) (hts (.fieldLink RX3 23 "TriangleSheetModel" "first" "I") (by decide +kernel)) (fun _ h9 => h9) rfl (by decide +kernel) rfl rfl (Nat.le_of_ble_eq_true rfl) dX3_init_40 (fun H locs hP hD hS => ?_)
  have hP : va_P (dC, dI) vwCl [(h0, .inr (3, [.int 0, .int 0, .int 0, .int 0, .ref q1, .ref q2, .ref q3, .ref q4, .int (iI (-1)), .int 0, .null])), (q1, .inl (cI, 60, .inl (fun _ => 0))), (q2, .inl (cI, 60, .inl (fun _ => 0))), (q3, .inl (cZ, 200, .inl (fun _ => 0))), (q4, .inl (cI, 600, .inl (fun _ => 0)))] H := hP
  have hD : va_D A [(h0, .inr (3, [.int 0, .int 0, .int 0, .int 0, .ref q1, .ref q2, .ref q3, .ref q4, .int (iI (-1)), .int 0, .null])), (q1, .inl (cI, 60, .inl (fun _ => 0))), (q2, .inl (cI, 60, .inl (fun _ => 0))), (q3, .inl (cZ, 200, .inl (fun _ => 0))), (q4, .inl (cI, 600, .inl (fun _ => 0)))] := hD
  refine lv_aload_n hx hb dX3_init_43 rfl (lv_at hl 0 rfl) ?_
  refine lv_iconst (v := iI (-1)) hx hb dX3_init_44 (by decide) ?_
  refine va_put (D := (dC, dI)) (ci := 3) (v := .int (iI (-1))) (ty := .int) (C := RX3) (T := TX3) (N := 11) hx hb hts (by decide +kernel) tyX3 tyX3_ok nmX3 hown hK hP hD hS 0 rfl rfl 9 (by decide) (hts (.fieldLink RX3 27 "TriangleSheetModel" "second" "I") (by decide +kernel)) (fun _ h9 => h9) rfl (by decide +kernel) rfl rfl (Nat.le_of_ble_eq_true rfl) dX3_init_45 (fun H locs hP hD hS => ?_)
  have hP : va_P (dC, dI) vwCl [(h0, .inr (3, [.int 0, .int 0, .int 0, .int 0, .ref q1, .ref q2, .ref q3, .ref q4, .int (iI (-1)), .int (iI (-1)), .null])), (q1, .inl (cI, 60, .inl (fun _ => 0))), (q2, .inl (cI, 60, .inl (fun _ => 0))), (q3, .inl (cZ, 200, .inl (fun _ => 0))), (q4, .inl (cI, 600, .inl (fun _ => 0)))] H := hP
  have hD : va_D A [(h0, .inr (3, [.int 0, .int 0, .int 0, .int 0, .ref q1, .ref q2, .ref q3, .ref q4, .int (iI (-1)), .int (iI (-1)), .null])), (q1, .inl (cI, 60, .inl (fun _ => 0))), (q2, .inl (cI, 60, .inl (fun _ => 0))), (q3, .inl (cZ, 200, .inl (fun _ => 0))), (q4, .inl (cI, 600, .inl (fun _ => 0)))] := hD
  refine lv_aload_n hx hb dX3_init_48 rfl (lv_at hl 0 rfl) ?_
  refine lv_sipush (v := nI (200)) hx hb dX3_init_49 (by decide) ?_
  refine nwa (atype := .int) (n := nI (200)) (N' := 200) (t0 := 0) (cI := cI) (a0 := (200, .inl (fun _ => 0))) hx hb (hts (.arrayClass .int) (by decide +kernel)) (ty := .int) rfl hK hP hD hS hA rfl (fun C h => by cases h) (ha_i 200) (by decide) (by decide) (by decide) (by decide) (by decide) dX3_init_52 (fun q5 H hP hD hS => ?_)
  have hP : va_P (dC, dI) vwCl [(h0, .inr (3, [.int 0, .int 0, .int 0, .int 0, .ref q1, .ref q2, .ref q3, .ref q4, .int (iI (-1)), .int (iI (-1)), .null])), (q1, .inl (cI, 60, .inl (fun _ => 0))), (q2, .inl (cI, 60, .inl (fun _ => 0))), (q3, .inl (cZ, 200, .inl (fun _ => 0))), (q4, .inl (cI, 600, .inl (fun _ => 0))), (q5, .inl (cI, 200, .inl (fun _ => 0)))] H := hP
  have hD : va_D A [(h0, .inr (3, [.int 0, .int 0, .int 0, .int 0, .ref q1, .ref q2, .ref q3, .ref q4, .int (iI (-1)), .int (iI (-1)), .null])), (q1, .inl (cI, 60, .inl (fun _ => 0))), (q2, .inl (cI, 60, .inl (fun _ => 0))), (q3, .inl (cZ, 200, .inl (fun _ => 0))), (q4, .inl (cI, 600, .inl (fun _ => 0))), (q5, .inl (cI, 200, .inl (fun _ => 0)))] := hD
  refine W.widen (k := 5) (n := 1120) (by decide) (by decide) ?_
  refine va_putF (D := (dC, dI)) (ci := 3) (v := .ref q5) (ty := .array .int) (C := RX3) (T := TX3) (N := 11) hx hb hts (by decide +kernel) tyX3 tyX3_ok nmX3 hown hK hP hD hS 0 rfl rfl 10 (by decide) (hts (.fieldLink RX3 30 "TriangleSheetModel" "marks" "[I") (by decide +kernel)) (fun _ h9 => h9) rfl hin rfl (by decide +kernel) rfl rfl (Nat.le_of_ble_eq_true rfl) dX3_init_54 (fun H locs hP hD hS => ?_)
  have hP : va_P (dC, dI) vwCl [(h0, .inr (3, [.int 0, .int 0, .int 0, .int 0, .ref q1, .ref q2, .ref q3, .ref q4, .int (iI (-1)), .int (iI (-1)), .ref q5])), (q1, .inl (cI, 60, .inl (fun _ => 0))), (q2, .inl (cI, 60, .inl (fun _ => 0))), (q3, .inl (cZ, 200, .inl (fun _ => 0))), (q4, .inl (cI, 600, .inl (fun _ => 0))), (q5, .inl (cI, 200, .inl (fun _ => 0)))] H := hP
  have hD : va_D A [(h0, .inr (3, [.int 0, .int 0, .int 0, .int 0, .ref q1, .ref q2, .ref q3, .ref q4, .int (iI (-1)), .int (iI (-1)), .ref q5])), (q1, .inl (cI, 60, .inl (fun _ => 0))), (q2, .inl (cI, 60, .inl (fun _ => 0))), (q3, .inl (cZ, 200, .inl (fun _ => 0))), (q4, .inl (cI, 600, .inl (fun _ => 0))), (q5, .inl (cI, 200, .inl (fun _ => 0)))] := hD
  have hP9 := hP.sub (ws' := wM cI cZ (fun k => [h0, q1, q2, q3, q4, q5].getD k 0) w00) [0, 1, 2, 3, 4, 5] rfl
  have hD9 := hD.sub (ws' := wM cI cZ (fun k => [h0, q1, q2, q3, q4, q5].getD k 0) w00) [0, 1, 2, 3, 4, 5] (by decide) rfl
  exact W.vret hx hb hr (fun t ht hW => ⟨⟨(), rfl, trivial, q1, q2, q3, q4, q5, by rw [ht]; exact hP9, va_K.moved hW.alike hK, hD9⟩, hS.F ht⟩) hS.2.2 dX3_init_57
