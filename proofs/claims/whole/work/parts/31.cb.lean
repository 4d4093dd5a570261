set_option maxHeartbeats 4000000 in
set_option maxRecDepth 100000 in
theorem c_J6_bitCount_0f7a4 (l : Launch) (dC : Nat → ClassId) (dI : Nat → Nat → Nat)  (x : Int32)  : Met l yJ6_bitCount_0f7a4 wsJ6_bitCount_0f7a4 ({ frames := 0, cells := 0, slots := 0, locals := 0 }) (va_Pc [.int (x)] (ro_B (dC, dI) vwCl [] [])) (k2_QcV (.int (bc32 x))) 0 0 (fun _ => False) := by
  refine ro_Met (cc := cJ6_bitCount_0f7a4) (maxL := 1) (ret := (some .int)) (by decide) rfl (Nat.le_of_ble_eq_true rfl) ?_
  intro pr en s m below meth co ls hx hb hml hr hlocks hown hts hP hK hl
  have hl : lv_has ls 1 [(0, .int (x))] := hl
  have hown : s.vm.findClass RJ6 = some m.cls := hown
  refine lv_iload_n hx hb dJ6_bitCount_0f7a4_0 rfl (lv_at hl 0 rfl) ?_
  refine lv_iload_n hx hb dJ6_bitCount_0f7a4_1 rfl (lv_at hl 0 rfl) ?_
  refine lv_iconst (v := nI (1)) hx hb dJ6_bitCount_0f7a4_2 (by decide) ?_
  refine lv_iushr hx hb dJ6_bitCount_0f7a4_3 rfl ?_
  refine W.eq (g2 := F0 m 4 ls [.int (((x).toUInt32 >>> ((nI (1)).toUInt32 &&& Int32.toUInt32 31)).toInt32), .int (x)]) rfl ?_
  refine lv_ldcw (v := 1431655765) hx hb hown (hts (.constant RJ6 265 1431655765) (by decide +kernel)) dJ6_bitCount_0f7a4_4 ?_
  refine lv_iand hx hb dJ6_bitCount_0f7a4_7 ?_
  refine lv_isub hx hb dJ6_bitCount_0f7a4_8 ?_
  refine rt_i (y := (bA x)) (rfl) ?_
  refine lv_istore_n (lv' := [(0, .int (bA x))]) hx hb dJ6_bitCount_0f7a4_9 rfl hl (by decide) rfl (fun ls hl => ?_)
  refine lv_iload_n hx hb dJ6_bitCount_0f7a4_10 rfl (lv_at hl 0 rfl) ?_
  refine lv_ldcw (v := 858993459) hx hb hown (hts (.constant RJ6 266 858993459) (by decide +kernel)) dJ6_bitCount_0f7a4_11 ?_
  refine lv_iand hx hb dJ6_bitCount_0f7a4_14 ?_
  refine lv_iload_n hx hb dJ6_bitCount_0f7a4_15 rfl (lv_at hl 0 rfl) ?_
  refine lv_iconst (v := nI (2)) hx hb dJ6_bitCount_0f7a4_16 (by decide) ?_
  refine lv_iushr hx hb dJ6_bitCount_0f7a4_17 rfl ?_
  refine W.eq (g2 := F0 m 18 ls [.int (((bA x).toUInt32 >>> ((nI (2)).toUInt32 &&& Int32.toUInt32 31)).toInt32), .int ((bA x) &&& (858993459))]) rfl ?_
  refine lv_ldcw (v := 858993459) hx hb hown (hts (.constant RJ6 266 858993459) (by decide +kernel)) dJ6_bitCount_0f7a4_18 ?_
  refine lv_iand hx hb dJ6_bitCount_0f7a4_21 ?_
  refine lv_iadd hx hb dJ6_bitCount_0f7a4_22 ?_
  refine rt_i (y := (bB (bA x))) (rfl) ?_
  refine lv_istore_n (lv' := [(0, .int (bB (bA x)))]) hx hb dJ6_bitCount_0f7a4_23 rfl hl (by decide) rfl (fun ls hl => ?_)
  refine lv_iload_n hx hb dJ6_bitCount_0f7a4_24 rfl (lv_at hl 0 rfl) ?_
  refine lv_iload_n hx hb dJ6_bitCount_0f7a4_25 rfl (lv_at hl 0 rfl) ?_
  refine lv_iconst (v := nI (4)) hx hb dJ6_bitCount_0f7a4_26 (by decide) ?_
  refine lv_iushr hx hb dJ6_bitCount_0f7a4_27 rfl ?_
  refine W.eq (g2 := F0 m 28 ls [.int (((bB (bA x)).toUInt32 >>> ((nI (4)).toUInt32 &&& Int32.toUInt32 31)).toInt32), .int (bB (bA x))]) rfl ?_
  refine lv_iadd hx hb dJ6_bitCount_0f7a4_28 ?_
  refine lv_ldcw (v := 252645135) hx hb hown (hts (.constant RJ6 267 252645135) (by decide +kernel)) dJ6_bitCount_0f7a4_29 ?_
  refine lv_iand hx hb dJ6_bitCount_0f7a4_32 ?_
  refine rt_i (y := (bC (bB (bA x)))) (rfl) ?_
  refine lv_istore_n (lv' := [(0, .int (bC (bB (bA x))))]) hx hb dJ6_bitCount_0f7a4_33 rfl hl (by decide) rfl (fun ls hl => ?_)
  refine lv_iload_n hx hb dJ6_bitCount_0f7a4_34 rfl (lv_at hl 0 rfl) ?_
  refine lv_iload_n hx hb dJ6_bitCount_0f7a4_35 rfl (lv_at hl 0 rfl) ?_
  refine lv_bipush (v := nI (8)) hx hb dJ6_bitCount_0f7a4_36 (by decide) ?_
  refine lv_iushr hx hb dJ6_bitCount_0f7a4_38 rfl ?_
  refine W.eq (g2 := F0 m 39 ls [.int (((bC (bB (bA x))).toUInt32 >>> ((nI (8)).toUInt32 &&& Int32.toUInt32 31)).toInt32), .int (bC (bB (bA x)))]) rfl ?_
  refine lv_iadd hx hb dJ6_bitCount_0f7a4_39 ?_
  refine rt_i (y := (bD (bC (bB (bA x))))) (rfl) ?_
  refine lv_istore_n (lv' := [(0, .int (bD (bC (bB (bA x)))))]) hx hb dJ6_bitCount_0f7a4_40 rfl hl (by decide) rfl (fun ls hl => ?_)
  refine lv_iload_n hx hb dJ6_bitCount_0f7a4_41 rfl (lv_at hl 0 rfl) ?_
  refine lv_iload_n hx hb dJ6_bitCount_0f7a4_42 rfl (lv_at hl 0 rfl) ?_
  refine lv_bipush (v := nI (16)) hx hb dJ6_bitCount_0f7a4_43 (by decide) ?_
  refine lv_iushr hx hb dJ6_bitCount_0f7a4_45 rfl ?_
  refine W.eq (g2 := F0 m 46 ls [.int (((bD (bC (bB (bA x)))).toUInt32 >>> ((nI (16)).toUInt32 &&& Int32.toUInt32 31)).toInt32), .int (bD (bC (bB (bA x))))]) rfl ?_
  refine lv_iadd hx hb dJ6_bitCount_0f7a4_46 ?_
  refine rt_i (y := (bE (bD (bC (bB (bA x)))))) (rfl) ?_
  refine lv_istore_n (lv' := [(0, .int (bE (bD (bC (bB (bA x))))))]) hx hb dJ6_bitCount_0f7a4_47 rfl hl (by decide) rfl (fun ls hl => ?_)
  refine lv_iload_n hx hb dJ6_bitCount_0f7a4_48 rfl (lv_at hl 0 rfl) ?_
  refine lv_bipush (v := nI (63)) hx hb dJ6_bitCount_0f7a4_49 (by decide) ?_
  refine lv_iand hx hb dJ6_bitCount_0f7a4_51 ?_
  exact ro_iret hx hb hr rfl dJ6_bitCount_0f7a4_52 hlocks
set_option maxHeartbeats 4000000 in
set_option maxRecDepth 100000 in
theorem c_J13_bitCount_95d88 (l : Launch) (dC : Nat → ClassId) (dI : Nat → Nat → Nat)  (x : Int64)  : Met l yJ13_bitCount_95d88 wsJ13_bitCount_95d88 ({ frames := 0, cells := 0, slots := 0, locals := 0 }) (va_Pc [.long (x)] (ro_B (dC, dI) vwCl [] [])) (k2_QcV (.int (bc64 x))) 0 0 (fun _ => False) := by
  refine ro_Met (cc := cJ13_bitCount_95d88) (maxL := 2) (ret := (some .int)) (by decide) rfl (Nat.le_of_ble_eq_true rfl) ?_
  intro pr en s m below meth co ls hx hb hml hr hlocks hown hts hP hK hl
  have hl : lv_has ls 2 [(0, .long (x))] := hl
  have hown : s.vm.findClass RJ13 = some m.cls := hown
  refine lv_lload_n hx hb dJ13_bitCount_95d88_0 rfl (lv_at hl 0 rfl) ?_
  refine lv_lload_n hx hb dJ13_bitCount_95d88_1 rfl (lv_at hl 0 rfl) ?_
  refine lv_iconst (v := nI (1)) hx hb dJ13_bitCount_95d88_2 (by decide) ?_
  refine lv_lushr hx hb dJ13_bitCount_95d88_3 rfl ?_
  refine W.eq (g2 := F0 m 4 ls [.long (((x).toUInt64 >>> ((nI (1)).toInt64.toUInt64 &&& Int64.toUInt64 63)).toInt64), .long (x)]) rfl ?_
  refine lv_ldc2 (v := 6148914691236517205) hx hb hown (hts (.constantLong RJ13 314 (6148914691236517205)) (by decide +kernel)) dJ13_bitCount_95d88_4 ?_
  refine lv_land hx hb dJ13_bitCount_95d88_7 ?_
  refine lv_lsub hx hb dJ13_bitCount_95d88_8 ?_
  refine rt_l (y := (lA x)) (rfl) ?_
  refine lv_lstore_n (lv' := [(0, .long (lA x))]) hx hb dJ13_bitCount_95d88_9 rfl hl (by decide) rfl (fun ls hl => ?_)
  refine lv_lload_n hx hb dJ13_bitCount_95d88_10 rfl (lv_at hl 0 rfl) ?_
  refine lv_ldc2 (v := 3689348814741910323) hx hb hown (hts (.constantLong RJ13 316 (3689348814741910323)) (by decide +kernel)) dJ13_bitCount_95d88_11 ?_
  refine lv_land hx hb dJ13_bitCount_95d88_14 ?_
  refine lv_lload_n hx hb dJ13_bitCount_95d88_15 rfl (lv_at hl 0 rfl) ?_
  refine lv_iconst (v := nI (2)) hx hb dJ13_bitCount_95d88_16 (by decide) ?_
  refine lv_lushr hx hb dJ13_bitCount_95d88_17 rfl ?_
  refine W.eq (g2 := F0 m 18 ls [.long (((lA x).toUInt64 >>> ((nI (2)).toInt64.toUInt64 &&& Int64.toUInt64 63)).toInt64), .long ((lA x) &&& ((3689348814741910323)))]) rfl ?_
  refine lv_ldc2 (v := 3689348814741910323) hx hb hown (hts (.constantLong RJ13 316 (3689348814741910323)) (by decide +kernel)) dJ13_bitCount_95d88_18 ?_
  refine lv_land hx hb dJ13_bitCount_95d88_21 ?_
  refine lv_ladd hx hb dJ13_bitCount_95d88_22 ?_
  refine rt_l (y := (lB (lA x))) (rfl) ?_
  refine lv_lstore_n (lv' := [(0, .long (lB (lA x)))]) hx hb dJ13_bitCount_95d88_23 rfl hl (by decide) rfl (fun ls hl => ?_)
  refine lv_lload_n hx hb dJ13_bitCount_95d88_24 rfl (lv_at hl 0 rfl) ?_
  refine lv_lload_n hx hb dJ13_bitCount_95d88_25 rfl (lv_at hl 0 rfl) ?_
  refine lv_iconst (v := nI (4)) hx hb dJ13_bitCount_95d88_26 (by decide) ?_
  refine lv_lushr hx hb dJ13_bitCount_95d88_27 rfl ?_
  refine W.eq (g2 := F0 m 28 ls [.long (((lB (lA x)).toUInt64 >>> ((nI (4)).toInt64.toUInt64 &&& Int64.toUInt64 63)).toInt64), .long (lB (lA x))]) rfl ?_
  refine lv_ladd hx hb dJ13_bitCount_95d88_28 ?_
  refine lv_ldc2 (v := 1085102592571150095) hx hb hown (hts (.constantLong RJ13 318 (1085102592571150095)) (by decide +kernel)) dJ13_bitCount_95d88_29 ?_
  refine lv_land hx hb dJ13_bitCount_95d88_32 ?_
  refine rt_l (y := (lC (lB (lA x)))) (rfl) ?_
  refine lv_lstore_n (lv' := [(0, .long (lC (lB (lA x))))]) hx hb dJ13_bitCount_95d88_33 rfl hl (by decide) rfl (fun ls hl => ?_)
  refine lv_lload_n hx hb dJ13_bitCount_95d88_34 rfl (lv_at hl 0 rfl) ?_
  refine lv_lload_n hx hb dJ13_bitCount_95d88_35 rfl (lv_at hl 0 rfl) ?_
  refine lv_bipush (v := nI (8)) hx hb dJ13_bitCount_95d88_36 (by decide) ?_
  refine lv_lushr hx hb dJ13_bitCount_95d88_38 rfl ?_
  refine W.eq (g2 := F0 m 39 ls [.long (((lC (lB (lA x))).toUInt64 >>> ((nI (8)).toInt64.toUInt64 &&& Int64.toUInt64 63)).toInt64), .long (lC (lB (lA x)))]) rfl ?_
  refine lv_ladd hx hb dJ13_bitCount_95d88_39 ?_
  refine rt_l (y := (lD (lC (lB (lA x))))) (rfl) ?_
  refine lv_lstore_n (lv' := [(0, .long (lD (lC (lB (lA x)))))]) hx hb dJ13_bitCount_95d88_40 rfl hl (by decide) rfl (fun ls hl => ?_)
  refine lv_lload_n hx hb dJ13_bitCount_95d88_41 rfl (lv_at hl 0 rfl) ?_
  refine lv_lload_n hx hb dJ13_bitCount_95d88_42 rfl (lv_at hl 0 rfl) ?_
  refine lv_bipush (v := nI (16)) hx hb dJ13_bitCount_95d88_43 (by decide) ?_
  refine lv_lushr hx hb dJ13_bitCount_95d88_45 rfl ?_
  refine W.eq (g2 := F0 m 46 ls [.long (((lD (lC (lB (lA x)))).toUInt64 >>> ((nI (16)).toInt64.toUInt64 &&& Int64.toUInt64 63)).toInt64), .long (lD (lC (lB (lA x))))]) rfl ?_
  refine lv_ladd hx hb dJ13_bitCount_95d88_46 ?_
  refine rt_l (y := (lE (lD (lC (lB (lA x)))))) (rfl) ?_
  refine lv_lstore_n (lv' := [(0, .long (lE (lD (lC (lB (lA x))))))]) hx hb dJ13_bitCount_95d88_47 rfl hl (by decide) rfl (fun ls hl => ?_)
  refine lv_lload_n hx hb dJ13_bitCount_95d88_48 rfl (lv_at hl 0 rfl) ?_
  refine lv_lload_n hx hb dJ13_bitCount_95d88_49 rfl (lv_at hl 0 rfl) ?_
  refine lv_bipush (v := nI (32)) hx hb dJ13_bitCount_95d88_50 (by decide) ?_
  refine lv_lushr hx hb dJ13_bitCount_95d88_52 rfl ?_
  refine W.eq (g2 := F0 m 53 ls [.long (((lE (lD (lC (lB (lA x))))).toUInt64 >>> ((nI (32)).toInt64.toUInt64 &&& Int64.toUInt64 63)).toInt64), .long (lE (lD (lC (lB (lA x)))))]) rfl ?_
  refine lv_ladd hx hb dJ13_bitCount_95d88_53 ?_
  refine rt_l (y := (lF (lE (lD (lC (lB (lA x))))))) (rfl) ?_
  refine lv_lstore_n (lv' := [(0, .long (lF (lE (lD (lC (lB (lA x)))))))]) hx hb dJ13_bitCount_95d88_54 rfl hl (by decide) rfl (fun ls hl => ?_)
  refine lv_lload_n hx hb dJ13_bitCount_95d88_55 rfl (lv_at hl 0 rfl) ?_
  refine lv_l2i (v := (lF (lE (lD (lC (lB (lA x)))))).toInt32) hx hb dJ13_bitCount_95d88_56 rfl ?_
  refine lv_bipush (v := nI (127)) hx hb dJ13_bitCount_95d88_57 (by decide) ?_
  refine lv_iand hx hb dJ13_bitCount_95d88_59 ?_
  exact ro_iret hx hb hr rfl dJ13_bitCount_95d88_60 hlocks
set_option maxHeartbeats 4000000 in
set_option maxRecDepth 100000 in
theorem c_X2_bitOf (l : Launch) (dC : Nat → ClassId) (dI : Nat → Nat → Nat)  (p : Nat)  : Met l yX2_bitOf wsX2_bitOf ({ frames := 0, cells := 0, slots := 0, locals := 0 }) (va_Pc [.int (nI (p))] (ro_B (dC, dI) vwCl [] [])) (k2_QcV (.long (bo p))) 0 0 (fun _ => False) := by
  refine ro_Met (cc := cX2_bitOf) (maxL := 1) (ret := (some .long)) (by decide) rfl (Nat.le_of_ble_eq_true rfl) ?_
  intro pr en s m below meth co ls hx hb hml hr hlocks hown hts hP hK hl
  have hl : lv_has ls 1 [(0, .int (nI (p)))] := hl
  have hown : s.vm.findClass RX2 = some m.cls := hown
  refine lv_lconst (v := lI 1) hx hb dX2_bitOf_0 (by decide) ?_
  refine lv_iload_n hx hb dX2_bitOf_1 rfl (lv_at hl 0 rfl) ?_
  refine lv_lshl (v := (lI (1)) <<< ((nI (p)).toInt64 &&& 63)) hx hb dX2_bitOf_2 rfl ?_
  exact ro_lret hx hb hr rfl dX2_bitOf_3 hlocks
set_option maxHeartbeats 4000000 in
set_option maxRecDepth 100000 in
theorem c_X2_coveredBits (l : Launch) (dC : Nat → ClassId) (dI : Nat → Nat → Nat) (cI cL cZ : ClassId) (a : Nat → Nat) (v : SV) (t j : Nat) (hv : okS v) (ht : t < 200) (hj : j < 32) : Met l yX2_coveredBits wsX2_coveredBits ({ frames := 4, cells := 0, slots := 0, locals := 89 }) (va_Pc [.ref (a 0), .int (nI (t)), .int (nI (j))] (ro_B (dC, dI) vwCl (wS cI cL a v) (tyS cI cL cZ))) (k2_QcV (.int (cbi v.1 t j))) 0 0 (fun _ => False) := by
  refine ro_Met (cc := cX2_coveredBits) (maxL := 6) (ret := (some .int)) (by decide) rfl (Nat.le_of_ble_eq_true rfl) ?_
  intro pr en s m below meth co ls hx hb hml hr hlocks hown hts hP hK hl
  have hl : lv_has ls 6 [(0, .ref (a 0)), (1, .int (nI (t))), (2, .int (nI (j)))] := hl
  have hown : s.vm.findClass RX2 = some m.cls := hown
  have hvp : sPn v ≤ 60 ∧ sTn v ≤ 60 ∧ sTm v ≤ 200 := ⟨hv.2.1, hv.2.2.2.1, hv.2.2.2.2.1⟩
  have hlo := low_lt hv.1 (t := t)
  have hhi := hig_lt hv.1 (t := t)
  have hle0 := lef_lt hv.1 (t := t)
  have hri := rig_lt hv.1 (t := t)
  refine lv_iload_n hx hb dX2_coveredBits_0 rfl (lv_at hl 2 rfl) ?_
  refine lv_aload_n hx hb dX2_coveredBits_1 rfl (lv_at hl 0 rfl) ?_
  refine lv_iload_n hx hb dX2_coveredBits_2 rfl (lv_at hl 1 rfl) ?_
  refine ro_V (As := [.int (nI (t))]) (rest := [.int (nI (j))]) (q0 := 0) (ci := 2) hx hb hml hown hts (c_X2_lowest l dC dI cI cL cZ a v t hv (by omega)) (cwV 1 hts gX2_coveredBits_X2_lowest rfl rfl rfl (by decide +kernel) ⟨Nat.le_of_ble_eq_true rfl, Nat.le_of_ble_eq_true rfl⟩) hK hP rfl rfl rfl hl.1 rfl (Nat.le_of_ble_eq_true rfl) dX2_coveredBits_3 ⟨Nat.zero_le _, Nat.zero_le _⟩ ?_
  have ps_1 : low v.1 t < 512 := low_lt hv.1
  refine lv_bipush (v := nI (16)) hx hb dX2_coveredBits_6 (by decide) ?_
  refine lv_idiv hx hb dX2_coveredBits_8 (by decide) ?_
  refine rt_i (y := (nI ((low v.1 t) / 16))) (pk_div (by omega) (by decide) (by decide)) ?_
  refine lv_icmp_lt (tgt := 32) hx hb dX2_coveredBits_9 (by decide) (fun c_2 => ?_) (fun c_2 => ?_)
  · skip
    have c_2 : j < (low v.1 t) / 16 := (nI_ltI (a := j) (b := (low v.1 t) / 16) (by omega) (by omega)).mp c_2
    refine lv_iconst (v := nI (0)) hx hb dX2_coveredBits_32 (by decide) ?_
    exact ro_iret hx hb hr (congrArg Value.int (by rw [cbi, if_pos (by simp [c_2]; try omega)]; rfl)) dX2_coveredBits_33 hlocks
  · skip
    have c_2 : ¬ (j < (low v.1 t) / 16) := fun hq9 => c_2 ((nI_ltI (a := j) (b := (low v.1 t) / 16) (by omega) (by omega)).mpr hq9)
    refine lv_iload_n hx hb dX2_coveredBits_12 rfl (lv_at hl 2 rfl) ?_
    refine lv_aload_n hx hb dX2_coveredBits_13 rfl (lv_at hl 0 rfl) ?_
    refine lv_iload_n hx hb dX2_coveredBits_14 rfl (lv_at hl 1 rfl) ?_
    refine ro_V (As := [.int (nI (t))]) (rest := [.int (nI (j))]) (q0 := 0) (ci := 2) hx hb hml hown hts (c_X2_highest l dC dI cI cL cZ a v t hv (by omega)) (cwV 1 hts gX2_coveredBits_X2_highest rfl rfl rfl (by decide +kernel) ⟨Nat.le_of_ble_eq_true rfl, Nat.le_of_ble_eq_true rfl⟩) hK hP rfl rfl rfl hl.1 rfl (Nat.le_of_ble_eq_true rfl) dX2_coveredBits_15 ⟨Nat.zero_le _, Nat.zero_le _⟩ ?_
    have ps_3 : hig v.1 t < 512 := hig_lt hv.1
    refine lv_bipush (v := nI (16)) hx hb dX2_coveredBits_18 (by decide) ?_
    refine lv_idiv hx hb dX2_coveredBits_20 (by decide) ?_
    refine rt_i (y := (nI ((hig v.1 t) / 16))) (pk_div (by omega) (by decide) (by decide)) ?_
    refine lv_icmp_gt (tgt := 32) hx hb dX2_coveredBits_21 (by decide) (fun c_4 => ?_) (fun c_4 => ?_)
    · skip
      have c_4 : (hig v.1 t) / 16 < j := (nI_ltI (a := (hig v.1 t) / 16) (b := j) (by omega) (by omega)).mp c_4
      refine lv_iconst (v := nI (0)) hx hb dX2_coveredBits_32 (by decide) ?_
      exact ro_iret hx hb hr (congrArg Value.int (by rw [cbi, if_pos (by simp [c_2, c_4]; try omega)]; rfl)) dX2_coveredBits_33 hlocks
    · skip
      have c_4 : ¬ ((hig v.1 t) / 16 < j) := fun hq9 => c_4 ((nI_ltI (a := (hig v.1 t) / 16) (b := j) (by omega) (by omega)).mpr hq9)
      refine lv_aload_n hx hb dX2_coveredBits_24 rfl (lv_at hl 0 rfl) ?_
      refine lv_iload_n hx hb dX2_coveredBits_25 rfl (lv_at hl 1 rfl) ?_
      refine ro_V (As := [.int (nI (t))]) (rest := []) (q0 := 0) (ci := 2) hx hb hml hown hts (c_X2_isRight l dC dI cI cL cZ a v t hv (by omega)) (cwV 1 hts gX2_coveredBits_X2_isRight rfl rfl rfl (by decide +kernel) ⟨Nat.le_of_ble_eq_true rfl, Nat.le_of_ble_eq_true rfl⟩) hK hP rfl rfl rfl hl.1 rfl (Nat.le_of_ble_eq_true rfl) dX2_coveredBits_26 ⟨Nat.zero_le _, Nat.zero_le _⟩ ?_
      refine lv_if_ne (tgt := 34) hx hb dX2_coveredBits_29 (by decide) (fun c_5 => ?_) (fun c_5 => ?_)
      · skip
        have c_5 : (rgt v.1 t) = true := bI_t c_5
        refine lv_iconst (v := nI (0)) hx hb dX2_coveredBits_34 (by decide) ?_
        refine lv_istore_n (lv' := [(3, .int (nI (0))), (0, .ref (a 0)), (1, .int (nI (t))), (2, .int (nI (j)))]) hx hb dX2_coveredBits_35 rfl hl (by decide) rfl (fun ls hl => ?_)
        refine lv_aload_n hx hb dX2_coveredBits_36 rfl (lv_at hl 1 rfl) ?_
        refine lv_iload_n hx hb dX2_coveredBits_37 rfl (lv_at hl 2 rfl) ?_
        refine ro_V (As := [.int (nI (t))]) (rest := []) (q0 := 0) (ci := 2) hx hb hml hown hts (c_X2_rightmost l dC dI cI cL cZ a v t hv (by omega)) (cwV 1 hts gX2_coveredBits_X2_rightmost rfl rfl rfl (by decide +kernel) ⟨Nat.le_of_ble_eq_true rfl, Nat.le_of_ble_eq_true rfl⟩) hK hP rfl rfl rfl hl.1 rfl (Nat.le_of_ble_eq_true rfl) dX2_coveredBits_38 ⟨Nat.zero_le _, Nat.zero_le _⟩ ?_
        have ps_6 : rig v.1 t < 512 := rig_lt hv.1
        refine lv_bipush (v := nI (16)) hx hb dX2_coveredBits_41 (by decide) ?_
        refine lv_idiv hx hb dX2_coveredBits_43 (by decide) ?_
        refine rt_i (y := (nI ((rig v.1 t) / 16))) (pk_div (by omega) (by decide) (by decide)) ?_
        refine lv_istore (lv' := [(4, .int (nI ((rig v.1 t) / 16))), (3, .int (nI (0))), (0, .ref (a 0)), (1, .int (nI (t))), (2, .int (nI (j)))]) hx hb dX2_coveredBits_44 hl (by decide) rfl (fun ls hl => ?_)
        refine lv_aload_n hx hb dX2_coveredBits_46 rfl (lv_at hl 2 rfl) ?_
        refine lv_iload_n hx hb dX2_coveredBits_47 rfl (lv_at hl 3 rfl) ?_
        refine ro_V (As := [.int (nI (t))]) (rest := []) (q0 := 0) (ci := 2) hx hb hml hown hts (c_X2_leftmost l dC dI cI cL cZ a v t hv (by omega)) (cwV 1 hts gX2_coveredBits_X2_leftmost rfl rfl rfl (by decide +kernel) ⟨Nat.le_of_ble_eq_true rfl, Nat.le_of_ble_eq_true rfl⟩) hK hP rfl rfl rfl hl.1 rfl (Nat.le_of_ble_eq_true rfl) dX2_coveredBits_48 ⟨Nat.zero_le _, Nat.zero_le _⟩ ?_
        have ps_7 : lef v.1 t < 512 := lef_lt hv.1
        refine lv_bipush (v := nI (16)) hx hb dX2_coveredBits_51 (by decide) ?_
        refine lv_idiv hx hb dX2_coveredBits_53 (by decide) ?_
        refine rt_i (y := (nI ((lef v.1 t) / 16))) (pk_div (by omega) (by decide) (by decide)) ?_
        refine lv_istore (lv' := [(5, .int (nI ((lef v.1 t) / 16))), (4, .int (nI ((rig v.1 t) / 16))), (3, .int (nI (0))), (0, .ref (a 0)), (1, .int (nI (t))), (2, .int (nI (j)))]) hx hb dX2_coveredBits_54 hl (by decide) rfl (fun ls hl => ?_)
        refine lp (σ := Nat × Int32) (LV := fun (i, bt) => [(0, .ref (a 0)), (1, .int (nI (t))), (2, .int (nI (j))), (3, .int (bt)), (4, .int (nI ((rig v.1 t) / 16))), (5, .int (nI (i)))]) (I := fun k (i, bt) => i ≤ 33 ∧ lef v.1 t / 16 ≤ i ∧ (i + k = rig v.1 t / 16 + 1 ∨ (k = 0 ∧ rig v.1 t / 16 < i)) ∧ cbi v.1 t j = orb (lip v.1 t j) k i bt) (fun k (i, bt) ls hI_k hl ih_k => ?_) (rig v.1 t / 16 + 1 - lef v.1 t / 16) (lef v.1 t / 16, 0) ls ⟨by omega, by omega, by omega, by rw [cbi, if_neg (by first | (simp [c_2, c_4, c_5]; done) | (simp [c_2, c_4, c_5]; omega))]⟩ (lv_sub hl [3, 4, 5, 2, 1, 0] rfl)
        obtain ⟨hi33, hle, hk, hi⟩ := hI_k
        refine lv_iload hx hb dX2_coveredBits_56 (lv_at hl 5 rfl) ?_
        refine lv_iload hx hb dX2_coveredBits_58 (lv_at hl 4 rfl) ?_
        refine lv_icmp_gt (tgt := 93) hx hb dX2_coveredBits_60 (by decide) (fun c_8 => ?_) (fun c_8 => ?_)
        · skip
          have c_8 : (rig v.1 t) / 16 < i := (nI_ltI (a := (rig v.1 t) / 16) (b := i) (by omega) (by omega)).mp c_8
          refine lv_iload_n hx hb dX2_coveredBits_93 rfl (lv_at hl 3 rfl) ?_
          exact ro_iret hx hb hr (congrArg Value.int (by rw [hi, show k = 0 by omega]; rfl)) dX2_coveredBits_94 hlocks
        · skip
          have c_8 : ¬ ((rig v.1 t) / 16 < i) := fun hq9 => c_8 ((nI_ltI (a := (rig v.1 t) / 16) (b := i) (by omega) (by omega)).mpr hq9)
          refine lv_aload_n hx hb dX2_coveredBits_63 rfl (lv_at hl 0 rfl) ?_
          refine lv_iload_n hx hb dX2_coveredBits_64 rfl (lv_at hl 1 rfl) ?_
          refine lv_iload hx hb dX2_coveredBits_65 (lv_at hl 5 rfl) ?_
          refine ro_S (As := [.int (nI (i))]) (rest := [.int (nI (t)), .ref (a 0)]) hx hb hml hown hts (c_X2_sampleOf l dC dI  i ) (va_cwS 1 hts gX2_coveredBits_X2_sampleOf rfl rfl rfl (by decide +kernel) ⟨Nat.le_of_ble_eq_true rfl, Nat.le_of_ble_eq_true rfl⟩) (hK.sub [] rfl) (hP.sub [] rfl) rfl hl.1 rfl (Nat.le_of_ble_eq_true rfl) dX2_coveredBits_67 ⟨Nat.zero_le _, Nat.zero_le _⟩ ?_
          refine lv_iload_n hx hb dX2_coveredBits_70 rfl (lv_at hl 2 rfl) ?_
          refine ro_S (As := [.int (nI (j))]) (rest := [.int (nI (16 * i + 8)), .int (nI (t)), .ref (a 0)]) hx hb hml hown hts (c_X2_sampleOf l dC dI  j ) (va_cwS 1 hts gX2_coveredBits_X2_sampleOf rfl rfl rfl (by decide +kernel) ⟨Nat.le_of_ble_eq_true rfl, Nat.le_of_ble_eq_true rfl⟩) (hK.sub [] rfl) (hP.sub [] rfl) rfl hl.1 rfl (Nat.le_of_ble_eq_true rfl) dX2_coveredBits_71 ⟨Nat.zero_le _, Nat.zero_le _⟩ ?_
          refine ro_V (As := [.int (nI (t)), .int (nI (16 * i + 8)), .int (nI (16 * j + 8))]) (rest := []) (q0 := 0) (ci := 2) hx hb hml hown hts (c_X2_liesInsideOrOnOwnEdges l dC dI cI cL cZ a v t (16 * i + 8) (16 * j + 8) hv (by omega) (by omega) (by omega)) (cwV 3 hts gX2_coveredBits_X2_liesInsideOrOnOwnEdges rfl rfl rfl (by decide +kernel) ⟨Nat.le_of_ble_eq_true rfl, Nat.le_of_ble_eq_true rfl⟩) hK hP rfl rfl rfl hl.1 rfl (Nat.le_of_ble_eq_true rfl) dX2_coveredBits_74 ⟨Nat.zero_le _, Nat.zero_le _⟩ ?_
          refine rt_i (y := (bI (lip v.1 t j i))) rfl ?_
          refine lv_if_eq (tgt := 87) hx hb dX2_coveredBits_77 (by decide) (fun c_9 => ?_) (fun c_9 => ?_)
          · skip
            have c_9 : (lip v.1 t j i) = false := bI_f c_9
            refine lv_iinc (v := nI (i + 1)) (lv' := [(5, .int (nI (i + 1))), (0, .ref (a 0)), (1, .int (nI (t))), (2, .int (nI (j))), (3, .int (bt)), (4, .int (nI ((rig v.1 t) / 16)))]) hx hb dX2_coveredBits_87 hl (k := 5) rfl (nI_1 (i)) (by decide) rfl (fun ls hl => ?_)
            refine lv_goto (tgt := 56) hx hb dX2_coveredBits_90 (by decide) ?_
            exact ih_k (k - 1) (i + 1, bt) ls (by omega) ⟨by omega, by omega, by omega, hi.trans (by first | exact orb_t (by omega) (by assumption) | exact orb_f (by omega) (by assumption))⟩ (lv_sub hl [1, 2, 3, 4, 5, 0] rfl)
          · skip
            have c_9 : (lip v.1 t j i) = true := bI_t c_9
            refine lv_iload_n hx hb dX2_coveredBits_80 rfl (lv_at hl 3 rfl) ?_
            refine lv_iconst (v := nI (1)) hx hb dX2_coveredBits_81 (by decide) ?_
            refine lv_iload hx hb dX2_coveredBits_82 (lv_at hl 5 rfl) ?_
            refine lv_ishl hx hb dX2_coveredBits_84 ?_
            refine lv_ior hx hb dX2_coveredBits_85 ?_
            refine lv_istore_n (lv' := [(3, .int ((bt) ||| ((nI (1)) <<< ((nI (i)) &&& 31)))), (0, .ref (a 0)), (1, .int (nI (t))), (2, .int (nI (j))), (4, .int (nI ((rig v.1 t) / 16))), (5, .int (nI (i)))]) hx hb dX2_coveredBits_86 rfl hl (by decide) rfl (fun ls hl => ?_)
            refine lv_iinc (v := nI (i + 1)) (lv' := [(5, .int (nI (i + 1))), (3, .int ((bt) ||| ((nI (1)) <<< ((nI (i)) &&& 31)))), (0, .ref (a 0)), (1, .int (nI (t))), (2, .int (nI (j))), (4, .int (nI ((rig v.1 t) / 16)))]) hx hb dX2_coveredBits_87 hl (k := 5) rfl (nI_1 (i)) (by decide) rfl (fun ls hl => ?_)
            refine lv_goto (tgt := 56) hx hb dX2_coveredBits_90 (by decide) ?_
            exact ih_k (k - 1) (i + 1, (bt) ||| ((nI (1)) <<< ((nI (i)) &&& 31))) ls (by omega) ⟨by omega, by omega, by omega, hi.trans (by first | exact orb_t (by omega) (by assumption) | exact orb_f (by omega) (by assumption))⟩ (lv_sub hl [2, 3, 4, 1, 5, 0] rfl)
      · skip
        have c_5 : (rgt v.1 t) = false := bI_f c_5
        refine lv_iconst (v := nI (0)) hx hb dX2_coveredBits_32 (by decide) ?_
        exact ro_iret hx hb hr (congrArg Value.int (by rw [cbi, if_pos (by simp [c_2, c_4, c_5]; try omega)]; rfl)) dX2_coveredBits_33 hlocks
set_option maxHeartbeats 4000000 in
set_option maxRecDepth 100000 in
theorem c_X2_paintedInRow_0 (l : Launch) (dC : Nat → ClassId) (dI : Nat → Nat → Nat) (cI cL cZ : ClassId) (a : Nat → Nat) (v : SV) (j : Nat) (hv : okS v) (hj : j < 32) : Met l yX2_paintedInRow wsX2_paintedInRow ({ frames := 5, cells := 0, slots := 0, locals := 114 }) (va_Pc [.ref (a 0), .int (nI (j)), .int (nI (0))] (ro_B (dC, dI) vwCl (wS cI cL a v) (tyS cI cL cZ))) (k2_QcV (.int (pir v j 0))) 0 0 (fun _ => False) := by
  refine ro_Met (cc := cX2_paintedInRow) (maxL := 8) (ret := (some .int)) (by decide) rfl (Nat.le_of_ble_eq_true rfl) ?_
  intro pr en s m below meth co ls hx hb hml hr hlocks hown hts hP hK hl
  have hl : lv_has ls 8 [(0, .ref (a 0)), (1, .int (nI (j))), (2, .int (nI (0)))] := hl
  have hown : s.vm.findClass RX2 = some m.cls := hown
  have hvp : sPn v ≤ 60 ∧ sTn v ≤ 60 ∧ sTm v ≤ 200 := ⟨hv.2.1, hv.2.2.2.1, hv.2.2.2.2.1⟩
  refine lv_iconst (v := nI (0)) hx hb dX2_paintedInRow_0 (by decide) ?_
  refine lv_istore_n (lv' := [(3, .int (nI (0))), (0, .ref (a 0)), (1, .int (nI (j))), (2, .int (nI (0)))]) hx hb dX2_paintedInRow_1 rfl hl (by decide) rfl (fun ls hl => ?_)
  refine lv_iconst (v := nI (0)) hx hb dX2_paintedInRow_2 (by decide) ?_
  refine lv_istore (lv' := [(4, .int (nI (0))), (3, .int (nI (0))), (0, .ref (a 0)), (1, .int (nI (j))), (2, .int (nI (0)))]) hx hb dX2_paintedInRow_3 hl (by decide) rfl (fun ls hl => ?_)
  refine lv_iconst (v := nI (0)) hx hb dX2_paintedInRow_5 (by decide) ?_
  refine lv_istore (lv' := [(5, .int (nI (0))), (4, .int (nI (0))), (3, .int (nI (0))), (0, .ref (a 0)), (1, .int (nI (j))), (2, .int (nI (0)))]) hx hb dX2_paintedInRow_6 hl (by decide) rfl (fun ls hl => ?_)
  refine lv_iconst (v := nI (0)) hx hb dX2_paintedInRow_8 (by decide) ?_
  refine lv_istore (lv' := [(6, .int (nI (0))), (5, .int (nI (0))), (4, .int (nI (0))), (3, .int (nI (0))), (0, .ref (a 0)), (1, .int (nI (j))), (2, .int (nI (0)))]) hx hb dX2_paintedInRow_9 hl (by decide) rfl (fun ls hl => ?_)
  refine lp (σ := Nat × Int32 × Int32 × Int32) (LV := fun (n, cv, ag, sm) => [(0, .ref (a 0)), (1, .int (nI (j))), (2, .int (nI (0))), (3, .int (cv)), (4, .int (ag)), (5, .int (sm)), (6, .int (nI (n)))]) (I := fun k (n, cv, ag, sm) => n + k = sTn v ∧ prw v.1 (sTh v) j (sTn v) 0 0 0 0 = prw v.1 (sTh v) j k n cv ag sm) (fun k (n, cv, ag, sm) ls hI_k hl ih_k => ?_) (sTn v) (0, 0, 0, 0) ls ⟨by omega, rfl⟩ (lv_sub hl [4, 5, 6, 3, 2, 1, 0] rfl)
  obtain ⟨hk, hi⟩ := hI_k
  refine lv_iload hx hb dX2_paintedInRow_11 (lv_at hl 6 rfl) ?_
  refine lv_aload_n hx hb dX2_paintedInRow_13 rfl (lv_at hl 0 rfl) ?_
  refine va_get (D := (dC, dI)) (ci := 2) (v := .ref (a 4)) (C := RX2) (T := TX2) (N := 6) hx hb hts (by decide +kernel) hown hK hP 0 rfl rfl 1 (by decide) (hts (.fieldLink RX2 19 "TriangleSheet" "triangles" "LTriangleSheet$Triangles;") (by decide +kernel)) (fun _ h9 => h9) rfl dX2_paintedInRow_14 ?_
  refine ro_V (As := []) (rest := [.int (nI (n))]) (q0 := 4) (ci := 1) hx hb hml hown hts (c_X1_thereCount l dC dI cI cL cZ a v  ) (cwV 0 hts gX2_paintedInRow_X1_thereCount rfl rfl rfl (by decide +kernel) ⟨Nat.le_of_ble_eq_true rfl, Nat.le_of_ble_eq_true rfl⟩) hK hP rfl rfl rfl hl.1 rfl (Nat.le_of_ble_eq_true rfl) dX2_paintedInRow_17 ⟨Nat.zero_le _, Nat.zero_le _⟩ ?_
  refine lv_icmp_ge (tgt := 69) hx hb dX2_paintedInRow_20 (by decide) (fun c_1 => ?_) (fun c_1 => ?_)
  · skip
    have c_1 : sTn v ≤ n := (nI_leI (a := sTn v) (b := n) (by omega) (by omega)).mp c_1
    refine lv_iload_n hx hb dX2_paintedInRow_69 rfl (lv_at hl 2 rfl) ?_
    refine lv_lookup (x := nI (0)) (off := 26) (tgt := 96) hx hb dX2_paintedInRow_70 (by decide) (by decide) (by decide) ?_
    refine lv_iload_n hx hb dX2_paintedInRow_96 rfl (lv_at hl 3 rfl) ?_
    refine ro_S (As := [.int (cv)]) (rest := []) hx hb hml hown hts (c_J6_bitCount_0f7a4 l dC dI  cv ) (va_cwS 1 hts gX2_paintedInRow_J6_bitCount_0f7a4 rfl rfl rfl (by decide +kernel) ⟨Nat.le_of_ble_eq_true rfl, Nat.le_of_ble_eq_true rfl⟩) (hK.sub [] rfl) (hP.sub [] rfl) rfl hl.1 rfl (Nat.le_of_ble_eq_true rfl) dX2_paintedInRow_97 ⟨Nat.zero_le _, Nat.zero_le _⟩ ?_
    exact ro_iret hx hb hr (congrArg Value.int (by unfold pir; rw [hi, show k = 0 by omega]; rfl)) dX2_paintedInRow_100 hlocks
  · skip
    have c_1 : ¬ (sTn v ≤ n) := fun hq9 => c_1 ((nI_leI (a := sTn v) (b := n) (by omega) (by omega)).mpr hq9)
    refine lv_aload_n hx hb dX2_paintedInRow_23 rfl (lv_at hl 0 rfl) ?_
    refine lv_aload_n hx hb dX2_paintedInRow_24 rfl (lv_at hl 0 rfl) ?_
    refine va_get (D := (dC, dI)) (ci := 2) (v := .ref (a 4)) (C := RX2) (T := TX2) (N := 6) hx hb hts (by decide +kernel) hown hK hP 0 rfl rfl 1 (by decide) (hts (.fieldLink RX2 19 "TriangleSheet" "triangles" "LTriangleSheet$Triangles;") (by decide +kernel)) (fun _ h9 => h9) rfl dX2_paintedInRow_25 ?_
    refine lv_iload hx hb dX2_paintedInRow_28 (lv_at hl 6 rfl) ?_
    refine ro_V (As := [.int (nI (n))]) (rest := [.ref (a 0)]) (q0 := 4) (ci := 1) hx hb hml hown hts (c_X1_numberAt l dC dI cI cL cZ a v n (by omega)) (cwV 1 hts gX2_paintedInRow_X1_numberAt rfl rfl rfl (by decide +kernel) ⟨Nat.le_of_ble_eq_true rfl, Nat.le_of_ble_eq_true rfl⟩) hK hP rfl rfl rfl hl.1 rfl (Nat.le_of_ble_eq_true rfl) dX2_paintedInRow_30 ⟨Nat.zero_le _, Nat.zero_le _⟩ ?_
    refine lv_iload_n hx hb dX2_paintedInRow_33 rfl (lv_at hl 1 rfl) ?_
    refine ro_V (As := [.int (nI (sTh v n)), .int (nI (j))]) (rest := []) (q0 := 0) (ci := 2) hx hb hml hown hts (c_X2_coveredBits l dC dI cI cL cZ a v (sTh v n) j hv (hv.2.2.1 _) (by omega)) (cwV 2 hts gX2_paintedInRow_X2_coveredBits rfl rfl rfl (by decide +kernel) ⟨Nat.le_of_ble_eq_true rfl, Nat.le_of_ble_eq_true rfl⟩) hK hP rfl rfl rfl hl.1 rfl (Nat.le_of_ble_eq_true rfl) dX2_paintedInRow_34 ⟨Nat.zero_le _, Nat.zero_le _⟩ ?_
    refine lv_istore (lv' := [(7, .int (cbi v.1 (sTh v n) j)), (0, .ref (a 0)), (1, .int (nI (j))), (2, .int (nI (0))), (3, .int (cv)), (4, .int (ag)), (5, .int (sm)), (6, .int (nI (n)))]) hx hb dX2_paintedInRow_37 hl (by decide) rfl (fun ls hl => ?_)
    refine lv_iload hx hb dX2_paintedInRow_39 (lv_at hl 5 rfl) ?_
    refine lv_iload_n hx hb dX2_paintedInRow_41 rfl (lv_at hl 4 rfl) ?_
    refine lv_iload hx hb dX2_paintedInRow_42 (lv_at hl 0 rfl) ?_
    refine lv_iand hx hb dX2_paintedInRow_44 ?_
    refine lv_ior hx hb dX2_paintedInRow_45 ?_
    refine lv_istore (lv' := [(4, .int ((ag) ||| ((cv) &&& (cbi v.1 (sTh v n) j)))), (7, .int (cbi v.1 (sTh v n) j)), (0, .ref (a 0)), (1, .int (nI (j))), (2, .int (nI (0))), (3, .int (cv)), (5, .int (sm)), (6, .int (nI (n)))]) hx hb dX2_paintedInRow_46 hl (by decide) rfl (fun ls hl => ?_)
    refine lv_iload_n hx hb dX2_paintedInRow_48 rfl (lv_at hl 5 rfl) ?_
    refine lv_iload hx hb dX2_paintedInRow_49 (lv_at hl 1 rfl) ?_
    refine lv_ior hx hb dX2_paintedInRow_51 ?_
    refine lv_istore_n (lv' := [(3, .int ((cv) ||| (cbi v.1 (sTh v n) j))), (4, .int ((ag) ||| ((cv) &&& (cbi v.1 (sTh v n) j)))), (7, .int (cbi v.1 (sTh v n) j)), (0, .ref (a 0)), (1, .int (nI (j))), (2, .int (nI (0))), (5, .int (sm)), (6, .int (nI (n)))]) hx hb dX2_paintedInRow_52 rfl hl (by decide) rfl (fun ls hl => ?_)
    refine lv_iload hx hb dX2_paintedInRow_53 (lv_at hl 6 rfl) ?_
    refine lv_iload hx hb dX2_paintedInRow_55 (lv_at hl 2 rfl) ?_
    refine ro_S (As := [.int (cbi v.1 (sTh v n) j)]) (rest := [.int (sm)]) hx hb hml hown hts (c_J6_bitCount_0f7a4 l dC dI  (cbi v.1 (sTh v n) j) ) (va_cwS 1 hts gX2_paintedInRow_J6_bitCount_0f7a4 rfl rfl rfl (by decide +kernel) ⟨Nat.le_of_ble_eq_true rfl, Nat.le_of_ble_eq_true rfl⟩) (hK.sub [] rfl) (hP.sub [] rfl) rfl hl.1 rfl (Nat.le_of_ble_eq_true rfl) dX2_paintedInRow_57 ⟨Nat.zero_le _, Nat.zero_le _⟩ ?_
    refine lv_iadd hx hb dX2_paintedInRow_60 ?_
    refine lv_istore (lv' := [(5, .int ((sm) + (bc32 (cbi v.1 (sTh v n) j)))), (3, .int ((cv) ||| (cbi v.1 (sTh v n) j))), (4, .int ((ag) ||| ((cv) &&& (cbi v.1 (sTh v n) j)))), (7, .int (cbi v.1 (sTh v n) j)), (0, .ref (a 0)), (1, .int (nI (j))), (2, .int (nI (0))), (6, .int (nI (n)))]) hx hb dX2_paintedInRow_61 hl (by decide) rfl (fun ls hl => ?_)
    refine lv_iinc (v := nI (n + 1)) (lv' := [(6, .int (nI (n + 1))), (5, .int ((sm) + (bc32 (cbi v.1 (sTh v n) j)))), (3, .int ((cv) ||| (cbi v.1 (sTh v n) j))), (4, .int ((ag) ||| ((cv) &&& (cbi v.1 (sTh v n) j)))), (7, .int (cbi v.1 (sTh v n) j)), (0, .ref (a 0)), (1, .int (nI (j))), (2, .int (nI (0)))]) hx hb dX2_paintedInRow_63 hl (k := 7) rfl (nI_1 (n)) (by decide) rfl (fun ls hl => ?_)
    refine lv_goto (tgt := 11) hx hb dX2_paintedInRow_66 (by decide) ?_
    exact ih_k (k - 1) (n + 1, (cv) ||| (cbi v.1 (sTh v n) j), (ag) ||| ((cv) &&& (cbi v.1 (sTh v n) j)), (sm) + (bc32 (cbi v.1 (sTh v n) j))) ls (by omega) ⟨by omega, hi.trans (prw_s (by omega))⟩ (lv_sub hl [5, 6, 7, 2, 3, 1, 0] rfl)
set_option maxHeartbeats 4000000 in
set_option maxRecDepth 100000 in
theorem c_X2_paintedPixels_0 (l : Launch) (dC : Nat → ClassId) (dI : Nat → Nat → Nat) (cI cL cZ : ClassId) (a : Nat → Nat) (v : SV)  (hv : okS v) : Met l yX2_paintedPixels wsX2_paintedPixels ({ frames := 6, cells := 0, slots := 0, locals := 141 }) (va_Pc [.ref (a 0), .int (nI (0))] (ro_B (dC, dI) vwCl (wS cI cL a v) (tyS cI cL cZ))) (k2_QcV (.long (lI (ppx v 0)))) 0 0 (fun _ => False) := by
  refine ro_Met (cc := cX2_paintedPixels) (maxL := 5) (ret := (some .long)) (by decide) rfl (Nat.le_of_ble_eq_true rfl) ?_
  intro pr en s m below meth co ls hx hb hml hr hlocks hown hts hP hK hl
  have hl : lv_has ls 5 [(0, .ref (a 0)), (1, .int (nI (0)))] := hl
  have hown : s.vm.findClass RX2 = some m.cls := hown
  have hvp : sPn v ≤ 60 ∧ sTn v ≤ 60 ∧ sTm v ≤ 200 := ⟨hv.2.1, hv.2.2.2.1, hv.2.2.2.2.1⟩
  refine lv_lconst (v := lI 0) hx hb dX2_paintedPixels_0 (by decide) ?_
  refine lv_lstore_n (lv' := [(2, .long (lI (0))), (0, .ref (a 0)), (1, .int (nI (0)))]) hx hb dX2_paintedPixels_1 rfl hl (by decide) rfl (fun ls hl => ?_)
  refine lv_iconst (v := nI (0)) hx hb dX2_paintedPixels_2 (by decide) ?_
  refine lv_istore (lv' := [(4, .int (nI (0))), (2, .long (lI (0))), (0, .ref (a 0)), (1, .int (nI (0)))]) hx hb dX2_paintedPixels_3 hl (by decide) rfl (fun ls hl => ?_)
  refine lp (σ := Nat × Int) (LV := fun (n, sm) => [(0, .ref (a 0)), (1, .int (nI (0))), (2, .long (lI (sm))), (4, .int (nI (n)))]) (I := fun k (n, sm) => n + k = 32 ∧ ppx v 0 = sm + smZ (fun j => (pir v j 0).toInt) k n) (fun k (n, sm) ls hI_k hl ih_k => ?_) (32) (0, 0) ls ⟨by omega, by simp [ppx]⟩ (lv_sub hl [2, 3, 1, 0] rfl)
  obtain ⟨hk, hi⟩ := hI_k
  refine lv_iload hx hb dX2_paintedPixels_5 (lv_at hl 3 rfl) ?_
  refine lv_bipush (v := nI (32)) hx hb dX2_paintedPixels_7 (by decide) ?_
  refine lv_icmp_ge (tgt := 29) hx hb dX2_paintedPixels_9 (by decide) (fun c_1 => ?_) (fun c_1 => ?_)
  · skip
    have c_1 : 32 ≤ n := (nI_leI (a := 32) (b := n) (by omega) (by omega)).mp c_1
    refine lv_lload_n hx hb dX2_paintedPixels_29 rfl (lv_at hl 2 rfl) ?_
    exact ro_lret hx hb hr (congrArg (fun q => Value.long (lI q)) (by rw [hi, show k = 0 by omega]; simp [smZ])) dX2_paintedPixels_30 hlocks
  · skip
    have c_1 : ¬ (32 ≤ n) := fun hq9 => c_1 ((nI_leI (a := 32) (b := n) (by omega) (by omega)).mpr hq9)
    refine lv_lload_n hx hb dX2_paintedPixels_12 rfl (lv_at hl 2 rfl) ?_
    refine lv_aload_n hx hb dX2_paintedPixels_13 rfl (lv_at hl 0 rfl) ?_
    refine lv_iload hx hb dX2_paintedPixels_14 (lv_at hl 3 rfl) ?_
    refine lv_iload_n hx hb dX2_paintedPixels_16 rfl (lv_at hl 1 rfl) ?_
    refine ro_V (As := [.int (nI (n)), .int (nI (0))]) (rest := [.long (lI (sm))]) (q0 := 0) (ci := 2) hx hb hml hown hts (c_X2_paintedInRow_0 l dC dI cI cL cZ a v n hv (by omega)) (cwV 2 hts gX2_paintedPixels_X2_paintedInRow rfl rfl rfl (by decide +kernel) ⟨Nat.le_of_ble_eq_true rfl, Nat.le_of_ble_eq_true rfl⟩) hK hP rfl rfl rfl hl.1 rfl (Nat.le_of_ble_eq_true rfl) dX2_paintedPixels_17 ⟨Nat.zero_le _, Nat.zero_le _⟩ ?_
    refine lv_i2l (v := lI ((pir v n 0).toInt)) hx hb dX2_paintedPixels_20 (toInt_l (pir v n 0)) ?_
    refine lv_ladd hx hb dX2_paintedPixels_21 ?_
    refine rt_l (y := (lI ((sm) + ((pir v n 0).toInt)))) (lI_add (sm) ((pir v n 0).toInt)) ?_
    refine lv_lstore_n (lv' := [(2, .long (lI ((sm) + ((pir v n 0).toInt)))), (0, .ref (a 0)), (1, .int (nI (0))), (4, .int (nI (n)))]) hx hb dX2_paintedPixels_22 rfl hl (by decide) rfl (fun ls hl => ?_)
    refine lv_iinc (v := nI (n + 1)) (lv' := [(4, .int (nI (n + 1))), (2, .long (lI ((sm) + ((pir v n 0).toInt)))), (0, .ref (a 0)), (1, .int (nI (0)))]) hx hb dX2_paintedPixels_23 hl (k := 3) rfl (nI_1 (n)) (by decide) rfl (fun ls hl => ?_)
    refine lv_goto (tgt := 5) hx hb dX2_paintedPixels_26 (by decide) ?_
    exact ih_k (k - 1) (n + 1, (sm) + ((pir v n 0).toInt)) ls (by omega) ⟨by omega, by rw [hi, smZ_s (by omega)]; omega⟩ (lv_sub hl [2, 3, 1, 0] rfl)
set_option maxHeartbeats 4000000 in
set_option maxRecDepth 100000 in
theorem c_X2_painted_0 (l : Launch) (dC : Nat → ClassId) (dI : Nat → Nat → Nat) (cI cL cZ : ClassId) (a : Nat → Nat) (v : SV)  (hv : okS v) : Met l yX2_painted wsX2_painted ({ frames := 7, cells := 0, slots := 0, locals := 165 }) (va_Pc [.ref (a 0), .int (nI (0))] (ro_B (dC, dI) vwCl (wS cI cL a v) (tyS cI cL cZ))) (k2_QcV (.long (lI (ppx v 0)))) 0 0 (fun _ => False) := by
  refine ro_Met (cc := cX2_painted) (maxL := 2) (ret := (some .long)) (by decide) rfl (Nat.le_of_ble_eq_true rfl) ?_
  intro pr en s m below meth co ls hx hb hml hr hlocks hown hts hP hK hl
  have hl : lv_has ls 2 [(0, .ref (a 0)), (1, .int (nI (0)))] := hl
  have hown : s.vm.findClass RX2 = some m.cls := hown
  have hvp : sPn v ≤ 60 ∧ sTn v ≤ 60 ∧ sTm v ≤ 200 := ⟨hv.2.1, hv.2.2.2.1, hv.2.2.2.2.1⟩
  refine lv_iload_n hx hb dX2_painted_0 rfl (lv_at hl 1 rfl) ?_
  refine lv_tableIn (x := nI (0)) (off := 31) (tgt := 32) hx hb dX2_painted_1 (by decide) (by decide) (by decide) (by decide) ?_
  refine lv_aload_n hx hb dX2_painted_32 rfl (lv_at hl 0 rfl) ?_
  refine lv_iload_n hx hb dX2_painted_33 rfl (lv_at hl 1 rfl) ?_
  refine ro_V (As := [.int (nI (0))]) (rest := []) (q0 := 0) (ci := 2) hx hb hml hown hts (c_X2_paintedPixels_0 l dC dI cI cL cZ a v  hv) (cwV 1 hts gX2_painted_X2_paintedPixels rfl rfl rfl (by decide +kernel) ⟨Nat.le_of_ble_eq_true rfl, Nat.le_of_ble_eq_true rfl⟩) hK hP rfl rfl rfl hl.1 rfl (Nat.le_of_ble_eq_true rfl) dX2_painted_34 ⟨Nat.zero_le _, Nat.zero_le _⟩ ?_
  exact ro_lret hx hb hr rfl dX2_painted_37 hlocks
set_option maxHeartbeats 4000000 in
set_option maxRecDepth 100000 in
theorem c_X2_paintedInRow_1 (l : Launch) (dC : Nat → ClassId) (dI : Nat → Nat → Nat) (cI cL cZ : ClassId) (a : Nat → Nat) (v : SV) (j : Nat) (hv : okS v) (hj : j < 32) : Met l yX2_paintedInRow wsX2_paintedInRow ({ frames := 5, cells := 0, slots := 0, locals := 114 }) (va_Pc [.ref (a 0), .int (nI (j)), .int (nI (1))] (ro_B (dC, dI) vwCl (wS cI cL a v) (tyS cI cL cZ))) (k2_QcV (.int (pir v j 1))) 0 0 (fun _ => False) := by
  refine ro_Met (cc := cX2_paintedInRow) (maxL := 8) (ret := (some .int)) (by decide) rfl (Nat.le_of_ble_eq_true rfl) ?_
  intro pr en s m below meth co ls hx hb hml hr hlocks hown hts hP hK hl
  have hl : lv_has ls 8 [(0, .ref (a 0)), (1, .int (nI (j))), (2, .int (nI (1)))] := hl
  have hown : s.vm.findClass RX2 = some m.cls := hown
  have hvp : sPn v ≤ 60 ∧ sTn v ≤ 60 ∧ sTm v ≤ 200 := ⟨hv.2.1, hv.2.2.2.1, hv.2.2.2.2.1⟩
  refine lv_iconst (v := nI (0)) hx hb dX2_paintedInRow_0 (by decide) ?_
  refine lv_istore_n (lv' := [(3, .int (nI (0))), (0, .ref (a 0)), (1, .int (nI (j))), (2, .int (nI (1)))]) hx hb dX2_paintedInRow_1 rfl hl (by decide) rfl (fun ls hl => ?_)
  refine lv_iconst (v := nI (0)) hx hb dX2_paintedInRow_2 (by decide) ?_
  refine lv_istore (lv' := [(4, .int (nI (0))), (3, .int (nI (0))), (0, .ref (a 0)), (1, .int (nI (j))), (2, .int (nI (1)))]) hx hb dX2_paintedInRow_3 hl (by decide) rfl (fun ls hl => ?_)
  refine lv_iconst (v := nI (0)) hx hb dX2_paintedInRow_5 (by decide) ?_
  refine lv_istore (lv' := [(5, .int (nI (0))), (4, .int (nI (0))), (3, .int (nI (0))), (0, .ref (a 0)), (1, .int (nI (j))), (2, .int (nI (1)))]) hx hb dX2_paintedInRow_6 hl (by decide) rfl (fun ls hl => ?_)
  refine lv_iconst (v := nI (0)) hx hb dX2_paintedInRow_8 (by decide) ?_
  refine lv_istore (lv' := [(6, .int (nI (0))), (5, .int (nI (0))), (4, .int (nI (0))), (3, .int (nI (0))), (0, .ref (a 0)), (1, .int (nI (j))), (2, .int (nI (1)))]) hx hb dX2_paintedInRow_9 hl (by decide) rfl (fun ls hl => ?_)
  refine lp (σ := Nat × Int32 × Int32 × Int32) (LV := fun (n, cv, ag, sm) => [(0, .ref (a 0)), (1, .int (nI (j))), (2, .int (nI (1))), (3, .int (cv)), (4, .int (ag)), (5, .int (sm)), (6, .int (nI (n)))]) (I := fun k (n, cv, ag, sm) => n + k = sTn v ∧ prw v.1 (sTh v) j (sTn v) 0 0 0 0 = prw v.1 (sTh v) j k n cv ag sm) (fun k (n, cv, ag, sm) ls hI_k hl ih_k => ?_) (sTn v) (0, 0, 0, 0) ls ⟨by omega, rfl⟩ (lv_sub hl [4, 5, 6, 3, 2, 1, 0] rfl)
  obtain ⟨hk, hi⟩ := hI_k
  refine lv_iload hx hb dX2_paintedInRow_11 (lv_at hl 6 rfl) ?_
  refine lv_aload_n hx hb dX2_paintedInRow_13 rfl (lv_at hl 0 rfl) ?_
  refine va_get (D := (dC, dI)) (ci := 2) (v := .ref (a 4)) (C := RX2) (T := TX2) (N := 6) hx hb hts (by decide +kernel) hown hK hP 0 rfl rfl 1 (by decide) (hts (.fieldLink RX2 19 "TriangleSheet" "triangles" "LTriangleSheet$Triangles;") (by decide +kernel)) (fun _ h9 => h9) rfl dX2_paintedInRow_14 ?_
  refine ro_V (As := []) (rest := [.int (nI (n))]) (q0 := 4) (ci := 1) hx hb hml hown hts (c_X1_thereCount l dC dI cI cL cZ a v  ) (cwV 0 hts gX2_paintedInRow_X1_thereCount rfl rfl rfl (by decide +kernel) ⟨Nat.le_of_ble_eq_true rfl, Nat.le_of_ble_eq_true rfl⟩) hK hP rfl rfl rfl hl.1 rfl (Nat.le_of_ble_eq_true rfl) dX2_paintedInRow_17 ⟨Nat.zero_le _, Nat.zero_le _⟩ ?_
  refine lv_icmp_ge (tgt := 69) hx hb dX2_paintedInRow_20 (by decide) (fun c_1 => ?_) (fun c_1 => ?_)
  · skip
    have c_1 : sTn v ≤ n := (nI_leI (a := sTn v) (b := n) (by omega) (by omega)).mp c_1
    refine lv_iload_n hx hb dX2_paintedInRow_69 rfl (lv_at hl 2 rfl) ?_
    refine lv_lookup (x := nI (1)) (off := 31) (tgt := 101) hx hb dX2_paintedInRow_70 (by decide) (by decide) (by decide) ?_
    refine lv_iload hx hb dX2_paintedInRow_101 (lv_at hl 4 rfl) ?_
    refine ro_S (As := [.int (ag)]) (rest := []) hx hb hml hown hts (c_J6_bitCount_0f7a4 l dC dI  ag ) (va_cwS 1 hts gX2_paintedInRow_J6_bitCount_0f7a4 rfl rfl rfl (by decide +kernel) ⟨Nat.le_of_ble_eq_true rfl, Nat.le_of_ble_eq_true rfl⟩) (hK.sub [] rfl) (hP.sub [] rfl) rfl hl.1 rfl (Nat.le_of_ble_eq_true rfl) dX2_paintedInRow_103 ⟨Nat.zero_le _, Nat.zero_le _⟩ ?_
    exact ro_iret hx hb hr (congrArg Value.int (by unfold pir; rw [hi, show k = 0 by omega]; rfl)) dX2_paintedInRow_106 hlocks
  · skip
    have c_1 : ¬ (sTn v ≤ n) := fun hq9 => c_1 ((nI_leI (a := sTn v) (b := n) (by omega) (by omega)).mpr hq9)
    refine lv_aload_n hx hb dX2_paintedInRow_23 rfl (lv_at hl 0 rfl) ?_
    refine lv_aload_n hx hb dX2_paintedInRow_24 rfl (lv_at hl 0 rfl) ?_
    refine va_get (D := (dC, dI)) (ci := 2) (v := .ref (a 4)) (C := RX2) (T := TX2) (N := 6) hx hb hts (by decide +kernel) hown hK hP 0 rfl rfl 1 (by decide) (hts (.fieldLink RX2 19 "TriangleSheet" "triangles" "LTriangleSheet$Triangles;") (by decide +kernel)) (fun _ h9 => h9) rfl dX2_paintedInRow_25 ?_
    refine lv_iload hx hb dX2_paintedInRow_28 (lv_at hl 6 rfl) ?_
    refine ro_V (As := [.int (nI (n))]) (rest := [.ref (a 0)]) (q0 := 4) (ci := 1) hx hb hml hown hts (c_X1_numberAt l dC dI cI cL cZ a v n (by omega)) (cwV 1 hts gX2_paintedInRow_X1_numberAt rfl rfl rfl (by decide +kernel) ⟨Nat.le_of_ble_eq_true rfl, Nat.le_of_ble_eq_true rfl⟩) hK hP rfl rfl rfl hl.1 rfl (Nat.le_of_ble_eq_true rfl) dX2_paintedInRow_30 ⟨Nat.zero_le _, Nat.zero_le _⟩ ?_
    refine lv_iload_n hx hb dX2_paintedInRow_33 rfl (lv_at hl 1 rfl) ?_
    refine ro_V (As := [.int (nI (sTh v n)), .int (nI (j))]) (rest := []) (q0 := 0) (ci := 2) hx hb hml hown hts (c_X2_coveredBits l dC dI cI cL cZ a v (sTh v n) j hv (hv.2.2.1 _) (by omega)) (cwV 2 hts gX2_paintedInRow_X2_coveredBits rfl rfl rfl (by decide +kernel) ⟨Nat.le_of_ble_eq_true rfl, Nat.le_of_ble_eq_true rfl⟩) hK hP rfl rfl rfl hl.1 rfl (Nat.le_of_ble_eq_true rfl) dX2_paintedInRow_34 ⟨Nat.zero_le _, Nat.zero_le _⟩ ?_
    refine lv_istore (lv' := [(7, .int (cbi v.1 (sTh v n) j)), (0, .ref (a 0)), (1, .int (nI (j))), (2, .int (nI (1))), (3, .int (cv)), (4, .int (ag)), (5, .int (sm)), (6, .int (nI (n)))]) hx hb dX2_paintedInRow_37 hl (by decide) rfl (fun ls hl => ?_)
    refine lv_iload hx hb dX2_paintedInRow_39 (lv_at hl 5 rfl) ?_
    refine lv_iload_n hx hb dX2_paintedInRow_41 rfl (lv_at hl 4 rfl) ?_
    refine lv_iload hx hb dX2_paintedInRow_42 (lv_at hl 0 rfl) ?_
    refine lv_iand hx hb dX2_paintedInRow_44 ?_
    refine lv_ior hx hb dX2_paintedInRow_45 ?_
    refine lv_istore (lv' := [(4, .int ((ag) ||| ((cv) &&& (cbi v.1 (sTh v n) j)))), (7, .int (cbi v.1 (sTh v n) j)), (0, .ref (a 0)), (1, .int (nI (j))), (2, .int (nI (1))), (3, .int (cv)), (5, .int (sm)), (6, .int (nI (n)))]) hx hb dX2_paintedInRow_46 hl (by decide) rfl (fun ls hl => ?_)
    refine lv_iload_n hx hb dX2_paintedInRow_48 rfl (lv_at hl 5 rfl) ?_
    refine lv_iload hx hb dX2_paintedInRow_49 (lv_at hl 1 rfl) ?_
    refine lv_ior hx hb dX2_paintedInRow_51 ?_
    refine lv_istore_n (lv' := [(3, .int ((cv) ||| (cbi v.1 (sTh v n) j))), (4, .int ((ag) ||| ((cv) &&& (cbi v.1 (sTh v n) j)))), (7, .int (cbi v.1 (sTh v n) j)), (0, .ref (a 0)), (1, .int (nI (j))), (2, .int (nI (1))), (5, .int (sm)), (6, .int (nI (n)))]) hx hb dX2_paintedInRow_52 rfl hl (by decide) rfl (fun ls hl => ?_)
    refine lv_iload hx hb dX2_paintedInRow_53 (lv_at hl 6 rfl) ?_
    refine lv_iload hx hb dX2_paintedInRow_55 (lv_at hl 2 rfl) ?_
    refine ro_S (As := [.int (cbi v.1 (sTh v n) j)]) (rest := [.int (sm)]) hx hb hml hown hts (c_J6_bitCount_0f7a4 l dC dI  (cbi v.1 (sTh v n) j) ) (va_cwS 1 hts gX2_paintedInRow_J6_bitCount_0f7a4 rfl rfl rfl (by decide +kernel) ⟨Nat.le_of_ble_eq_true rfl, Nat.le_of_ble_eq_true rfl⟩) (hK.sub [] rfl) (hP.sub [] rfl) rfl hl.1 rfl (Nat.le_of_ble_eq_true rfl) dX2_paintedInRow_57 ⟨Nat.zero_le _, Nat.zero_le _⟩ ?_
    refine lv_iadd hx hb dX2_paintedInRow_60 ?_
    refine lv_istore (lv' := [(5, .int ((sm) + (bc32 (cbi v.1 (sTh v n) j)))), (3, .int ((cv) ||| (cbi v.1 (sTh v n) j))), (4, .int ((ag) ||| ((cv) &&& (cbi v.1 (sTh v n) j)))), (7, .int (cbi v.1 (sTh v n) j)), (0, .ref (a 0)), (1, .int (nI (j))), (2, .int (nI (1))), (6, .int (nI (n)))]) hx hb dX2_paintedInRow_61 hl (by decide) rfl (fun ls hl => ?_)
    refine lv_iinc (v := nI (n + 1)) (lv' := [(6, .int (nI (n + 1))), (5, .int ((sm) + (bc32 (cbi v.1 (sTh v n) j)))), (3, .int ((cv) ||| (cbi v.1 (sTh v n) j))), (4, .int ((ag) ||| ((cv) &&& (cbi v.1 (sTh v n) j)))), (7, .int (cbi v.1 (sTh v n) j)), (0, .ref (a 0)), (1, .int (nI (j))), (2, .int (nI (1)))]) hx hb dX2_paintedInRow_63 hl (k := 7) rfl (nI_1 (n)) (by decide) rfl (fun ls hl => ?_)
    refine lv_goto (tgt := 11) hx hb dX2_paintedInRow_66 (by decide) ?_
    exact ih_k (k - 1) (n + 1, (cv) ||| (cbi v.1 (sTh v n) j), (ag) ||| ((cv) &&& (cbi v.1 (sTh v n) j)), (sm) + (bc32 (cbi v.1 (sTh v n) j))) ls (by omega) ⟨by omega, hi.trans (prw_s (by omega))⟩ (lv_sub hl [5, 6, 7, 2, 3, 1, 0] rfl)
set_option maxHeartbeats 4000000 in
set_option maxRecDepth 100000 in
theorem c_X2_paintedPixels_1 (l : Launch) (dC : Nat → ClassId) (dI : Nat → Nat → Nat) (cI cL cZ : ClassId) (a : Nat → Nat) (v : SV)  (hv : okS v) : Met l yX2_paintedPixels wsX2_paintedPixels ({ frames := 6, cells := 0, slots := 0, locals := 141 }) (va_Pc [.ref (a 0), .int (nI (1))] (ro_B (dC, dI) vwCl (wS cI cL a v) (tyS cI cL cZ))) (k2_QcV (.long (lI (ppx v 1)))) 0 0 (fun _ => False) := by
  refine ro_Met (cc := cX2_paintedPixels) (maxL := 5) (ret := (some .long)) (by decide) rfl (Nat.le_of_ble_eq_true rfl) ?_
  intro pr en s m below meth co ls hx hb hml hr hlocks hown hts hP hK hl
  have hl : lv_has ls 5 [(0, .ref (a 0)), (1, .int (nI (1)))] := hl
  have hown : s.vm.findClass RX2 = some m.cls := hown
  have hvp : sPn v ≤ 60 ∧ sTn v ≤ 60 ∧ sTm v ≤ 200 := ⟨hv.2.1, hv.2.2.2.1, hv.2.2.2.2.1⟩
  refine lv_lconst (v := lI 0) hx hb dX2_paintedPixels_0 (by decide) ?_
  refine lv_lstore_n (lv' := [(2, .long (lI (0))), (0, .ref (a 0)), (1, .int (nI (1)))]) hx hb dX2_paintedPixels_1 rfl hl (by decide) rfl (fun ls hl => ?_)
  refine lv_iconst (v := nI (0)) hx hb dX2_paintedPixels_2 (by decide) ?_
  refine lv_istore (lv' := [(4, .int (nI (0))), (2, .long (lI (0))), (0, .ref (a 0)), (1, .int (nI (1)))]) hx hb dX2_paintedPixels_3 hl (by decide) rfl (fun ls hl => ?_)
  refine lp (σ := Nat × Int) (LV := fun (n, sm) => [(0, .ref (a 0)), (1, .int (nI (1))), (2, .long (lI (sm))), (4, .int (nI (n)))]) (I := fun k (n, sm) => n + k = 32 ∧ ppx v 1 = sm + smZ (fun j => (pir v j 1).toInt) k n) (fun k (n, sm) ls hI_k hl ih_k => ?_) (32) (0, 0) ls ⟨by omega, by simp [ppx]⟩ (lv_sub hl [2, 3, 1, 0] rfl)
  obtain ⟨hk, hi⟩ := hI_k
  refine lv_iload hx hb dX2_paintedPixels_5 (lv_at hl 3 rfl) ?_
  refine lv_bipush (v := nI (32)) hx hb dX2_paintedPixels_7 (by decide) ?_
  refine lv_icmp_ge (tgt := 29) hx hb dX2_paintedPixels_9 (by decide) (fun c_1 => ?_) (fun c_1 => ?_)
  · skip
    have c_1 : 32 ≤ n := (nI_leI (a := 32) (b := n) (by omega) (by omega)).mp c_1
    refine lv_lload_n hx hb dX2_paintedPixels_29 rfl (lv_at hl 2 rfl) ?_
    exact ro_lret hx hb hr (congrArg (fun q => Value.long (lI q)) (by rw [hi, show k = 0 by omega]; simp [smZ])) dX2_paintedPixels_30 hlocks
  · skip
    have c_1 : ¬ (32 ≤ n) := fun hq9 => c_1 ((nI_leI (a := 32) (b := n) (by omega) (by omega)).mpr hq9)
    refine lv_lload_n hx hb dX2_paintedPixels_12 rfl (lv_at hl 2 rfl) ?_
    refine lv_aload_n hx hb dX2_paintedPixels_13 rfl (lv_at hl 0 rfl) ?_
    refine lv_iload hx hb dX2_paintedPixels_14 (lv_at hl 3 rfl) ?_
    refine lv_iload_n hx hb dX2_paintedPixels_16 rfl (lv_at hl 1 rfl) ?_
    refine ro_V (As := [.int (nI (n)), .int (nI (1))]) (rest := [.long (lI (sm))]) (q0 := 0) (ci := 2) hx hb hml hown hts (c_X2_paintedInRow_1 l dC dI cI cL cZ a v n hv (by omega)) (cwV 2 hts gX2_paintedPixels_X2_paintedInRow rfl rfl rfl (by decide +kernel) ⟨Nat.le_of_ble_eq_true rfl, Nat.le_of_ble_eq_true rfl⟩) hK hP rfl rfl rfl hl.1 rfl (Nat.le_of_ble_eq_true rfl) dX2_paintedPixels_17 ⟨Nat.zero_le _, Nat.zero_le _⟩ ?_
    refine lv_i2l (v := lI ((pir v n 1).toInt)) hx hb dX2_paintedPixels_20 (toInt_l (pir v n 1)) ?_
    refine lv_ladd hx hb dX2_paintedPixels_21 ?_
    refine rt_l (y := (lI ((sm) + ((pir v n 1).toInt)))) (lI_add (sm) ((pir v n 1).toInt)) ?_
    refine lv_lstore_n (lv' := [(2, .long (lI ((sm) + ((pir v n 1).toInt)))), (0, .ref (a 0)), (1, .int (nI (1))), (4, .int (nI (n)))]) hx hb dX2_paintedPixels_22 rfl hl (by decide) rfl (fun ls hl => ?_)
    refine lv_iinc (v := nI (n + 1)) (lv' := [(4, .int (nI (n + 1))), (2, .long (lI ((sm) + ((pir v n 1).toInt)))), (0, .ref (a 0)), (1, .int (nI (1)))]) hx hb dX2_paintedPixels_23 hl (k := 3) rfl (nI_1 (n)) (by decide) rfl (fun ls hl => ?_)
    refine lv_goto (tgt := 5) hx hb dX2_paintedPixels_26 (by decide) ?_
    exact ih_k (k - 1) (n + 1, (sm) + ((pir v n 1).toInt)) ls (by omega) ⟨by omega, by rw [hi, smZ_s (by omega)]; omega⟩ (lv_sub hl [2, 3, 1, 0] rfl)
set_option maxHeartbeats 4000000 in
set_option maxRecDepth 100000 in
theorem c_X2_painted_1 (l : Launch) (dC : Nat → ClassId) (dI : Nat → Nat → Nat) (cI cL cZ : ClassId) (a : Nat → Nat) (v : SV)  (hv : okS v) : Met l yX2_painted wsX2_painted ({ frames := 7, cells := 0, slots := 0, locals := 165 }) (va_Pc [.ref (a 0), .int (nI (1))] (ro_B (dC, dI) vwCl (wS cI cL a v) (tyS cI cL cZ))) (k2_QcV (.long (lI (ppx v 1)))) 0 0 (fun _ => False) := by
  refine ro_Met (cc := cX2_painted) (maxL := 2) (ret := (some .long)) (by decide) rfl (Nat.le_of_ble_eq_true rfl) ?_
  intro pr en s m below meth co ls hx hb hml hr hlocks hown hts hP hK hl
  have hl : lv_has ls 2 [(0, .ref (a 0)), (1, .int (nI (1)))] := hl
  have hown : s.vm.findClass RX2 = some m.cls := hown
  have hvp : sPn v ≤ 60 ∧ sTn v ≤ 60 ∧ sTm v ≤ 200 := ⟨hv.2.1, hv.2.2.2.1, hv.2.2.2.2.1⟩
  refine lv_iload_n hx hb dX2_painted_0 rfl (lv_at hl 1 rfl) ?_
  refine lv_tableIn (x := nI (1)) (off := 31) (tgt := 32) hx hb dX2_painted_1 (by decide) (by decide) (by decide) (by decide) ?_
  refine lv_aload_n hx hb dX2_painted_32 rfl (lv_at hl 0 rfl) ?_
  refine lv_iload_n hx hb dX2_painted_33 rfl (lv_at hl 1 rfl) ?_
  refine ro_V (As := [.int (nI (1))]) (rest := []) (q0 := 0) (ci := 2) hx hb hml hown hts (c_X2_paintedPixels_1 l dC dI cI cL cZ a v  hv) (cwV 1 hts gX2_painted_X2_paintedPixels rfl rfl rfl (by decide +kernel) ⟨Nat.le_of_ble_eq_true rfl, Nat.le_of_ble_eq_true rfl⟩) hK hP rfl rfl rfl hl.1 rfl (Nat.le_of_ble_eq_true rfl) dX2_painted_34 ⟨Nat.zero_le _, Nat.zero_le _⟩ ?_
  exact ro_lret hx hb hr rfl dX2_painted_37 hlocks
set_option maxHeartbeats 4000000 in
set_option maxRecDepth 100000 in
theorem c_X2_paintedInRow_2 (l : Launch) (dC : Nat → ClassId) (dI : Nat → Nat → Nat) (cI cL cZ : ClassId) (a : Nat → Nat) (v : SV) (j : Nat) (hv : okS v) (hj : j < 32) : Met l yX2_paintedInRow wsX2_paintedInRow ({ frames := 5, cells := 0, slots := 0, locals := 114 }) (va_Pc [.ref (a 0), .int (nI (j)), .int (nI (2))] (ro_B (dC, dI) vwCl (wS cI cL a v) (tyS cI cL cZ))) (k2_QcV (.int (pir v j 2))) 0 0 (fun _ => False) := by
  refine ro_Met (cc := cX2_paintedInRow) (maxL := 8) (ret := (some .int)) (by decide) rfl (Nat.le_of_ble_eq_true rfl) ?_
  intro pr en s m below meth co ls hx hb hml hr hlocks hown hts hP hK hl
  have hl : lv_has ls 8 [(0, .ref (a 0)), (1, .int (nI (j))), (2, .int (nI (2)))] := hl
  have hown : s.vm.findClass RX2 = some m.cls := hown
  have hvp : sPn v ≤ 60 ∧ sTn v ≤ 60 ∧ sTm v ≤ 200 := ⟨hv.2.1, hv.2.2.2.1, hv.2.2.2.2.1⟩
  refine lv_iconst (v := nI (0)) hx hb dX2_paintedInRow_0 (by decide) ?_
  refine lv_istore_n (lv' := [(3, .int (nI (0))), (0, .ref (a 0)), (1, .int (nI (j))), (2, .int (nI (2)))]) hx hb dX2_paintedInRow_1 rfl hl (by decide) rfl (fun ls hl => ?_)
  refine lv_iconst (v := nI (0)) hx hb dX2_paintedInRow_2 (by decide) ?_
  refine lv_istore (lv' := [(4, .int (nI (0))), (3, .int (nI (0))), (0, .ref (a 0)), (1, .int (nI (j))), (2, .int (nI (2)))]) hx hb dX2_paintedInRow_3 hl (by decide) rfl (fun ls hl => ?_)
  refine lv_iconst (v := nI (0)) hx hb dX2_paintedInRow_5 (by decide) ?_
  refine lv_istore (lv' := [(5, .int (nI (0))), (4, .int (nI (0))), (3, .int (nI (0))), (0, .ref (a 0)), (1, .int (nI (j))), (2, .int (nI (2)))]) hx hb dX2_paintedInRow_6 hl (by decide) rfl (fun ls hl => ?_)
  refine lv_iconst (v := nI (0)) hx hb dX2_paintedInRow_8 (by decide) ?_
  refine lv_istore (lv' := [(6, .int (nI (0))), (5, .int (nI (0))), (4, .int (nI (0))), (3, .int (nI (0))), (0, .ref (a 0)), (1, .int (nI (j))), (2, .int (nI (2)))]) hx hb dX2_paintedInRow_9 hl (by decide) rfl (fun ls hl => ?_)
  refine lp (σ := Nat × Int32 × Int32 × Int32) (LV := fun (n, cv, ag, sm) => [(0, .ref (a 0)), (1, .int (nI (j))), (2, .int (nI (2))), (3, .int (cv)), (4, .int (ag)), (5, .int (sm)), (6, .int (nI (n)))]) (I := fun k (n, cv, ag, sm) => n + k = sTn v ∧ prw v.1 (sTh v) j (sTn v) 0 0 0 0 = prw v.1 (sTh v) j k n cv ag sm) (fun k (n, cv, ag, sm) ls hI_k hl ih_k => ?_) (sTn v) (0, 0, 0, 0) ls ⟨by omega, rfl⟩ (lv_sub hl [4, 5, 6, 3, 2, 1, 0] rfl)
  obtain ⟨hk, hi⟩ := hI_k
  refine lv_iload hx hb dX2_paintedInRow_11 (lv_at hl 6 rfl) ?_
  refine lv_aload_n hx hb dX2_paintedInRow_13 rfl (lv_at hl 0 rfl) ?_
  refine va_get (D := (dC, dI)) (ci := 2) (v := .ref (a 4)) (C := RX2) (T := TX2) (N := 6) hx hb hts (by decide +kernel) hown hK hP 0 rfl rfl 1 (by decide) (hts (.fieldLink RX2 19 "TriangleSheet" "triangles" "LTriangleSheet$Triangles;") (by decide +kernel)) (fun _ h9 => h9) rfl dX2_paintedInRow_14 ?_
  refine ro_V (As := []) (rest := [.int (nI (n))]) (q0 := 4) (ci := 1) hx hb hml hown hts (c_X1_thereCount l dC dI cI cL cZ a v  ) (cwV 0 hts gX2_paintedInRow_X1_thereCount rfl rfl rfl (by decide +kernel) ⟨Nat.le_of_ble_eq_true rfl, Nat.le_of_ble_eq_true rfl⟩) hK hP rfl rfl rfl hl.1 rfl (Nat.le_of_ble_eq_true rfl) dX2_paintedInRow_17 ⟨Nat.zero_le _, Nat.zero_le _⟩ ?_
  refine lv_icmp_ge (tgt := 69) hx hb dX2_paintedInRow_20 (by decide) (fun c_1 => ?_) (fun c_1 => ?_)
  · skip
    have c_1 : sTn v ≤ n := (nI_leI (a := sTn v) (b := n) (by omega) (by omega)).mp c_1
    refine lv_iload_n hx hb dX2_paintedInRow_69 rfl (lv_at hl 2 rfl) ?_
    refine lv_lookup (x := nI (2)) (off := 37) (tgt := 107) hx hb dX2_paintedInRow_70 (by decide) (by decide) (by decide) ?_
    refine lv_iload hx hb dX2_paintedInRow_107 (lv_at hl 5 rfl) ?_
    exact ro_iret hx hb hr (congrArg Value.int (by unfold pir; rw [hi, show k = 0 by omega]; rfl)) dX2_paintedInRow_109 hlocks
  · skip
    have c_1 : ¬ (sTn v ≤ n) := fun hq9 => c_1 ((nI_leI (a := sTn v) (b := n) (by omega) (by omega)).mpr hq9)
    refine lv_aload_n hx hb dX2_paintedInRow_23 rfl (lv_at hl 0 rfl) ?_
    refine lv_aload_n hx hb dX2_paintedInRow_24 rfl (lv_at hl 0 rfl) ?_
    refine va_get (D := (dC, dI)) (ci := 2) (v := .ref (a 4)) (C := RX2) (T := TX2) (N := 6) hx hb hts (by decide +kernel) hown hK hP 0 rfl rfl 1 (by decide) (hts (.fieldLink RX2 19 "TriangleSheet" "triangles" "LTriangleSheet$Triangles;") (by decide +kernel)) (fun _ h9 => h9) rfl dX2_paintedInRow_25 ?_
    refine lv_iload hx hb dX2_paintedInRow_28 (lv_at hl 6 rfl) ?_
    refine ro_V (As := [.int (nI (n))]) (rest := [.ref (a 0)]) (q0 := 4) (ci := 1) hx hb hml hown hts (c_X1_numberAt l dC dI cI cL cZ a v n (by omega)) (cwV 1 hts gX2_paintedInRow_X1_numberAt rfl rfl rfl (by decide +kernel) ⟨Nat.le_of_ble_eq_true rfl, Nat.le_of_ble_eq_true rfl⟩) hK hP rfl rfl rfl hl.1 rfl (Nat.le_of_ble_eq_true rfl) dX2_paintedInRow_30 ⟨Nat.zero_le _, Nat.zero_le _⟩ ?_
    refine lv_iload_n hx hb dX2_paintedInRow_33 rfl (lv_at hl 1 rfl) ?_
    refine ro_V (As := [.int (nI (sTh v n)), .int (nI (j))]) (rest := []) (q0 := 0) (ci := 2) hx hb hml hown hts (c_X2_coveredBits l dC dI cI cL cZ a v (sTh v n) j hv (hv.2.2.1 _) (by omega)) (cwV 2 hts gX2_paintedInRow_X2_coveredBits rfl rfl rfl (by decide +kernel) ⟨Nat.le_of_ble_eq_true rfl, Nat.le_of_ble_eq_true rfl⟩) hK hP rfl rfl rfl hl.1 rfl (Nat.le_of_ble_eq_true rfl) dX2_paintedInRow_34 ⟨Nat.zero_le _, Nat.zero_le _⟩ ?_
    refine lv_istore (lv' := [(7, .int (cbi v.1 (sTh v n) j)), (0, .ref (a 0)), (1, .int (nI (j))), (2, .int (nI (2))), (3, .int (cv)), (4, .int (ag)), (5, .int (sm)), (6, .int (nI (n)))]) hx hb dX2_paintedInRow_37 hl (by decide) rfl (fun ls hl => ?_)
    refine lv_iload hx hb dX2_paintedInRow_39 (lv_at hl 5 rfl) ?_
    refine lv_iload_n hx hb dX2_paintedInRow_41 rfl (lv_at hl 4 rfl) ?_
    refine lv_iload hx hb dX2_paintedInRow_42 (lv_at hl 0 rfl) ?_
    refine lv_iand hx hb dX2_paintedInRow_44 ?_
    refine lv_ior hx hb dX2_paintedInRow_45 ?_
    refine lv_istore (lv' := [(4, .int ((ag) ||| ((cv) &&& (cbi v.1 (sTh v n) j)))), (7, .int (cbi v.1 (sTh v n) j)), (0, .ref (a 0)), (1, .int (nI (j))), (2, .int (nI (2))), (3, .int (cv)), (5, .int (sm)), (6, .int (nI (n)))]) hx hb dX2_paintedInRow_46 hl (by decide) rfl (fun ls hl => ?_)
    refine lv_iload_n hx hb dX2_paintedInRow_48 rfl (lv_at hl 5 rfl) ?_
    refine lv_iload hx hb dX2_paintedInRow_49 (lv_at hl 1 rfl) ?_
    refine lv_ior hx hb dX2_paintedInRow_51 ?_
    refine lv_istore_n (lv' := [(3, .int ((cv) ||| (cbi v.1 (sTh v n) j))), (4, .int ((ag) ||| ((cv) &&& (cbi v.1 (sTh v n) j)))), (7, .int (cbi v.1 (sTh v n) j)), (0, .ref (a 0)), (1, .int (nI (j))), (2, .int (nI (2))), (5, .int (sm)), (6, .int (nI (n)))]) hx hb dX2_paintedInRow_52 rfl hl (by decide) rfl (fun ls hl => ?_)
    refine lv_iload hx hb dX2_paintedInRow_53 (lv_at hl 6 rfl) ?_
    refine lv_iload hx hb dX2_paintedInRow_55 (lv_at hl 2 rfl) ?_
    refine ro_S (As := [.int (cbi v.1 (sTh v n) j)]) (rest := [.int (sm)]) hx hb hml hown hts (c_J6_bitCount_0f7a4 l dC dI  (cbi v.1 (sTh v n) j) ) (va_cwS 1 hts gX2_paintedInRow_J6_bitCount_0f7a4 rfl rfl rfl (by decide +kernel) ⟨Nat.le_of_ble_eq_true rfl, Nat.le_of_ble_eq_true rfl⟩) (hK.sub [] rfl) (hP.sub [] rfl) rfl hl.1 rfl (Nat.le_of_ble_eq_true rfl) dX2_paintedInRow_57 ⟨Nat.zero_le _, Nat.zero_le _⟩ ?_
    refine lv_iadd hx hb dX2_paintedInRow_60 ?_
    refine lv_istore (lv' := [(5, .int ((sm) + (bc32 (cbi v.1 (sTh v n) j)))), (3, .int ((cv) ||| (cbi v.1 (sTh v n) j))), (4, .int ((ag) ||| ((cv) &&& (cbi v.1 (sTh v n) j)))), (7, .int (cbi v.1 (sTh v n) j)), (0, .ref (a 0)), (1, .int (nI (j))), (2, .int (nI (2))), (6, .int (nI (n)))]) hx hb dX2_paintedInRow_61 hl (by decide) rfl (fun ls hl => ?_)
    refine lv_iinc (v := nI (n + 1)) (lv' := [(6, .int (nI (n + 1))), (5, .int ((sm) + (bc32 (cbi v.1 (sTh v n) j)))), (3, .int ((cv) ||| (cbi v.1 (sTh v n) j))), (4, .int ((ag) ||| ((cv) &&& (cbi v.1 (sTh v n) j)))), (7, .int (cbi v.1 (sTh v n) j)), (0, .ref (a 0)), (1, .int (nI (j))), (2, .int (nI (2)))]) hx hb dX2_paintedInRow_63 hl (k := 7) rfl (nI_1 (n)) (by decide) rfl (fun ls hl => ?_)
    refine lv_goto (tgt := 11) hx hb dX2_paintedInRow_66 (by decide) ?_
    exact ih_k (k - 1) (n + 1, (cv) ||| (cbi v.1 (sTh v n) j), (ag) ||| ((cv) &&& (cbi v.1 (sTh v n) j)), (sm) + (bc32 (cbi v.1 (sTh v n) j))) ls (by omega) ⟨by omega, hi.trans (prw_s (by omega))⟩ (lv_sub hl [5, 6, 7, 2, 3, 1, 0] rfl)
set_option maxHeartbeats 4000000 in
set_option maxRecDepth 100000 in
theorem c_X2_paintedPixels_2 (l : Launch) (dC : Nat → ClassId) (dI : Nat → Nat → Nat) (cI cL cZ : ClassId) (a : Nat → Nat) (v : SV)  (hv : okS v) : Met l yX2_paintedPixels wsX2_paintedPixels ({ frames := 6, cells := 0, slots := 0, locals := 141 }) (va_Pc [.ref (a 0), .int (nI (2))] (ro_B (dC, dI) vwCl (wS cI cL a v) (tyS cI cL cZ))) (k2_QcV (.long (lI (ppx v 2)))) 0 0 (fun _ => False) := by
  refine ro_Met (cc := cX2_paintedPixels) (maxL := 5) (ret := (some .long)) (by decide) rfl (Nat.le_of_ble_eq_true rfl) ?_
  intro pr en s m below meth co ls hx hb hml hr hlocks hown hts hP hK hl
  have hl : lv_has ls 5 [(0, .ref (a 0)), (1, .int (nI (2)))] := hl
  have hown : s.vm.findClass RX2 = some m.cls := hown
  have hvp : sPn v ≤ 60 ∧ sTn v ≤ 60 ∧ sTm v ≤ 200 := ⟨hv.2.1, hv.2.2.2.1, hv.2.2.2.2.1⟩
  refine lv_lconst (v := lI 0) hx hb dX2_paintedPixels_0 (by decide) ?_
  refine lv_lstore_n (lv' := [(2, .long (lI (0))), (0, .ref (a 0)), (1, .int (nI (2)))]) hx hb dX2_paintedPixels_1 rfl hl (by decide) rfl (fun ls hl => ?_)
  refine lv_iconst (v := nI (0)) hx hb dX2_paintedPixels_2 (by decide) ?_
  refine lv_istore (lv' := [(4, .int (nI (0))), (2, .long (lI (0))), (0, .ref (a 0)), (1, .int (nI (2)))]) hx hb dX2_paintedPixels_3 hl (by decide) rfl (fun ls hl => ?_)
  refine lp (σ := Nat × Int) (LV := fun (n, sm) => [(0, .ref (a 0)), (1, .int (nI (2))), (2, .long (lI (sm))), (4, .int (nI (n)))]) (I := fun k (n, sm) => n + k = 32 ∧ ppx v 2 = sm + smZ (fun j => (pir v j 2).toInt) k n) (fun k (n, sm) ls hI_k hl ih_k => ?_) (32) (0, 0) ls ⟨by omega, by simp [ppx]⟩ (lv_sub hl [2, 3, 1, 0] rfl)
  obtain ⟨hk, hi⟩ := hI_k
  refine lv_iload hx hb dX2_paintedPixels_5 (lv_at hl 3 rfl) ?_
  refine lv_bipush (v := nI (32)) hx hb dX2_paintedPixels_7 (by decide) ?_
  refine lv_icmp_ge (tgt := 29) hx hb dX2_paintedPixels_9 (by decide) (fun c_1 => ?_) (fun c_1 => ?_)
  · skip
    have c_1 : 32 ≤ n := (nI_leI (a := 32) (b := n) (by omega) (by omega)).mp c_1
    refine lv_lload_n hx hb dX2_paintedPixels_29 rfl (lv_at hl 2 rfl) ?_
    exact ro_lret hx hb hr (congrArg (fun q => Value.long (lI q)) (by rw [hi, show k = 0 by omega]; simp [smZ])) dX2_paintedPixels_30 hlocks
  · skip
    have c_1 : ¬ (32 ≤ n) := fun hq9 => c_1 ((nI_leI (a := 32) (b := n) (by omega) (by omega)).mpr hq9)
    refine lv_lload_n hx hb dX2_paintedPixels_12 rfl (lv_at hl 2 rfl) ?_
    refine lv_aload_n hx hb dX2_paintedPixels_13 rfl (lv_at hl 0 rfl) ?_
    refine lv_iload hx hb dX2_paintedPixels_14 (lv_at hl 3 rfl) ?_
    refine lv_iload_n hx hb dX2_paintedPixels_16 rfl (lv_at hl 1 rfl) ?_
    refine ro_V (As := [.int (nI (n)), .int (nI (2))]) (rest := [.long (lI (sm))]) (q0 := 0) (ci := 2) hx hb hml hown hts (c_X2_paintedInRow_2 l dC dI cI cL cZ a v n hv (by omega)) (cwV 2 hts gX2_paintedPixels_X2_paintedInRow rfl rfl rfl (by decide +kernel) ⟨Nat.le_of_ble_eq_true rfl, Nat.le_of_ble_eq_true rfl⟩) hK hP rfl rfl rfl hl.1 rfl (Nat.le_of_ble_eq_true rfl) dX2_paintedPixels_17 ⟨Nat.zero_le _, Nat.zero_le _⟩ ?_
    refine lv_i2l (v := lI ((pir v n 2).toInt)) hx hb dX2_paintedPixels_20 (toInt_l (pir v n 2)) ?_
    refine lv_ladd hx hb dX2_paintedPixels_21 ?_
    refine rt_l (y := (lI ((sm) + ((pir v n 2).toInt)))) (lI_add (sm) ((pir v n 2).toInt)) ?_
    refine lv_lstore_n (lv' := [(2, .long (lI ((sm) + ((pir v n 2).toInt)))), (0, .ref (a 0)), (1, .int (nI (2))), (4, .int (nI (n)))]) hx hb dX2_paintedPixels_22 rfl hl (by decide) rfl (fun ls hl => ?_)
    refine lv_iinc (v := nI (n + 1)) (lv' := [(4, .int (nI (n + 1))), (2, .long (lI ((sm) + ((pir v n 2).toInt)))), (0, .ref (a 0)), (1, .int (nI (2)))]) hx hb dX2_paintedPixels_23 hl (k := 3) rfl (nI_1 (n)) (by decide) rfl (fun ls hl => ?_)
    refine lv_goto (tgt := 5) hx hb dX2_paintedPixels_26 (by decide) ?_
    exact ih_k (k - 1) (n + 1, (sm) + ((pir v n 2).toInt)) ls (by omega) ⟨by omega, by rw [hi, smZ_s (by omega)]; omega⟩ (lv_sub hl [2, 3, 1, 0] rfl)
set_option maxHeartbeats 4000000 in
set_option maxRecDepth 100000 in
theorem c_X2_painted_2 (l : Launch) (dC : Nat → ClassId) (dI : Nat → Nat → Nat) (cI cL cZ : ClassId) (a : Nat → Nat) (v : SV)  (hv : okS v) : Met l yX2_painted wsX2_painted ({ frames := 7, cells := 0, slots := 0, locals := 165 }) (va_Pc [.ref (a 0), .int (nI (2))] (ro_B (dC, dI) vwCl (wS cI cL a v) (tyS cI cL cZ))) (k2_QcV (.long (lI (ppx v 2)))) 0 0 (fun _ => False) := by
  refine ro_Met (cc := cX2_painted) (maxL := 2) (ret := (some .long)) (by decide) rfl (Nat.le_of_ble_eq_true rfl) ?_
  intro pr en s m below meth co ls hx hb hml hr hlocks hown hts hP hK hl
  have hl : lv_has ls 2 [(0, .ref (a 0)), (1, .int (nI (2)))] := hl
  have hown : s.vm.findClass RX2 = some m.cls := hown
  have hvp : sPn v ≤ 60 ∧ sTn v ≤ 60 ∧ sTm v ≤ 200 := ⟨hv.2.1, hv.2.2.2.1, hv.2.2.2.2.1⟩
  refine lv_iload_n hx hb dX2_painted_0 rfl (lv_at hl 1 rfl) ?_
  refine lv_tableIn (x := nI (2)) (off := 31) (tgt := 32) hx hb dX2_painted_1 (by decide) (by decide) (by decide) (by decide) ?_
  refine lv_aload_n hx hb dX2_painted_32 rfl (lv_at hl 0 rfl) ?_
  refine lv_iload_n hx hb dX2_painted_33 rfl (lv_at hl 1 rfl) ?_
  refine ro_V (As := [.int (nI (2))]) (rest := []) (q0 := 0) (ci := 2) hx hb hml hown hts (c_X2_paintedPixels_2 l dC dI cI cL cZ a v  hv) (cwV 1 hts gX2_painted_X2_paintedPixels rfl rfl rfl (by decide +kernel) ⟨Nat.le_of_ble_eq_true rfl, Nat.le_of_ble_eq_true rfl⟩) hK hP rfl rfl rfl hl.1 rfl (Nat.le_of_ble_eq_true rfl) dX2_painted_34 ⟨Nat.zero_le _, Nat.zero_le _⟩ ?_
  exact ro_lret hx hb hr rfl dX2_painted_37 hlocks
set_option maxHeartbeats 4000000 in
set_option maxRecDepth 100000 in
theorem c_X2_painted_3 (l : Launch) (dC : Nat → ClassId) (dI : Nat → Nat → Nat) (cI cL cZ : ClassId) (a : Nat → Nat) (v : SV)  (hv : okS v) : Met l yX2_painted wsX2_painted ({ frames := 4, cells := 0, slots := 0, locals := 91 }) (va_Pc [.ref (a 0), .int (nI (3))] (ro_B (dC, dI) vwCl (wS cI cL a v) (tyS cI cL cZ))) (k2_QcV (.long (lI (sotC v)))) 0 0 (fun _ => False) := by
  refine ro_Met (cc := cX2_painted) (maxL := 2) (ret := (some .long)) (by decide) rfl (Nat.le_of_ble_eq_true rfl) ?_
  intro pr en s m below meth co ls hx hb hml hr hlocks hown hts hP hK hl
  have hl : lv_has ls 2 [(0, .ref (a 0)), (1, .int (nI (3)))] := hl
  have hown : s.vm.findClass RX2 = some m.cls := hown
  have hvp : sPn v ≤ 60 ∧ sTn v ≤ 60 ∧ sTm v ≤ 200 := ⟨hv.2.1, hv.2.2.2.1, hv.2.2.2.2.1⟩
  refine lv_iload_n hx hb dX2_painted_0 rfl (lv_at hl 1 rfl) ?_
  refine lv_tableIn (x := nI (3)) (off := 37) (tgt := 38) hx hb dX2_painted_1 (by decide) (by decide) (by decide) (by decide) ?_
  refine lv_aload_n hx hb dX2_painted_38 rfl (lv_at hl 0 rfl) ?_
  refine ro_V (As := []) (rest := []) (q0 := 0) (ci := 2) hx hb hml hown hts (c_X2_sumOfTurns l dC dI cI cL cZ a v  hv) (cwV 0 hts gX2_painted_X2_sumOfTurns rfl rfl rfl (by decide +kernel) ⟨Nat.le_of_ble_eq_true rfl, Nat.le_of_ble_eq_true rfl⟩) hK hP rfl rfl rfl hl.1 rfl (Nat.le_of_ble_eq_true rfl) dX2_painted_39 ⟨Nat.zero_le _, Nat.zero_le _⟩ ?_
  exact ro_lret hx hb hr rfl dX2_painted_42 hlocks
set_option maxHeartbeats 4000000 in
set_option maxRecDepth 100000 in
theorem c_X2_painted_b (l : Launch) (dC : Nat → ClassId) (dI : Nat → Nat → Nat) (cI cL cZ : ClassId) (a : Nat → Nat) (v : SV) (x : Int32) (hx9 : x.toInt < 0 ∨ 3 < x.toInt) : Met l yX2_painted wsX2_painted ({ frames := 0, cells := 0, slots := 0, locals := 0 }) (va_Pc [.ref (a 0), .int (x)] (ro_B (dC, dI) vwCl (wS cI cL a v) (tyS cI cL cZ))) (k2_QcV (.long (lI (-1)))) 0 0 (fun _ => False) := by
  refine ro_Met (cc := cX2_painted) (maxL := 2) (ret := (some .long)) (by decide) rfl (Nat.le_of_ble_eq_true rfl) ?_
  intro pr en s m below meth co ls hx hb hml hr hlocks hown hts hP hK hl
  have hl : lv_has ls 2 [(0, .ref (a 0)), (1, .int (x))] := hl
  have hown : s.vm.findClass RX2 = some m.cls := hown
  refine lv_iload_n hx hb dX2_painted_0 rfl (lv_at hl 1 rfl) ?_
  refine lv_tableOut (tgt := 43) hx hb dX2_painted_1 hx9 (by decide) ?_
  refine lv_ldc2 (v := (-1)) hx hb hown (hts (.constantLong RX2 159 (-1)) (by decide +kernel)) dX2_painted_43 ?_
  refine rt_l (y := (lI (-1))) rfl ?_
  exact ro_lret hx hb hr rfl dX2_painted_46 hlocks
set_option maxHeartbeats 4000000 in
set_option maxRecDepth 100000 in
theorem c_X2_countCornerPoints (l : Launch) (dC : Nat → ClassId) (dI : Nat → Nat → Nat) (cI cL cZ : ClassId) (a : Nat → Nat) (v : SV)  (hv : okS v) : Met l yX2_countCornerPoints wsX2_countCornerPoints ({ frames := 1, cells := 0, slots := 0, locals := 22 }) (va_Pc [.ref (a 0)] (ro_B (dC, dI) vwCl (wS cI cL a v) (tyS cI cL cZ))) (k2_QcV (.int (ccpC v))) 0 0 (fun _ => False) := by
  refine ro_Met (cc := cX2_countCornerPoints) (maxL := 6) (ret := (some .int)) (by decide) rfl (Nat.le_of_ble_eq_true rfl) ?_
  intro pr en s m below meth co ls hx hb hml hr hlocks hown hts hP hK hl
  have hl : lv_has ls 6 [(0, .ref (a 0))] := hl
  have hown : s.vm.findClass RX2 = some m.cls := hown
  have hvp : sPn v ≤ 60 ∧ sTn v ≤ 60 ∧ sTm v ≤ 200 := ⟨hv.2.1, hv.2.2.2.1, hv.2.2.2.2.1⟩
  refine lv_lconst (v := lI 0) hx hb dX2_countCornerPoints_0 (by decide) ?_
  refine lv_lstore_n (lv' := [(1, .long (lI (0))), (0, .ref (a 0))]) hx hb dX2_countCornerPoints_1 rfl hl (by decide) rfl (fun ls hl => ?_)
  refine lv_iconst (v := nI (0)) hx hb dX2_countCornerPoints_2 (by decide) ?_
  refine lv_istore_n (lv' := [(3, .int (nI (0))), (1, .long (lI (0))), (0, .ref (a 0))]) hx hb dX2_countCornerPoints_3 rfl hl (by decide) rfl (fun ls hl => ?_)
  refine lp (σ := Nat × Int64) (LV := fun (n, ac) => [(0, .ref (a 0)), (1, .long (ac)), (3, .int (nI (n)))]) (I := fun k (n, ac) => n + k = sTn v ∧ ort v.1 (sTh v) (sTn v) 0 (lI 0) = ort v.1 (sTh v) k n ac) (fun k (n, ac) ls hI_k hl ih_k => ?_) (sTn v) (0, lI 0) ls ⟨by omega, rfl⟩ (lv_sub hl [2, 1, 0] rfl)
  obtain ⟨hk, hi⟩ := hI_k
  refine lv_iload_n hx hb dX2_countCornerPoints_4 rfl (lv_at hl 2 rfl) ?_
  refine lv_aload_n hx hb dX2_countCornerPoints_5 rfl (lv_at hl 0 rfl) ?_
  refine va_get (D := (dC, dI)) (ci := 2) (v := .ref (a 4)) (C := RX2) (T := TX2) (N := 6) hx hb hts (by decide +kernel) hown hK hP 0 rfl rfl 1 (by decide) (hts (.fieldLink RX2 19 "TriangleSheet" "triangles" "LTriangleSheet$Triangles;") (by decide +kernel)) (fun _ h9 => h9) rfl dX2_countCornerPoints_6 ?_
  refine ro_V (As := []) (rest := [.int (nI (n))]) (q0 := 4) (ci := 1) hx hb hml hown hts (c_X1_thereCount l dC dI cI cL cZ a v  ) (cwV 0 hts gX2_countCornerPoints_X1_thereCount rfl rfl rfl (by decide +kernel) ⟨Nat.le_of_ble_eq_true rfl, Nat.le_of_ble_eq_true rfl⟩) hK hP rfl rfl rfl hl.1 rfl (Nat.le_of_ble_eq_true rfl) dX2_countCornerPoints_9 ⟨Nat.zero_le _, Nat.zero_le _⟩ ?_
  refine lv_icmp_ge (tgt := 63) hx hb dX2_countCornerPoints_12 (by decide) (fun c_1 => ?_) (fun c_1 => ?_)
  · skip
    have c_1 : sTn v ≤ n := (nI_leI (a := sTn v) (b := n) (by omega) (by omega)).mp c_1
    refine lv_lload_n hx hb dX2_countCornerPoints_63 rfl (lv_at hl 1 rfl) ?_
    refine ro_S (As := [.long (ac)]) (rest := []) hx hb hml hown hts (c_J13_bitCount_95d88 l dC dI  ac ) (va_cwS 1 hts gX2_countCornerPoints_J13_bitCount_95d88 rfl rfl rfl (by decide +kernel) ⟨Nat.le_of_ble_eq_true rfl, Nat.le_of_ble_eq_true rfl⟩) (hK.sub [] rfl) (hP.sub [] rfl) rfl hl.1 rfl (Nat.le_of_ble_eq_true rfl) dX2_countCornerPoints_64 ⟨Nat.zero_le _, Nat.zero_le _⟩ ?_
    exact ro_iret hx hb hr (congrArg Value.int (by rw [ccpC, hi, show k = 0 by omega]; rfl)) dX2_countCornerPoints_67 hlocks
  · skip
    have c_1 : ¬ (sTn v ≤ n) := fun hq9 => c_1 ((nI_leI (a := sTn v) (b := n) (by omega) (by omega)).mpr hq9)
    refine lv_aload_n hx hb dX2_countCornerPoints_15 rfl (lv_at hl 0 rfl) ?_
    refine va_get (D := (dC, dI)) (ci := 2) (v := .ref (a 4)) (C := RX2) (T := TX2) (N := 6) hx hb hts (by decide +kernel) hown hK hP 0 rfl rfl 1 (by decide) (hts (.fieldLink RX2 19 "TriangleSheet" "triangles" "LTriangleSheet$Triangles;") (by decide +kernel)) (fun _ h9 => h9) rfl dX2_countCornerPoints_16 ?_
    refine lv_iload_n hx hb dX2_countCornerPoints_19 rfl (lv_at hl 2 rfl) ?_
    refine ro_V (As := [.int (nI (n))]) (rest := []) (q0 := 4) (ci := 1) hx hb hml hown hts (c_X1_numberAt l dC dI cI cL cZ a v n (by omega)) (cwV 1 hts gX2_countCornerPoints_X1_numberAt rfl rfl rfl (by decide +kernel) ⟨Nat.le_of_ble_eq_true rfl, Nat.le_of_ble_eq_true rfl⟩) hK hP rfl rfl rfl hl.1 rfl (Nat.le_of_ble_eq_true rfl) dX2_countCornerPoints_20 ⟨Nat.zero_le _, Nat.zero_le _⟩ ?_
    refine lv_istore (lv' := [(4, .int (nI (sTh v n))), (0, .ref (a 0)), (1, .long (ac)), (3, .int (nI (n)))]) hx hb dX2_countCornerPoints_23 hl (by decide) rfl (fun ls hl => ?_)
    refine lv_iconst (v := nI (0)) hx hb dX2_countCornerPoints_25 (by decide) ?_
    refine lv_istore (lv' := [(5, .int (nI (0))), (4, .int (nI (sTh v n))), (0, .ref (a 0)), (1, .long (ac)), (3, .int (nI (n)))]) hx hb dX2_countCornerPoints_26 hl (by decide) rfl (fun ls hl => ?_)
    refine lp (σ := Nat × Int64) (LV := fun (m2, a2) => [(0, .ref (a 0)), (1, .long (a2)), (3, .int (nI (n))), (4, .int (nI (sTh v n))), (5, .int (nI (m2)))]) (I := fun k2 (m2, a2) => m2 + k2 = 3 ∧ orc v.1 (sTh v n) 3 0 ac = orc v.1 (sTh v n) k2 m2 a2) (fun k2 (m2, a2) ls hI_k2 hl ih_k2 => ?_) (3) (0, ac) ls ⟨by omega, rfl⟩ (lv_sub hl [2, 3, 4, 1, 0] rfl)
    obtain ⟨hk2, hi2⟩ := hI_k2
    refine lv_iload hx hb dX2_countCornerPoints_28 (lv_at hl 4 rfl) ?_
    refine lv_iconst (v := nI (3)) hx hb dX2_countCornerPoints_30 (by decide) ?_
    refine lv_icmp_ge (tgt := 57) hx hb dX2_countCornerPoints_31 (by decide) (fun c_2 => ?_) (fun c_2 => ?_)
    · skip
      have c_2 : 3 ≤ m2 := (nI_leI (a := 3) (b := m2) (by omega) (by omega)).mp c_2
      refine lv_iinc (v := nI (n + 1)) (lv' := [(3, .int (nI (n + 1))), (0, .ref (a 0)), (1, .long (a2)), (4, .int (nI (sTh v n))), (5, .int (nI (m2)))]) hx hb dX2_countCornerPoints_57 hl (k := 2) rfl (nI_1 (n)) (by decide) rfl (fun ls hl => ?_)
      refine lv_goto (tgt := 4) hx hb dX2_countCornerPoints_60 (by decide) ?_
      exact ih_k (k - 1) (n + 1, a2) ls (by omega) ⟨by omega, hi.trans (by rw [ort_s (by omega), hi2, show k2 = 0 by omega]; rfl)⟩ (lv_sub hl [1, 2, 0] rfl)
    · skip
      have c_2 : ¬ (3 ≤ m2) := fun hq9 => c_2 ((nI_leI (a := 3) (b := m2) (by omega) (by omega)).mpr hq9)
      refine lv_lload_n hx hb dX2_countCornerPoints_34 rfl (lv_at hl 1 rfl) ?_
      refine lv_aload_n hx hb dX2_countCornerPoints_35 rfl (lv_at hl 0 rfl) ?_
      refine va_get (D := (dC, dI)) (ci := 2) (v := .ref (a 4)) (C := RX2) (T := TX2) (N := 6) hx hb hts (by decide +kernel) hown hK hP 0 rfl rfl 1 (by decide) (hts (.fieldLink RX2 19 "TriangleSheet" "triangles" "LTriangleSheet$Triangles;") (by decide +kernel)) (fun _ h9 => h9) rfl dX2_countCornerPoints_36 ?_
      refine lv_iload hx hb dX2_countCornerPoints_39 (lv_at hl 3 rfl) ?_
      refine lv_iload hx hb dX2_countCornerPoints_41 (lv_at hl 4 rfl) ?_
      refine ro_V (As := [.int (nI (sTh v n)), .int (nI (m2))]) (rest := [.long (a2)]) (q0 := 4) (ci := 1) hx hb hml hown hts (c_X1_cornerOf l dC dI cI cL cZ a v (sTh v n) m2 (hv.2.2.1 _) (by omega)) (cwV 2 hts gX2_countCornerPoints_X1_cornerOf rfl rfl rfl (by decide +kernel) ⟨Nat.le_of_ble_eq_true rfl, Nat.le_of_ble_eq_true rfl⟩) hK hP rfl rfl rfl hl.1 rfl (Nat.le_of_ble_eq_true rfl) dX2_countCornerPoints_43 ⟨Nat.zero_le _, Nat.zero_le _⟩ ?_
      refine ro_S (As := [.int (nI (gc v.1 (sTh v n) m2))]) (rest := [.long (a2)]) hx hb hml hown hts (c_X2_bitOf l dC dI  (gc v.1 (sTh v n) m2) ) (va_cwS 1 hts gX2_countCornerPoints_X2_bitOf rfl rfl rfl (by decide +kernel) ⟨Nat.le_of_ble_eq_true rfl, Nat.le_of_ble_eq_true rfl⟩) (hK.sub [] rfl) (hP.sub [] rfl) rfl hl.1 rfl (Nat.le_of_ble_eq_true rfl) dX2_countCornerPoints_46 ⟨Nat.zero_le _, Nat.zero_le _⟩ ?_
      refine lv_lor hx hb dX2_countCornerPoints_49 ?_
      refine lv_lstore_n (lv' := [(1, .long ((a2) ||| (bo (gc v.1 (sTh v n) m2)))), (0, .ref (a 0)), (3, .int (nI (n))), (4, .int (nI (sTh v n))), (5, .int (nI (m2)))]) hx hb dX2_countCornerPoints_50 rfl hl (by decide) rfl (fun ls hl => ?_)
      refine lv_iinc (v := nI (m2 + 1)) (lv' := [(5, .int (nI (m2 + 1))), (1, .long ((a2) ||| (bo (gc v.1 (sTh v n) m2)))), (0, .ref (a 0)), (3, .int (nI (n))), (4, .int (nI (sTh v n)))]) hx hb dX2_countCornerPoints_51 hl (k := 4) rfl (nI_1 (m2)) (by decide) rfl (fun ls hl => ?_)
      refine lv_goto (tgt := 28) hx hb dX2_countCornerPoints_54 (by decide) ?_
      exact ih_k2 (k2 - 1) (m2 + 1, (a2) ||| (bo (gc v.1 (sTh v n) m2))) ls (by omega) ⟨by omega, hi2.trans (orc_s (by omega))⟩ (lv_sub hl [2, 1, 3, 4, 0] rfl)
set_option maxHeartbeats 4000000 in
set_option maxRecDepth 100000 in
theorem c_J7_fill_d0a16 (l : Launch) (dC : Nat → ClassId) (dI : Nat → Nat → Nat) (cI cL cZ : ClassId) (a : Nat → Nat) (v : SV) (x : Int64)  : Met l yJ7_fill_d0a16 wsJ7_fill_d0a16 ({ frames := 0, cells := 0, slots := 0, locals := 0 }) (va_Pc [.ref (a 7), .long (x)] (wr_B (dC, dI) vwCl (wS cI cL a v) (tyS cI cL cZ))) (wr_Q none (dC, dI) vwCl (wS cI cL a v) (wS cI cL a (sJoX v (fil x 60 0 (sJo v))))) 0 0 (inW (wS cI cL a v)) := by
  refine wr_Met (cc := cJ7_fill_d0a16) (maxL := 5) (ret := none) (by decide) rfl (Nat.le_of_ble_eq_true rfl) ?_
  intro pr en s m below meth co ls hx hb hml hr hlocks hown hts hP hK hD hS hl
  have hl : lv_has ls 5 [(0, .ref (a 7)), (1, .long (x))] := hl
  have hown : s.vm.findClass RJ7 = some m.cls := hown
  refine lv_iconst (v := nI (0)) hx hb dJ7_fill_d0a16_0 (by decide) ?_
  refine lv_istore_n (lv' := [(3, .int (nI (0))), (0, .ref (a 7)), (1, .long (x))]) hx hb dJ7_fill_d0a16_1 rfl hl (by decide) rfl (fun ls hl => ?_)
  refine lv_aload_n hx hb dJ7_fill_d0a16_2 rfl (lv_at hl 1 rfl) ?_
  refine va_alen hx hb hK hP 7 1 (v := nI (60)) rfl rfl rfl dJ7_fill_d0a16_3 ?_
  refine lv_istore (lv' := [(4, .int (nI (60))), (3, .int (nI (0))), (0, .ref (a 7)), (1, .long (x))]) hx hb dJ7_fill_d0a16_4 hl (by decide) rfl (fun ls hl => ?_)
  refine lpW (σ := Nat × (Nat → Int64)) (LV := fun (n, f) => [(0, .ref (a 7)), (1, .long (x)), (3, .int (nI (n))), (4, .int (nI (60)))]) (WS := fun (n, f) => wS cI cL a (((v.1.1, v.1.2.1, v.1.2.2), sPn v, sTh v, sTn v, sTm v, f, sPi v, sFa v, sFb v))) (I := fun k (n, f) => n + k = 60 ∧ fil x 60 0 (sJo v) = fil x k n f) (fun k (n, f) ls H locs hI_k hl hP hD hS ih_k => ?_) (60) (0, sJo v) ls _ _ ⟨by omega, rfl⟩ (lv_sub hl [2, 3, 1, 0] rfl) hP hD hS
  obtain ⟨hk, hi⟩ := hI_k
  have hP : va_P (dC, dI) vwCl (wS cI cL a (((v.1.1, v.1.2.1, v.1.2.2), sPn v, sTh v, sTn v, sTm v, f, sPi v, sFa v, sFb v))) H := hP
  have hD : va_D (inW (wS cI cL a v)) (wS cI cL a (((v.1.1, v.1.2.1, v.1.2.2), sPn v, sTh v, sTn v, sTm v, f, sPi v, sFa v, sFb v))) := hD
  refine lv_iload_n hx hb dJ7_fill_d0a16_6 rfl (lv_at hl 2 rfl) ?_
  refine lv_iload hx hb dJ7_fill_d0a16_7 (lv_at hl 3 rfl) ?_
  refine lv_icmp_ge (tgt := 22) hx hb dJ7_fill_d0a16_9 (by decide) (fun c_1 => ?_) (fun c_1 => ?_)
  · skip
    have c_1 : 60 ≤ n := (nI_leI (a := 60) (b := n) (by omega) (by omega)).mp c_1
    exact wr_vret hx hb hr hP hS rfl (congrArg (wS cI cL a) (by show sJoX v f = _; rw [hi, show k = 0 by omega]; rfl)) dJ7_fill_d0a16_22 hlocks
  · skip
    have c_1 : ¬ (60 ≤ n) := fun hq9 => c_1 ((nI_leI (a := 60) (b := n) (by omega) (by omega)).mpr hq9)
    refine lv_aload_n hx hb dJ7_fill_d0a16_12 rfl (lv_at hl 0 rfl) ?_
    refine lv_iload_n hx hb dJ7_fill_d0a16_13 rfl (lv_at hl 2 rfl) ?_
    refine lv_lload_n hx hb dJ7_fill_d0a16_14 rfl (lv_at hl 1 rfl) ?_
    refine la_st (k := n) hx hb hK hP hD hS 7 1 rfl rfl (by omega) (by decide) dJ7_fill_d0a16_15 (fun H locs hP hD hS => ?_)
    have hP : va_P (dC, dI) vwCl (wS cI cL a (((v.1.1, v.1.2.1, v.1.2.2), sPn v, sTh v, sTn v, sTm v, va_up f (n) (x), sPi v, sFa v, sFb v))) H := hP
    have hD : va_D (inW (wS cI cL a v)) (wS cI cL a (((v.1.1, v.1.2.1, v.1.2.2), sPn v, sTh v, sTn v, sTm v, va_up f (n) (x), sPi v, sFa v, sFb v))) := hD
    refine lv_iinc (v := nI (n + 1)) (lv' := [(3, .int (nI (n + 1))), (0, .ref (a 7)), (1, .long (x)), (4, .int (nI (60)))]) hx hb dJ7_fill_d0a16_16 hl (k := 2) rfl (nI_1 (n)) (by decide) rfl (fun ls hl => ?_)
    refine lv_goto (tgt := 6) hx hb dJ7_fill_d0a16_19 (by decide) ?_
    exact ih_k (k - 1) (n + 1, va_up f (n) (x)) ls _ _ (by omega) ⟨by omega, hi.trans (fil_s (by omega))⟩ (lv_sub hl [1, 2, 0, 3] rfl) hP hD hS
set_option maxHeartbeats 4000000 in
set_option maxRecDepth 100000 in
theorem c_X2_countDifferentEdges (l : Launch) (dC : Nat → ClassId) (dI : Nat → Nat → Nat) (cI cL cZ : ClassId) (a : Nat → Nat) (v : SV)  (hv : okS v) : Met l yX2_countDifferentEdges wsX2_countDifferentEdges ({ frames := 1, cells := 0, slots := 0, locals := 24 }) (va_Pc [.ref (a 0)] (wr_B (dC, dI) vwCl (wS cI cL a v) (tyS cI cL cZ))) (wr_Q (some (.int (cdeC v))) (dC, dI) vwCl (wS cI cL a v) (wS cI cL a (sJoX v (edJ v)))) 0 0 (inW (wS cI cL a v)) := by
  refine wr_Met (cc := cX2_countDifferentEdges) (maxL := 6) (ret := (some .int)) (by decide) rfl (Nat.le_of_ble_eq_true rfl) ?_
  intro pr en s m below meth co ls hx hb hml hr hlocks hown hts hP hK hD hS hl
  have hl : lv_has ls 6 [(0, .ref (a 0))] := hl
  have hown : s.vm.findClass RX2 = some m.cls := hown
  have hvp : sPn v ≤ 60 ∧ sTn v ≤ 60 ∧ sTm v ≤ 200 := ⟨hv.2.1, hv.2.2.2.1, hv.2.2.2.2.1⟩
  refine lv_aload_n hx hb dX2_countDifferentEdges_0 rfl (lv_at hl 0 rfl) ?_
  refine va_get (D := (dC, dI)) (ci := 2) (v := .ref (a 7)) (C := RX2) (T := TX2) (N := 6) hx hb hts (by decide +kernel) hown hK hP 0 rfl rfl 2 (by decide) (hts (.fieldLink RX2 23 "TriangleSheet" "joinedTo" "[J") (by decide +kernel)) (fun _ h9 => h9) rfl dX2_countDifferentEdges_1 ?_
  refine lv_lconst (v := lI 0) hx hb dX2_countDifferentEdges_4 (by decide) ?_
  refine wr_S (As := [.ref (a 7), .long (lI (0))]) (rest := []) hx hb hml hown hts (c_J7_fill_d0a16 l dC dI cI cL cZ a v (lI (0)) ) (va_cwS 2 hts gX2_countDifferentEdges_J7_fill_d0a16 rfl rfl rfl (by decide +kernel) ⟨Nat.le_of_ble_eq_true rfl, Nat.le_of_ble_eq_true rfl⟩) hK hP hD hS rfl rfl hl.1 rfl (Nat.le_of_ble_eq_true rfl) dX2_countDifferentEdges_5 ⟨Nat.zero_le _, Nat.zero_le _⟩ (fun H locs hP hD hS => ?_)
  have hP : va_P (dC, dI) vwCl (wS cI cL a (sJoX v (fil (lI (0)) 60 0 (sJo v)))) H := hP
  have hD : va_D (inW (wS cI cL a v)) (wS cI cL a (sJoX v (fil (lI (0)) 60 0 (sJo v)))) := hD
  refine W.eq (g2 := F0 m 8 ls []) rfl ?_
  refine lv_iconst (v := nI (0)) hx hb dX2_countDifferentEdges_8 (by decide) ?_
  refine lv_istore_n (lv' := [(1, .int (nI (0))), (0, .ref (a 0))]) hx hb dX2_countDifferentEdges_9 rfl hl (by decide) rfl (fun ls hl => ?_)
  refine lpW (σ := Nat × (Nat → Int64)) (LV := fun (n, f) => [(0, .ref (a 0)), (1, .int (nI (n)))]) (WS := fun (n, f) => wS cI cL a (((v.1.1, v.1.2.1, v.1.2.2), sPn v, sTh v, sTn v, sTm v, f, sPi v, sFa v, sFb v))) (I := fun k (n, f) => n + k = sTn v ∧ edJ v = jot v.1 (sTh v) k n f) (fun k (n, f) ls H locs hI_k hl hP hD hS ih_k => ?_) (sTn v) (0, fil (lI 0) 60 0 (sJo v)) ls _ _ ⟨by omega, rfl⟩ (lv_sub hl [1, 0] rfl) hP hD hS
  obtain ⟨hk, hi⟩ := hI_k
  have hP : va_P (dC, dI) vwCl (wS cI cL a (((v.1.1, v.1.2.1, v.1.2.2), sPn v, sTh v, sTn v, sTm v, f, sPi v, sFa v, sFb v))) H := hP
  have hD : va_D (inW (wS cI cL a v)) (wS cI cL a (((v.1.1, v.1.2.1, v.1.2.2), sPn v, sTh v, sTn v, sTm v, f, sPi v, sFa v, sFb v))) := hD
  refine lv_iload_n hx hb dX2_countDifferentEdges_10 rfl (lv_at hl 1 rfl) ?_
  refine lv_aload_n hx hb dX2_countDifferentEdges_11 rfl (lv_at hl 0 rfl) ?_
  refine va_get (D := (dC, dI)) (ci := 2) (v := .ref (a 4)) (C := RX2) (T := TX2) (N := 6) hx hb hts (by decide +kernel) hown hK hP 0 rfl rfl 1 (by decide) (hts (.fieldLink RX2 19 "TriangleSheet" "triangles" "LTriangleSheet$Triangles;") (by decide +kernel)) (fun _ h9 => h9) rfl dX2_countDifferentEdges_12 ?_
  refine ro_V (As := []) (rest := [.int (nI (n))]) (q0 := 4) (ci := 1) hx hb hml hown hts (c_X1_thereCount l dC dI cI cL cZ a (((v.1.1, v.1.2.1, v.1.2.2), sPn v, sTh v, sTn v, sTm v, f, sPi v, sFa v, sFb v))  ) (cwV 0 hts gX2_countDifferentEdges_X1_thereCount rfl rfl rfl (by decide +kernel) ⟨Nat.le_of_ble_eq_true rfl, Nat.le_of_ble_eq_true rfl⟩) hK hP rfl rfl rfl hl.1 rfl (Nat.le_of_ble_eq_true rfl) dX2_countDifferentEdges_15 ⟨Nat.zero_le _, Nat.zero_le _⟩ ?_
  refine W.eq (g2 := F0 m 18 ls [.int (nI (sTn v)), .int (nI (n))]) rfl ?_
  refine lv_icmp_ge (tgt := 98) hx hb dX2_countDifferentEdges_18 (by decide) (fun c_1 => ?_) (fun c_1 => ?_)
  · skip
    have c_1 : sTn v ≤ n := (nI_leI (a := sTn v) (b := n) (by omega) (by omega)).mp c_1
    refine lv_iconst (v := nI (0)) hx hb dX2_countDifferentEdges_98 (by decide) ?_
    refine lv_istore_n (lv' := [(1, .int (nI (0))), (0, .ref (a 0))]) hx hb dX2_countDifferentEdges_99 rfl hl (by decide) rfl (fun ls hl => ?_)
    refine lv_iconst (v := nI (0)) hx hb dX2_countDifferentEdges_100 (by decide) ?_
    refine lv_istore_n (lv' := [(2, .int (nI (0))), (1, .int (nI (0))), (0, .ref (a 0))]) hx hb dX2_countDifferentEdges_101 rfl hl (by decide) rfl (fun ls hl => ?_)
    have ef : edJ v = f := hi.trans (by rw [show k = 0 by omega]; rfl)
    refine lp (σ := Nat × Int32) (LV := fun (m2, sm) => [(0, .ref (a 0)), (1, .int (sm)), (2, .int (nI (m2)))]) (I := fun k2 (m2, sm) => m2 + k2 = 60 ∧ sme f 60 0 0 = sme f k2 m2 sm) (fun k2 (m2, sm) ls hI_k2 hl ih_k2 => ?_) (60) (0, 0) ls ⟨by omega, rfl⟩ (lv_sub hl [2, 1, 0] rfl)
    obtain ⟨hk2, hi2⟩ := hI_k2
    have ef : edJ v = f := hi.trans (by rw [show k = 0 by omega]; rfl)
    refine lv_iload_n hx hb dX2_countDifferentEdges_102 rfl (lv_at hl 2 rfl) ?_
    refine lv_bipush (v := nI (60)) hx hb dX2_countDifferentEdges_103 (by decide) ?_
    refine lv_icmp_ge (tgt := 126) hx hb dX2_countDifferentEdges_105 (by decide) (fun c_2 => ?_) (fun c_2 => ?_)
    · skip
      have c_2 : 60 ≤ m2 := (nI_leI (a := 60) (b := m2) (by omega) (by omega)).mp c_2
      refine lv_iload_n hx hb dX2_countDifferentEdges_126 rfl (lv_at hl 1 rfl) ?_
      exact wr_iret hx hb hr hP hS (congrArg some (congrArg Value.int (by rw [cdeC, ef, hi2, show k2 = 0 by omega]; rfl))) (congrArg (wS cI cL a) (by show sJoX v f = _; rw [ef])) dX2_countDifferentEdges_127 hlocks
    · skip
      have c_2 : ¬ (60 ≤ m2) := fun hq9 => c_2 ((nI_leI (a := 60) (b := m2) (by omega) (by omega)).mpr hq9)
      refine lv_iload_n hx hb dX2_countDifferentEdges_108 rfl (lv_at hl 1 rfl) ?_
      refine lv_aload_n hx hb dX2_countDifferentEdges_109 rfl (lv_at hl 0 rfl) ?_
      refine va_get (D := (dC, dI)) (ci := 2) (v := .ref (a 7)) (C := RX2) (T := TX2) (N := 6) hx hb hts (by decide +kernel) hown hK hP 0 rfl rfl 2 (by decide) (hts (.fieldLink RX2 23 "TriangleSheet" "joinedTo" "[J") (by decide +kernel)) (fun _ h9 => h9) rfl dX2_countDifferentEdges_110 ?_
      refine lv_iload_n hx hb dX2_countDifferentEdges_113 rfl (lv_at hl 2 rfl) ?_
      refine la_ld (k := m2) hx hb hK hP 7 1 rfl rfl (by omega) (by decide) dX2_countDifferentEdges_114 ?_
      refine W.eq (g2 := F0 m 115 ls [.long (f (m2)), .int (sm)]) rfl ?_
      refine ro_S (As := [.long (f (m2))]) (rest := [.int (sm)]) hx hb hml hown hts (c_J13_bitCount_95d88 l dC dI  (f (m2)) ) (va_cwS 1 hts gX2_countDifferentEdges_J13_bitCount_95d88 rfl rfl rfl (by decide +kernel) ⟨Nat.le_of_ble_eq_true rfl, Nat.le_of_ble_eq_true rfl⟩) (hK.sub [] rfl) (hP.sub [] rfl) rfl hl.1 rfl (Nat.le_of_ble_eq_true rfl) dX2_countDifferentEdges_115 ⟨Nat.zero_le _, Nat.zero_le _⟩ ?_
      refine lv_iadd hx hb dX2_countDifferentEdges_118 ?_
      refine lv_istore_n (lv' := [(1, .int ((sm) + (bc64 (f (m2))))), (0, .ref (a 0)), (2, .int (nI (m2)))]) hx hb dX2_countDifferentEdges_119 rfl hl (by decide) rfl (fun ls hl => ?_)
      refine lv_iinc (v := nI (m2 + 1)) (lv' := [(2, .int (nI (m2 + 1))), (1, .int ((sm) + (bc64 (f (m2))))), (0, .ref (a 0))]) hx hb dX2_countDifferentEdges_120 hl (k := 2) rfl (nI_1 (m2)) (by decide) rfl (fun ls hl => ?_)
      refine lv_goto (tgt := 102) hx hb dX2_countDifferentEdges_123 (by decide) ?_
      have ef : edJ v = f := hi.trans (by rw [show k = 0 by omega]; rfl)
      exact ih_k2 (k2 - 1) (m2 + 1, (sm) + (bc64 (f (m2)))) ls (by omega) ⟨by omega, hi2.trans (sme_s (by omega))⟩ (lv_sub hl [2, 1, 0] rfl)
  · skip
    have c_1 : ¬ (sTn v ≤ n) := fun hq9 => c_1 ((nI_leI (a := sTn v) (b := n) (by omega) (by omega)).mpr hq9)
    refine lv_aload_n hx hb dX2_countDifferentEdges_21 rfl (lv_at hl 0 rfl) ?_
    refine va_get (D := (dC, dI)) (ci := 2) (v := .ref (a 4)) (C := RX2) (T := TX2) (N := 6) hx hb hts (by decide +kernel) hown hK hP 0 rfl rfl 1 (by decide) (hts (.fieldLink RX2 19 "TriangleSheet" "triangles" "LTriangleSheet$Triangles;") (by decide +kernel)) (fun _ h9 => h9) rfl dX2_countDifferentEdges_22 ?_
    refine lv_iload_n hx hb dX2_countDifferentEdges_25 rfl (lv_at hl 1 rfl) ?_
    refine ro_V (As := [.int (nI (n))]) (rest := []) (q0 := 4) (ci := 1) hx hb hml hown hts (c_X1_numberAt l dC dI cI cL cZ a (((v.1.1, v.1.2.1, v.1.2.2), sPn v, sTh v, sTn v, sTm v, f, sPi v, sFa v, sFb v)) n (by omega)) (cwV 1 hts gX2_countDifferentEdges_X1_numberAt rfl rfl rfl (by decide +kernel) ⟨Nat.le_of_ble_eq_true rfl, Nat.le_of_ble_eq_true rfl⟩) hK hP rfl rfl rfl hl.1 rfl (Nat.le_of_ble_eq_true rfl) dX2_countDifferentEdges_26 ⟨Nat.zero_le _, Nat.zero_le _⟩ ?_
    refine W.eq (g2 := F0 m 29 ls [.int (nI (sTh v n))]) rfl ?_
    refine lv_istore_n (lv' := [(2, .int (nI (sTh v n))), (0, .ref (a 0)), (1, .int (nI (n)))]) hx hb dX2_countDifferentEdges_29 rfl hl (by decide) rfl (fun ls hl => ?_)
    refine lv_iconst (v := nI (0)) hx hb dX2_countDifferentEdges_30 (by decide) ?_
    refine lv_istore_n (lv' := [(3, .int (nI (0))), (2, .int (nI (sTh v n))), (0, .ref (a 0)), (1, .int (nI (n)))]) hx hb dX2_countDifferentEdges_31 rfl hl (by decide) rfl (fun ls hl => ?_)
    refine lpW (σ := Nat × (Nat → Int64)) (LV := fun (m2, f2) => [(0, .ref (a 0)), (1, .int (nI (n))), (2, .int (nI (sTh v n))), (3, .int (nI (m2)))]) (WS := fun (m2, f2) => wS cI cL a (((v.1.1, v.1.2.1, v.1.2.2), sPn v, sTh v, sTn v, sTm v, f2, sPi v, sFa v, sFb v))) (I := fun k2 (m2, f2) => m2 + k2 = 3 ∧ jok v.1 (sTh v n) 3 0 f = jok v.1 (sTh v n) k2 m2 f2) (fun k2 (m2, f2) ls H locs hI_k2 hl hP hD hS ih_k2 => ?_) (3) (0, f) ls _ _ ⟨by omega, rfl⟩ (lv_sub hl [2, 3, 1, 0] rfl) hP hD hS
    obtain ⟨hk2, hi2⟩ := hI_k2
    have hP : va_P (dC, dI) vwCl (wS cI cL a (((v.1.1, v.1.2.1, v.1.2.2), sPn v, sTh v, sTn v, sTm v, f2, sPi v, sFa v, sFb v))) H := hP
    have hD : va_D (inW (wS cI cL a v)) (wS cI cL a (((v.1.1, v.1.2.1, v.1.2.2), sPn v, sTh v, sTn v, sTm v, f2, sPi v, sFa v, sFb v))) := hD
    have hg0 := gc_lt hv.1 (t := sTh v n) (k := m2)
    have hg1 := gc_lt hv.1 (t := sTh v n) (k := m2 + 1)
    refine lv_iload_n hx hb dX2_countDifferentEdges_32 rfl (lv_at hl 3 rfl) ?_
    refine lv_iconst (v := nI (3)) hx hb dX2_countDifferentEdges_33 (by decide) ?_
    refine lv_icmp_ge (tgt := 92) hx hb dX2_countDifferentEdges_34 (by decide) (fun c_3 => ?_) (fun c_3 => ?_)
    · skip
      have c_3 : 3 ≤ m2 := (nI_leI (a := 3) (b := m2) (by omega) (by omega)).mp c_3
      refine lv_iinc (v := nI (n + 1)) (lv' := [(1, .int (nI (n + 1))), (0, .ref (a 0)), (2, .int (nI (sTh v n))), (3, .int (nI (m2)))]) hx hb dX2_countDifferentEdges_92 hl (k := 1) rfl (nI_1 (n)) (by decide) rfl (fun ls hl => ?_)
      refine lv_goto (tgt := 10) hx hb dX2_countDifferentEdges_95 (by decide) ?_
      exact ih_k (k - 1) (n + 1, f2) ls _ _ (by omega) ⟨by omega, hi.trans (by rw [jot_s (by omega), hi2, show k2 = 0 by omega]; rfl)⟩ (lv_sub hl [1, 0] rfl) hP hD hS
    · skip
      have c_3 : ¬ (3 ≤ m2) := fun hq9 => c_3 ((nI_leI (a := 3) (b := m2) (by omega) (by omega)).mpr hq9)
      refine lv_aload_n hx hb dX2_countDifferentEdges_37 rfl (lv_at hl 0 rfl) ?_
      refine va_get (D := (dC, dI)) (ci := 2) (v := .ref (a 4)) (C := RX2) (T := TX2) (N := 6) hx hb hts (by decide +kernel) hown hK hP 0 rfl rfl 1 (by decide) (hts (.fieldLink RX2 19 "TriangleSheet" "triangles" "LTriangleSheet$Triangles;") (by decide +kernel)) (fun _ h9 => h9) rfl dX2_countDifferentEdges_38 ?_
      refine lv_iload_n hx hb dX2_countDifferentEdges_41 rfl (lv_at hl 2 rfl) ?_
      refine lv_iload_n hx hb dX2_countDifferentEdges_42 rfl (lv_at hl 3 rfl) ?_
      refine ro_V (As := [.int (nI (sTh v n)), .int (nI (m2))]) (rest := []) (q0 := 4) (ci := 1) hx hb hml hown hts (c_X1_cornerOf l dC dI cI cL cZ a (((v.1.1, v.1.2.1, v.1.2.2), sPn v, sTh v, sTn v, sTm v, f2, sPi v, sFa v, sFb v)) (sTh v n) m2 (hv.2.2.1 _) (by omega)) (cwV 2 hts gX2_countDifferentEdges_X1_cornerOf rfl rfl rfl (by decide +kernel) ⟨Nat.le_of_ble_eq_true rfl, Nat.le_of_ble_eq_true rfl⟩) hK hP rfl rfl rfl hl.1 rfl (Nat.le_of_ble_eq_true rfl) dX2_countDifferentEdges_43 ⟨Nat.zero_le _, Nat.zero_le _⟩ ?_
      refine W.eq (g2 := F0 m 46 ls [.int (nI (gc v.1 (sTh v n) m2))]) rfl ?_
      refine lv_istore (lv' := [(4, .int (nI (gc v.1 (sTh v n) m2))), (0, .ref (a 0)), (1, .int (nI (n))), (2, .int (nI (sTh v n))), (3, .int (nI (m2)))]) hx hb dX2_countDifferentEdges_46 hl (by decide) rfl (fun ls hl => ?_)
      refine lv_aload_n hx hb dX2_countDifferentEdges_48 rfl (lv_at hl 1 rfl) ?_
      refine va_get (D := (dC, dI)) (ci := 2) (v := .ref (a 4)) (C := RX2) (T := TX2) (N := 6) hx hb hts (by decide +kernel) hown hK hP 0 rfl rfl 1 (by decide) (hts (.fieldLink RX2 19 "TriangleSheet" "triangles" "LTriangleSheet$Triangles;") (by decide +kernel)) (fun _ h9 => h9) rfl dX2_countDifferentEdges_49 ?_
      refine lv_iload_n hx hb dX2_countDifferentEdges_52 rfl (lv_at hl 3 rfl) ?_
      refine lv_iload_n hx hb dX2_countDifferentEdges_53 rfl (lv_at hl 4 rfl) ?_
      refine lv_iconst (v := nI (1)) hx hb dX2_countDifferentEdges_54 (by decide) ?_
      refine lv_iadd hx hb dX2_countDifferentEdges_55 ?_
      refine rt_i (y := (nI (m2 + 1))) (nn_add (m2) (1)) ?_
      refine ro_V (As := [.int (nI (sTh v n)), .int (nI (m2 + 1))]) (rest := []) (q0 := 4) (ci := 1) hx hb hml hown hts (c_X1_cornerOf l dC dI cI cL cZ a (((v.1.1, v.1.2.1, v.1.2.2), sPn v, sTh v, sTn v, sTm v, f2, sPi v, sFa v, sFb v)) (sTh v n) (m2 + 1) (hv.2.2.1 _) (by omega)) (cwV 2 hts gX2_countDifferentEdges_X1_cornerOf rfl rfl rfl (by decide +kernel) ⟨Nat.le_of_ble_eq_true rfl, Nat.le_of_ble_eq_true rfl⟩) hK hP rfl rfl rfl hl.1 rfl (Nat.le_of_ble_eq_true rfl) dX2_countDifferentEdges_56 ⟨Nat.zero_le _, Nat.zero_le _⟩ ?_
      refine W.eq (g2 := F0 m 59 ls [.int (nI (gc v.1 (sTh v n) (m2 + 1)))]) rfl ?_
      refine lv_istore (lv' := [(5, .int (nI (gc v.1 (sTh v n) (m2 + 1)))), (4, .int (nI (gc v.1 (sTh v n) m2))), (0, .ref (a 0)), (1, .int (nI (n))), (2, .int (nI (sTh v n))), (3, .int (nI (m2)))]) hx hb dX2_countDifferentEdges_59 hl (by decide) rfl (fun ls hl => ?_)
      refine lv_aload_n hx hb dX2_countDifferentEdges_61 rfl (lv_at hl 2 rfl) ?_
      refine va_get (D := (dC, dI)) (ci := 2) (v := .ref (a 7)) (C := RX2) (T := TX2) (N := 6) hx hb hts (by decide +kernel) hown hK hP 0 rfl rfl 2 (by decide) (hts (.fieldLink RX2 23 "TriangleSheet" "joinedTo" "[J") (by decide +kernel)) (fun _ h9 => h9) rfl dX2_countDifferentEdges_62 ?_
      refine lv_iload hx hb dX2_countDifferentEdges_65 (lv_at hl 1 rfl) ?_
      refine lv_iload hx hb dX2_countDifferentEdges_67 (lv_at hl 0 rfl) ?_
      refine va_mmin hx hb (hml.trans hl.1.symm) hown (hts (.methodLink RX2 247 Lib.Math.min.name) (by decide +kernel)) (hts (.static Lib.Math.min.name) (by decide +kernel)) (hts (.initialized "java/lang/Math") (by decide +kernel)) (hts (.code Lib.Math.min.name Lib.Math.min.code 2 (some .int)) (by decide +kernel)) (Nat.le_of_ble_eq_true rfl) (Nat.le_of_ble_eq_true rfl) (Nat.zero_le _) (Nat.zero_le _) dX2_countDifferentEdges_69 ?_
      refine rt_i (y := (nI (min (gc v.1 (sTh v n) m2) (gc v.1 (sTh v n) (m2 + 1))))) (mmin_n (by omega) (by omega)) ?_
      refine lv_dup2_11 hx hb dX2_countDifferentEdges_72 rfl rfl ?_
      refine la_ld (k := min (gc v.1 (sTh v n) m2) (gc v.1 (sTh v n) (m2 + 1))) hx hb hK hP 7 1 rfl rfl (by omega) (by decide) dX2_countDifferentEdges_73 ?_
      refine W.eq (g2 := F0 m 74 ls [.long (f2 (min (gc v.1 (sTh v n) m2) (gc v.1 (sTh v n) (m2 + 1)))), .int (nI (min (gc v.1 (sTh v n) m2) (gc v.1 (sTh v n) (m2 + 1)))), .ref (a 7)]) rfl ?_
      refine lv_iload hx hb dX2_countDifferentEdges_74 (lv_at hl 1 rfl) ?_
      refine lv_iload hx hb dX2_countDifferentEdges_76 (lv_at hl 0 rfl) ?_
      refine va_mmax hx hb (hml.trans hl.1.symm) hown (hts (.methodLink RX2 239 Lib.Math.max.name) (by decide +kernel)) (hts (.static Lib.Math.max.name) (by decide +kernel)) (hts (.initialized "java/lang/Math") (by decide +kernel)) (hts (.code Lib.Math.max.name Lib.Math.max.code 2 (some .int)) (by decide +kernel)) (Nat.le_of_ble_eq_true rfl) (Nat.le_of_ble_eq_true rfl) (Nat.zero_le _) (Nat.zero_le _) dX2_countDifferentEdges_78 ?_
      refine rt_i (y := (nI (max (gc v.1 (sTh v n) m2) (gc v.1 (sTh v n) (m2 + 1))))) (mmax_n (by omega) (by omega)) ?_
      refine ro_S (As := [.int (nI (max (gc v.1 (sTh v n) m2) (gc v.1 (sTh v n) (m2 + 1))))]) (rest := [.long (f2 (min (gc v.1 (sTh v n) m2) (gc v.1 (sTh v n) (m2 + 1)))), .int (nI (min (gc v.1 (sTh v n) m2) (gc v.1 (sTh v n) (m2 + 1)))), .ref (a 7)]) hx hb hml hown hts (c_X2_bitOf l dC dI  (max (gc v.1 (sTh v n) m2) (gc v.1 (sTh v n) (m2 + 1))) ) (va_cwS 1 hts gX2_countDifferentEdges_X2_bitOf rfl rfl rfl (by decide +kernel) ⟨Nat.le_of_ble_eq_true rfl, Nat.le_of_ble_eq_true rfl⟩) (hK.sub [] rfl) (hP.sub [] rfl) rfl hl.1 rfl (Nat.le_of_ble_eq_true rfl) dX2_countDifferentEdges_81 ⟨Nat.zero_le _, Nat.zero_le _⟩ ?_
      refine lv_lor hx hb dX2_countDifferentEdges_84 ?_
      refine la_st (k := min (gc v.1 (sTh v n) m2) (gc v.1 (sTh v n) (m2 + 1))) hx hb hK hP hD hS 7 1 rfl rfl (by omega) (by decide) dX2_countDifferentEdges_85 (fun H locs hP hD hS => ?_)
      have hP : va_P (dC, dI) vwCl (wS cI cL a (((v.1.1, v.1.2.1, v.1.2.2), sPn v, sTh v, sTn v, sTm v, va_up f2 (min (gc v.1 (sTh v n) m2) (gc v.1 (sTh v n) (m2 + 1))) ((f2 (min (gc v.1 (sTh v n) m2) (gc v.1 (sTh v n) (m2 + 1)))) ||| (bo (max (gc v.1 (sTh v n) m2) (gc v.1 (sTh v n) (m2 + 1))))), sPi v, sFa v, sFb v))) H := hP
      have hD : va_D (inW (wS cI cL a v)) (wS cI cL a (((v.1.1, v.1.2.1, v.1.2.2), sPn v, sTh v, sTn v, sTm v, va_up f2 (min (gc v.1 (sTh v n) m2) (gc v.1 (sTh v n) (m2 + 1))) ((f2 (min (gc v.1 (sTh v n) m2) (gc v.1 (sTh v n) (m2 + 1)))) ||| (bo (max (gc v.1 (sTh v n) m2) (gc v.1 (sTh v n) (m2 + 1))))), sPi v, sFa v, sFb v))) := hD
      refine lv_iinc (v := nI (m2 + 1)) (lv' := [(3, .int (nI (m2 + 1))), (5, .int (nI (gc v.1 (sTh v n) (m2 + 1)))), (4, .int (nI (gc v.1 (sTh v n) m2))), (0, .ref (a 0)), (1, .int (nI (n))), (2, .int (nI (sTh v n)))]) hx hb dX2_countDifferentEdges_86 hl (k := 5) rfl (nI_1 (m2)) (by decide) rfl (fun ls hl => ?_)
      refine lv_goto (tgt := 32) hx hb dX2_countDifferentEdges_89 (by decide) ?_
      exact ih_k2 (k2 - 1) (m2 + 1, va_up f2 (min (gc v.1 (sTh v n) m2) (gc v.1 (sTh v n) (m2 + 1))) ((f2 (min (gc v.1 (sTh v n) m2) (gc v.1 (sTh v n) (m2 + 1)))) ||| (bo (max (gc v.1 (sTh v n) m2) (gc v.1 (sTh v n) (m2 + 1)))))) ls _ _ (by omega) ⟨by omega, hi2.trans (jok_s (by omega))⟩ (lv_sub hl [3, 4, 5, 0] rfl) hP hD hS
