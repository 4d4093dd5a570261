set_option maxHeartbeats 4000000 in
set_option maxRecDepth 100000 in
theorem c_X2_count_0 (l : Launch) (dC : Nat → ClassId) (dI : Nat → Nat → Nat) (cI cL cZ : ClassId) (a : Nat → Nat) (v : SV)  (hv : okS v) : Met l yX2_count wsX2_count ({ frames := 1, cells := 0, slots := 0, locals := 20 }) (va_Pc [.ref (a 0), .int (nI (0))] (ro_B (dC, dI) vwCl (wS cI cL a v) (tyS cI cL cZ))) (k2_QcV (.int (nI (sPn v)))) 0 0 (fun _ => False) := by
  refine ro_Met (cc := cX2_count) (maxL := 2) (ret := (some .int)) (by decide) rfl (Nat.le_of_ble_eq_true rfl) ?_
  intro pr en s m below meth co ls hx hb hml hr hlocks hown hts hP hK hl
  have hl : lv_has ls 2 [(0, .ref (a 0)), (1, .int (nI (0)))] := hl
  have hown : s.vm.findClass RX2 = some m.cls := hown
  have hvp : sPn v ≤ 60 ∧ sTn v ≤ 60 ∧ sTm v ≤ 200 := ⟨hv.2.1, hv.2.2.2.1, hv.2.2.2.2.1⟩
  refine lv_iload_n hx hb dX2_count_0 rfl (lv_at hl 1 rfl) ?_
  refine lv_tableIn (x := nI (0)) (off := 47) (tgt := 48) hx hb dX2_count_1 (by decide) (by decide) (by decide) (by decide) ?_
  refine lv_aload_n hx hb dX2_count_48 rfl (lv_at hl 0 rfl) ?_
  refine va_get (D := (dC, dI)) (ci := 2) (v := .ref (a 1)) (C := RX2) (T := TX2) (N := 6) hx hb hts (by decide +kernel) hown hK hP 0 rfl rfl 0 (by decide) (hts (.fieldLink RX2 10 "TriangleSheet" "points" "LTriangleSheet$Points;") (by decide +kernel)) (fun _ h9 => h9) rfl dX2_count_49 ?_
  refine ro_V (As := []) (rest := []) (q0 := 1) (ci := 0) hx hb hml hown hts (c_X0_came l dC dI cI cL cZ a v  ) (cwV 0 hts gX2_count_X0_came rfl rfl rfl (by decide +kernel) ⟨Nat.le_of_ble_eq_true rfl, Nat.le_of_ble_eq_true rfl⟩) hK hP rfl rfl rfl hl.1 rfl (Nat.le_of_ble_eq_true rfl) dX2_count_52 ⟨Nat.zero_le _, Nat.zero_le _⟩ ?_
  exact ro_iret hx hb hr rfl dX2_count_55 hlocks
set_option maxHeartbeats 4000000 in
set_option maxRecDepth 100000 in
theorem c_X2_count_1 (l : Launch) (dC : Nat → ClassId) (dI : Nat → Nat → Nat) (cI cL cZ : ClassId) (a : Nat → Nat) (v : SV)  (hv : okS v) : Met l yX2_count wsX2_count ({ frames := 1, cells := 0, slots := 0, locals := 20 }) (va_Pc [.ref (a 0), .int (nI (1))] (ro_B (dC, dI) vwCl (wS cI cL a v) (tyS cI cL cZ))) (k2_QcV (.int (nI (sTn v)))) 0 0 (fun _ => False) := by
  refine ro_Met (cc := cX2_count) (maxL := 2) (ret := (some .int)) (by decide) rfl (Nat.le_of_ble_eq_true rfl) ?_
  intro pr en s m below meth co ls hx hb hml hr hlocks hown hts hP hK hl
  have hl : lv_has ls 2 [(0, .ref (a 0)), (1, .int (nI (1)))] := hl
  have hown : s.vm.findClass RX2 = some m.cls := hown
  have hvp : sPn v ≤ 60 ∧ sTn v ≤ 60 ∧ sTm v ≤ 200 := ⟨hv.2.1, hv.2.2.2.1, hv.2.2.2.2.1⟩
  refine lv_iload_n hx hb dX2_count_0 rfl (lv_at hl 1 rfl) ?_
  refine lv_tableIn (x := nI (1)) (off := 55) (tgt := 56) hx hb dX2_count_1 (by decide) (by decide) (by decide) (by decide) ?_
  refine lv_aload_n hx hb dX2_count_56 rfl (lv_at hl 0 rfl) ?_
  refine va_get (D := (dC, dI)) (ci := 2) (v := .ref (a 4)) (C := RX2) (T := TX2) (N := 6) hx hb hts (by decide +kernel) hown hK hP 0 rfl rfl 1 (by decide) (hts (.fieldLink RX2 19 "TriangleSheet" "triangles" "LTriangleSheet$Triangles;") (by decide +kernel)) (fun _ h9 => h9) rfl dX2_count_57 ?_
  refine ro_V (As := []) (rest := []) (q0 := 4) (ci := 1) hx hb hml hown hts (c_X1_thereCount l dC dI cI cL cZ a v  ) (cwV 0 hts gX2_count_X1_thereCount rfl rfl rfl (by decide +kernel) ⟨Nat.le_of_ble_eq_true rfl, Nat.le_of_ble_eq_true rfl⟩) hK hP rfl rfl rfl hl.1 rfl (Nat.le_of_ble_eq_true rfl) dX2_count_60 ⟨Nat.zero_le _, Nat.zero_le _⟩ ?_
  exact ro_iret hx hb hr rfl dX2_count_63 hlocks
set_option maxHeartbeats 4000000 in
set_option maxRecDepth 100000 in
theorem c_X2_count_2 (l : Launch) (dC : Nat → ClassId) (dI : Nat → Nat → Nat) (cI cL cZ : ClassId) (a : Nat → Nat) (v : SV)  (hv : okS v) : Met l yX2_count wsX2_count ({ frames := 1, cells := 0, slots := 0, locals := 20 }) (va_Pc [.ref (a 0), .int (nI (2))] (ro_B (dC, dI) vwCl (wS cI cL a v) (tyS cI cL cZ))) (k2_QcV (.int (nI (sTm v)))) 0 0 (fun _ => False) := by
  refine ro_Met (cc := cX2_count) (maxL := 2) (ret := (some .int)) (by decide) rfl (Nat.le_of_ble_eq_true rfl) ?_
  intro pr en s m below meth co ls hx hb hml hr hlocks hown hts hP hK hl
  have hl : lv_has ls 2 [(0, .ref (a 0)), (1, .int (nI (2)))] := hl
  have hown : s.vm.findClass RX2 = some m.cls := hown
  have hvp : sPn v ≤ 60 ∧ sTn v ≤ 60 ∧ sTm v ≤ 200 := ⟨hv.2.1, hv.2.2.2.1, hv.2.2.2.2.1⟩
  refine lv_iload_n hx hb dX2_count_0 rfl (lv_at hl 1 rfl) ?_
  refine lv_tableIn (x := nI (2)) (off := 63) (tgt := 64) hx hb dX2_count_1 (by decide) (by decide) (by decide) (by decide) ?_
  refine lv_aload_n hx hb dX2_count_64 rfl (lv_at hl 0 rfl) ?_
  refine va_get (D := (dC, dI)) (ci := 2) (v := .ref (a 4)) (C := RX2) (T := TX2) (N := 6) hx hb hts (by decide +kernel) hown hK hP 0 rfl rfl 1 (by decide) (hts (.fieldLink RX2 19 "TriangleSheet" "triangles" "LTriangleSheet$Triangles;") (by decide +kernel)) (fun _ h9 => h9) rfl dX2_count_65 ?_
  refine ro_V (As := []) (rest := []) (q0 := 4) (ci := 1) hx hb hml hown hts (c_X1_came l dC dI cI cL cZ a v  ) (cwV 0 hts gX2_count_X1_came rfl rfl rfl (by decide +kernel) ⟨Nat.le_of_ble_eq_true rfl, Nat.le_of_ble_eq_true rfl⟩) hK hP rfl rfl rfl hl.1 rfl (Nat.le_of_ble_eq_true rfl) dX2_count_68 ⟨Nat.zero_le _, Nat.zero_le _⟩ ?_
  exact ro_iret hx hb hr rfl dX2_count_71 hlocks
set_option maxHeartbeats 4000000 in
set_option maxRecDepth 100000 in
theorem c_X2_count_3 (l : Launch) (dC : Nat → ClassId) (dI : Nat → Nat → Nat) (cI cL cZ : ClassId) (a : Nat → Nat) (v : SV)  (hv : okS v) : Met l yX2_count wsX2_count ({ frames := 2, cells := 0, slots := 0, locals := 47 }) (va_Pc [.ref (a 0), .int (nI (3))] (ro_B (dC, dI) vwCl (wS cI cL a v) (tyS cI cL cZ))) (k2_QcV (.int (ccpC v))) 0 0 (fun _ => False) := by
  refine ro_Met (cc := cX2_count) (maxL := 2) (ret := (some .int)) (by decide) rfl (Nat.le_of_ble_eq_true rfl) ?_
  intro pr en s m below meth co ls hx hb hml hr hlocks hown hts hP hK hl
  have hl : lv_has ls 2 [(0, .ref (a 0)), (1, .int (nI (3)))] := hl
  have hown : s.vm.findClass RX2 = some m.cls := hown
  have hvp : sPn v ≤ 60 ∧ sTn v ≤ 60 ∧ sTm v ≤ 200 := ⟨hv.2.1, hv.2.2.2.1, hv.2.2.2.2.1⟩
  refine lv_iload_n hx hb dX2_count_0 rfl (lv_at hl 1 rfl) ?_
  refine lv_tableIn (x := nI (3)) (off := 71) (tgt := 72) hx hb dX2_count_1 (by decide) (by decide) (by decide) (by decide) ?_
  refine lv_aload_n hx hb dX2_count_72 rfl (lv_at hl 0 rfl) ?_
  refine ro_V (As := []) (rest := []) (q0 := 0) (ci := 2) hx hb hml hown hts (c_X2_countCornerPoints l dC dI cI cL cZ a v  hv) (cwV 0 hts gX2_count_X2_countCornerPoints rfl rfl rfl (by decide +kernel) ⟨Nat.le_of_ble_eq_true rfl, Nat.le_of_ble_eq_true rfl⟩) hK hP rfl rfl rfl hl.1 rfl (Nat.le_of_ble_eq_true rfl) dX2_count_73 ⟨Nat.zero_le _, Nat.zero_le _⟩ ?_
  exact ro_iret hx hb hr rfl dX2_count_76 hlocks
set_option maxHeartbeats 4000000 in
set_option maxRecDepth 100000 in
theorem c_X2_count_5 (l : Launch) (dC : Nat → ClassId) (dI : Nat → Nat → Nat) (cI cL cZ : ClassId) (a : Nat → Nat) (v : SV)  (hv : okS v) : Met l yX2_count wsX2_count ({ frames := 3, cells := 0, slots := 0, locals := 74 }) (va_Pc [.ref (a 0), .int (nI (5))] (ro_B (dC, dI) vwCl (wS cI cL a v) (tyS cI cL cZ))) (k2_QcV (.int (nI (lonC v)))) 0 0 (fun _ => False) := by
  refine ro_Met (cc := cX2_count) (maxL := 2) (ret := (some .int)) (by decide) rfl (Nat.le_of_ble_eq_true rfl) ?_
  intro pr en s m below meth co ls hx hb hml hr hlocks hown hts hP hK hl
  have hl : lv_has ls 2 [(0, .ref (a 0)), (1, .int (nI (5)))] := hl
  have hown : s.vm.findClass RX2 = some m.cls := hown
  have hvp : sPn v ≤ 60 ∧ sTn v ≤ 60 ∧ sTm v ≤ 200 := ⟨hv.2.1, hv.2.2.2.1, hv.2.2.2.2.1⟩
  refine lv_iload_n hx hb dX2_count_0 rfl (lv_at hl 1 rfl) ?_
  refine lv_tableIn (x := nI (5)) (off := 81) (tgt := 82) hx hb dX2_count_1 (by decide) (by decide) (by decide) (by decide) ?_
  refine lv_aload_n hx hb dX2_count_82 rfl (lv_at hl 0 rfl) ?_
  refine ro_V (As := []) (rest := []) (q0 := 0) (ci := 2) hx hb hml hown hts (c_X2_countLonelyEdges l dC dI cI cL cZ a v  hv) (cwV 0 hts gX2_count_X2_countLonelyEdges rfl rfl rfl (by decide +kernel) ⟨Nat.le_of_ble_eq_true rfl, Nat.le_of_ble_eq_true rfl⟩) hK hP rfl rfl rfl hl.1 rfl (Nat.le_of_ble_eq_true rfl) dX2_count_83 ⟨Nat.zero_le _, Nat.zero_le _⟩ ?_
  exact ro_iret hx hb hr rfl dX2_count_86 hlocks
set_option maxHeartbeats 4000000 in
set_option maxRecDepth 100000 in
theorem c_X2_count_7 (l : Launch) (dC : Nat → ClassId) (dI : Nat → Nat → Nat) (cI cL cZ : ClassId) (a : Nat → Nat) (v : SV)  (hv : okS v) : Met l yX2_count wsX2_count ({ frames := 4, cells := 0, slots := 0, locals := 100 }) (va_Pc [.ref (a 0), .int (nI (7))] (ro_B (dC, dI) vwCl (wS cI cL a v) (tyS cI cL cZ))) (k2_QcV (.int (nI (badC v)))) 0 0 (fun _ => False) := by
  refine ro_Met (cc := cX2_count) (maxL := 2) (ret := (some .int)) (by decide) rfl (Nat.le_of_ble_eq_true rfl) ?_
  intro pr en s m below meth co ls hx hb hml hr hlocks hown hts hP hK hl
  have hl : lv_has ls 2 [(0, .ref (a 0)), (1, .int (nI (7)))] := hl
  have hown : s.vm.findClass RX2 = some m.cls := hown
  have hvp : sPn v ≤ 60 ∧ sTn v ≤ 60 ∧ sTm v ≤ 200 := ⟨hv.2.1, hv.2.2.2.1, hv.2.2.2.2.1⟩
  refine lv_iload_n hx hb dX2_count_0 rfl (lv_at hl 1 rfl) ?_
  refine lv_tableIn (x := nI (7)) (off := 91) (tgt := 92) hx hb dX2_count_1 (by decide) (by decide) (by decide) (by decide) ?_
  refine lv_aload_n hx hb dX2_count_92 rfl (lv_at hl 0 rfl) ?_
  refine ro_V (As := []) (rest := []) (q0 := 0) (ci := 2) hx hb hml hown hts (c_X2_countBadEdges l dC dI cI cL cZ a v  hv) (cwV 0 hts gX2_count_X2_countBadEdges rfl rfl rfl (by decide +kernel) ⟨Nat.le_of_ble_eq_true rfl, Nat.le_of_ble_eq_true rfl⟩) hK hP rfl rfl rfl hl.1 rfl (Nat.le_of_ble_eq_true rfl) dX2_count_93 ⟨Nat.zero_le _, Nat.zero_le _⟩ ?_
  exact ro_iret hx hb hr rfl dX2_count_96 hlocks
set_option maxHeartbeats 4000000 in
set_option maxRecDepth 100000 in
theorem c_X2_count_4 (l : Launch) (dC : Nat → ClassId) (dI : Nat → Nat → Nat) (cI cL cZ : ClassId) (a : Nat → Nat) (v : SV)  (hv : okS v) : Met l yX2_count wsX2_count ({ frames := 2, cells := 0, slots := 0, locals := 49 }) (va_Pc [.ref (a 0), .int (nI (4))] (wr_B (dC, dI) vwCl (wS cI cL a v) (tyS cI cL cZ))) (wr_Q (some (.int (cdeC v))) (dC, dI) vwCl (wS cI cL a v) (wS cI cL a (sJoX v (edJ v)))) 0 0 (inW (wS cI cL a v)) := by
  refine wr_Met (cc := cX2_count) (maxL := 2) (ret := (some .int)) (by decide) rfl (Nat.le_of_ble_eq_true rfl) ?_
  intro pr en s m below meth co ls hx hb hml hr hlocks hown hts hP hK hD hS hl
  have hl : lv_has ls 2 [(0, .ref (a 0)), (1, .int (nI (4)))] := hl
  have hown : s.vm.findClass RX2 = some m.cls := hown
  have hvp : sPn v ≤ 60 ∧ sTn v ≤ 60 ∧ sTm v ≤ 200 := ⟨hv.2.1, hv.2.2.2.1, hv.2.2.2.2.1⟩
  refine lv_iload_n hx hb dX2_count_0 rfl (lv_at hl 1 rfl) ?_
  refine lv_tableIn (x := nI (4)) (off := 76) (tgt := 77) hx hb dX2_count_1 (by decide) (by decide) (by decide) (by decide) ?_
  refine lv_aload_n hx hb dX2_count_77 rfl (lv_at hl 0 rfl) ?_
  refine wr_V (As := []) (rest := []) (q0 := 0) (ci := 2) hx hb hml hown hts (c_X2_countDifferentEdges l dC dI cI cL cZ a v  hv) (cwV 0 hts gX2_count_X2_countDifferentEdges rfl rfl rfl (by decide +kernel) ⟨Nat.le_of_ble_eq_true rfl, Nat.le_of_ble_eq_true rfl⟩) hK hP hD hS rfl rfl rfl rfl hl.1 rfl (Nat.le_of_ble_eq_true rfl) dX2_count_78 ⟨Nat.zero_le _, Nat.zero_le _⟩ (fun H locs hP hD hS => ?_)
  have hP : va_P (dC, dI) vwCl (wS cI cL a (sJoX v (edJ v))) H := hP
  have hD : va_D (inW (wS cI cL a v)) (wS cI cL a (sJoX v (edJ v))) := hD
  refine W.eq (g2 := F0 m 81 ls [.int (cdeC v)]) rfl ?_
  exact wr_iret hx hb hr hP hS rfl rfl dX2_count_81 hlocks
set_option maxHeartbeats 4000000 in
set_option maxRecDepth 100000 in
theorem c_X2_count_6 (l : Launch) (dC : Nat → ClassId) (dI : Nat → Nat → Nat) (cI cL cZ : ClassId) (a : Nat → Nat) (v : SV)  (hv : okS v) : Met l yX2_count wsX2_count ({ frames := 3, cells := 0, slots := 0, locals := 76 }) (va_Pc [.ref (a 0), .int (nI (6))] (wr_B (dC, dI) vwCl (wS cI cL a v) (tyS cI cL cZ))) (wr_Q (some (.int (iI ((pcs v).2)))) (dC, dI) vwCl (wS cI cL a v) (wS cI cL a (sPiX v (pcs v).1))) 0 0 (inW (wS cI cL a v)) := by
  refine wr_Met (cc := cX2_count) (maxL := 2) (ret := (some .int)) (by decide) rfl (Nat.le_of_ble_eq_true rfl) ?_
  intro pr en s m below meth co ls hx hb hml hr hlocks hown hts hP hK hD hS hl
  have hl : lv_has ls 2 [(0, .ref (a 0)), (1, .int (nI (6)))] := hl
  have hown : s.vm.findClass RX2 = some m.cls := hown
  have hvp : sPn v ≤ 60 ∧ sTn v ≤ 60 ∧ sTm v ≤ 200 := ⟨hv.2.1, hv.2.2.2.1, hv.2.2.2.2.1⟩
  refine lv_iload_n hx hb dX2_count_0 rfl (lv_at hl 1 rfl) ?_
  refine lv_tableIn (x := nI (6)) (off := 86) (tgt := 87) hx hb dX2_count_1 (by decide) (by decide) (by decide) (by decide) ?_
  refine lv_aload_n hx hb dX2_count_87 rfl (lv_at hl 0 rfl) ?_
  refine wr_V (As := []) (rest := []) (q0 := 0) (ci := 2) hx hb hml hown hts (c_X2_countPieces l dC dI cI cL cZ a v  hv) (cwV 0 hts gX2_count_X2_countPieces rfl rfl rfl (by decide +kernel) ⟨Nat.le_of_ble_eq_true rfl, Nat.le_of_ble_eq_true rfl⟩) hK hP hD hS rfl rfl rfl rfl hl.1 rfl (Nat.le_of_ble_eq_true rfl) dX2_count_88 ⟨Nat.zero_le _, Nat.zero_le _⟩ (fun H locs hP hD hS => ?_)
  have hP : va_P (dC, dI) vwCl (wS cI cL a (sPiX v (pcs v).1)) H := hP
  have hD : va_D (inW (wS cI cL a v)) (wS cI cL a (sPiX v (pcs v).1)) := hD
  refine W.eq (g2 := F0 m 91 ls [.int (iI ((pcs v).2))]) rfl ?_
  exact wr_iret hx hb hr hP hS rfl rfl dX2_count_91 hlocks
set_option maxHeartbeats 4000000 in
set_option maxRecDepth 100000 in
theorem c_X2_count_b (l : Launch) (dC : Nat → ClassId) (dI : Nat → Nat → Nat) (cI cL cZ : ClassId) (a : Nat → Nat) (v : SV) (x : Int32) (hx9 : x.toInt < 0 ∨ 7 < x.toInt) : Met l yX2_count wsX2_count ({ frames := 0, cells := 0, slots := 0, locals := 0 }) (va_Pc [.ref (a 0), .int (x)] (ro_B (dC, dI) vwCl (wS cI cL a v) (tyS cI cL cZ))) (k2_QcV (.int (iI (-1)))) 0 0 (fun _ => False) := by
  refine ro_Met (cc := cX2_count) (maxL := 2) (ret := (some .int)) (by decide) rfl (Nat.le_of_ble_eq_true rfl) ?_
  intro pr en s m below meth co ls hx hb hml hr hlocks hown hts hP hK hl
  have hl : lv_has ls 2 [(0, .ref (a 0)), (1, .int (x))] := hl
  have hown : s.vm.findClass RX2 = some m.cls := hown
  refine lv_iload_n hx hb dX2_count_0 rfl (lv_at hl 1 rfl) ?_
  refine lv_tableOut (tgt := 97) hx hb dX2_count_1 hx9 (by decide) ?_
  refine lv_iconst (v := iI (-1)) hx hb dX2_count_97 (by decide) ?_
  exact ro_iret hx hb hr rfl dX2_count_98 hlocks
set_option maxHeartbeats 4000000 in
set_option maxRecDepth 100000 in
theorem c_X3_count_0 (l : Launch) (dC : Nat → ClassId) (dI : Nat → Nat → Nat) (cI cL cZ : ClassId) (b : Nat → Nat) (w : MV)  (hv : okM w) : Met l yX3_count wsX3_count ({ frames := 0, cells := 0, slots := 0, locals := 0 }) (va_Pc [.ref (b 0), .int (nI (0))] (wr_B (dC, dI) vwCl (wM cI cZ b w) (tyS cI cL cZ))) (wr_Q (some (.int (nI (mPn (mThx w (nI 0)))))) (dC, dI) vwCl (wM cI cZ b w) (wM cI cZ b (mThx w (nI 0)))) 0 0 (inW (wM cI cZ b w)) := by
  refine wr_Met (cc := cX3_count) (maxL := 2) (ret := (some .int)) (by decide) rfl (Nat.le_of_ble_eq_true rfl) ?_
  intro pr en s m below meth co ls hx hb hml hr hlocks hown hts hP hK hD hS hl
  have hl : lv_has ls 2 [(0, .ref (b 0)), (1, .int (nI (0)))] := hl
  have hown : s.vm.findClass RX3 = some m.cls := hown
  have hvp : mPn w ≤ 60 ∧ mTm w ≤ 200 ∧ mTn w ≤ 60 := ⟨hv.2.1, hv.2.2.1, hv.2.2.2.1⟩
  refine lv_aload_n hx hb dX3_count_0 rfl (lv_at hl 0 rfl) ?_
  refine lv_iconst (v := nI (0)) hx hb dX3_count_1 (by decide) ?_
  refine va_put (D := (dC, dI)) (ci := 3) (v := .int (nI (0))) (ty := .int) (C := RX3) (T := TX3) (N := 11) hx hb hts (by decide +kernel) tyX3 tyX3_ok nmX3 hown hK hP hD hS 0 rfl rfl 0 (by decide) (hts (.fieldLink RX3 33 "TriangleSheetModel" "thrown" "I") (by decide +kernel)) (fun _ h9 => h9) rfl (by decide +kernel) rfl rfl (Nat.le_of_ble_eq_true rfl) dX3_count_2 (fun H locs hP hD hS => ?_)
  have hP : va_P (dC, dI) vwCl (wM cI cZ b (((w.1.1, w.1.2.1, w.1.2.2), nI (0), mPn w, mTm w, mTn w, mIs w, mFi w, mSe w, mMk w))) H := hP
  have hD : va_D (inW (wM cI cZ b w)) (wM cI cZ b (((w.1.1, w.1.2.1, w.1.2.2), nI (0), mPn w, mTm w, mTn w, mIs w, mFi w, mSe w, mMk w))) := hD
  have hP : va_P (dC, dI) vwCl (wM cI cZ b (mThx w (nI 0))) H := hP
  have hD : va_D (inW (wM cI cZ b w)) (wM cI cZ b (mThx w (nI 0))) := hD
  have hv : okM (mThx w (nI 0)) := hv
  generalize mThx w (nI 0) = w1 at hP hD hv ⊢
  have hvp : mPn w1 ≤ 60 ∧ mTm w1 ≤ 200 ∧ mTn w1 ≤ 60 := ⟨hv.2.1, hv.2.2.1, hv.2.2.2.1⟩
  refine lv_iload_n hx hb dX3_count_5 rfl (lv_at hl 1 rfl) ?_
  refine lv_tableIn (x := nI (0)) (off := 46) (tgt := 52) hx hb dX3_count_6 (by decide) (by decide) (by decide) (by decide) ?_
  refine lv_aload_n hx hb dX3_count_52 rfl (lv_at hl 0 rfl) ?_
  refine va_get (D := (dC, dI)) (ci := 3) (v := .int (nI (mPn w1))) (C := RX3) (T := TX3) (N := 11) hx hb hts (by decide +kernel) hown hK hP 0 rfl rfl 1 (by decide) (hts (.fieldLink RX3 40 "TriangleSheetModel" "points" "I") (by decide +kernel)) (fun _ h9 => h9) rfl dX3_count_53 ?_
  exact wr_iret hx hb hr hP hS rfl rfl dX3_count_56 hlocks
set_option maxHeartbeats 4000000 in
set_option maxRecDepth 100000 in
theorem c_X3_count_1 (l : Launch) (dC : Nat → ClassId) (dI : Nat → Nat → Nat) (cI cL cZ : ClassId) (b : Nat → Nat) (w : MV)  (hv : okM w) : Met l yX3_count wsX3_count ({ frames := 0, cells := 0, slots := 0, locals := 0 }) (va_Pc [.ref (b 0), .int (nI (1))] (wr_B (dC, dI) vwCl (wM cI cZ b w) (tyS cI cL cZ))) (wr_Q (some (.int (nI (mTn (mThx w (nI 0)))))) (dC, dI) vwCl (wM cI cZ b w) (wM cI cZ b (mThx w (nI 0)))) 0 0 (inW (wM cI cZ b w)) := by
  refine wr_Met (cc := cX3_count) (maxL := 2) (ret := (some .int)) (by decide) rfl (Nat.le_of_ble_eq_true rfl) ?_
  intro pr en s m below meth co ls hx hb hml hr hlocks hown hts hP hK hD hS hl
  have hl : lv_has ls 2 [(0, .ref (b 0)), (1, .int (nI (1)))] := hl
  have hown : s.vm.findClass RX3 = some m.cls := hown
  have hvp : mPn w ≤ 60 ∧ mTm w ≤ 200 ∧ mTn w ≤ 60 := ⟨hv.2.1, hv.2.2.1, hv.2.2.2.1⟩
  refine lv_aload_n hx hb dX3_count_0 rfl (lv_at hl 0 rfl) ?_
  refine lv_iconst (v := nI (0)) hx hb dX3_count_1 (by decide) ?_
  refine va_put (D := (dC, dI)) (ci := 3) (v := .int (nI (0))) (ty := .int) (C := RX3) (T := TX3) (N := 11) hx hb hts (by decide +kernel) tyX3 tyX3_ok nmX3 hown hK hP hD hS 0 rfl rfl 0 (by decide) (hts (.fieldLink RX3 33 "TriangleSheetModel" "thrown" "I") (by decide +kernel)) (fun _ h9 => h9) rfl (by decide +kernel) rfl rfl (Nat.le_of_ble_eq_true rfl) dX3_count_2 (fun H locs hP hD hS => ?_)
  have hP : va_P (dC, dI) vwCl (wM cI cZ b (((w.1.1, w.1.2.1, w.1.2.2), nI (0), mPn w, mTm w, mTn w, mIs w, mFi w, mSe w, mMk w))) H := hP
  have hD : va_D (inW (wM cI cZ b w)) (wM cI cZ b (((w.1.1, w.1.2.1, w.1.2.2), nI (0), mPn w, mTm w, mTn w, mIs w, mFi w, mSe w, mMk w))) := hD
  have hP : va_P (dC, dI) vwCl (wM cI cZ b (mThx w (nI 0))) H := hP
  have hD : va_D (inW (wM cI cZ b w)) (wM cI cZ b (mThx w (nI 0))) := hD
  have hv : okM (mThx w (nI 0)) := hv
  generalize mThx w (nI 0) = w1 at hP hD hv ⊢
  have hvp : mPn w1 ≤ 60 ∧ mTm w1 ≤ 200 ∧ mTn w1 ≤ 60 := ⟨hv.2.1, hv.2.2.1, hv.2.2.2.1⟩
  refine lv_iload_n hx hb dX3_count_5 rfl (lv_at hl 1 rfl) ?_
  refine lv_tableIn (x := nI (1)) (off := 51) (tgt := 57) hx hb dX3_count_6 (by decide) (by decide) (by decide) (by decide) ?_
  refine lv_aload_n hx hb dX3_count_57 rfl (lv_at hl 0 rfl) ?_
  refine va_get (D := (dC, dI)) (ci := 3) (v := .int (nI (mTn w1))) (C := RX3) (T := TX3) (N := 11) hx hb hts (by decide +kernel) hown hK hP 0 rfl rfl 3 (by decide) (hts (.fieldLink RX3 112 "TriangleSheetModel" "there" "I") (by decide +kernel)) (fun _ h9 => h9) rfl dX3_count_58 ?_
  exact wr_iret hx hb hr hP hS rfl rfl dX3_count_61 hlocks
set_option maxHeartbeats 4000000 in
set_option maxRecDepth 100000 in
theorem c_X3_count_2 (l : Launch) (dC : Nat → ClassId) (dI : Nat → Nat → Nat) (cI cL cZ : ClassId) (b : Nat → Nat) (w : MV)  (hv : okM w) : Met l yX3_count wsX3_count ({ frames := 0, cells := 0, slots := 0, locals := 0 }) (va_Pc [.ref (b 0), .int (nI (2))] (wr_B (dC, dI) vwCl (wM cI cZ b w) (tyS cI cL cZ))) (wr_Q (some (.int (nI (mTm (mThx w (nI 0)))))) (dC, dI) vwCl (wM cI cZ b w) (wM cI cZ b (mThx w (nI 0)))) 0 0 (inW (wM cI cZ b w)) := by
  refine wr_Met (cc := cX3_count) (maxL := 2) (ret := (some .int)) (by decide) rfl (Nat.le_of_ble_eq_true rfl) ?_
  intro pr en s m below meth co ls hx hb hml hr hlocks hown hts hP hK hD hS hl
  have hl : lv_has ls 2 [(0, .ref (b 0)), (1, .int (nI (2)))] := hl
  have hown : s.vm.findClass RX3 = some m.cls := hown
  have hvp : mPn w ≤ 60 ∧ mTm w ≤ 200 ∧ mTn w ≤ 60 := ⟨hv.2.1, hv.2.2.1, hv.2.2.2.1⟩
  refine lv_aload_n hx hb dX3_count_0 rfl (lv_at hl 0 rfl) ?_
  refine lv_iconst (v := nI (0)) hx hb dX3_count_1 (by decide) ?_
  refine va_put (D := (dC, dI)) (ci := 3) (v := .int (nI (0))) (ty := .int) (C := RX3) (T := TX3) (N := 11) hx hb hts (by decide +kernel) tyX3 tyX3_ok nmX3 hown hK hP hD hS 0 rfl rfl 0 (by decide) (hts (.fieldLink RX3 33 "TriangleSheetModel" "thrown" "I") (by decide +kernel)) (fun _ h9 => h9) rfl (by decide +kernel) rfl rfl (Nat.le_of_ble_eq_true rfl) dX3_count_2 (fun H locs hP hD hS => ?_)
  have hP : va_P (dC, dI) vwCl (wM cI cZ b (((w.1.1, w.1.2.1, w.1.2.2), nI (0), mPn w, mTm w, mTn w, mIs w, mFi w, mSe w, mMk w))) H := hP
  have hD : va_D (inW (wM cI cZ b w)) (wM cI cZ b (((w.1.1, w.1.2.1, w.1.2.2), nI (0), mPn w, mTm w, mTn w, mIs w, mFi w, mSe w, mMk w))) := hD
  have hP : va_P (dC, dI) vwCl (wM cI cZ b (mThx w (nI 0))) H := hP
  have hD : va_D (inW (wM cI cZ b w)) (wM cI cZ b (mThx w (nI 0))) := hD
  have hv : okM (mThx w (nI 0)) := hv
  generalize mThx w (nI 0) = w1 at hP hD hv ⊢
  have hvp : mPn w1 ≤ 60 ∧ mTm w1 ≤ 200 ∧ mTn w1 ≤ 60 := ⟨hv.2.1, hv.2.2.1, hv.2.2.2.1⟩
  refine lv_iload_n hx hb dX3_count_5 rfl (lv_at hl 1 rfl) ?_
  refine lv_tableIn (x := nI (2)) (off := 56) (tgt := 62) hx hb dX3_count_6 (by decide) (by decide) (by decide) (by decide) ?_
  refine lv_aload_n hx hb dX3_count_62 rfl (lv_at hl 0 rfl) ?_
  refine va_get (D := (dC, dI)) (ci := 3) (v := .int (nI (mTm w1))) (C := RX3) (T := TX3) (N := 11) hx hb hts (by decide +kernel) hown hK hP 0 rfl rfl 2 (by decide) (hts (.fieldLink RX3 43 "TriangleSheetModel" "came" "I") (by decide +kernel)) (fun _ h9 => h9) rfl dX3_count_63 ?_
  exact wr_iret hx hb hr hP hS rfl rfl dX3_count_66 hlocks
set_option maxHeartbeats 4000000 in
set_option maxRecDepth 100000 in
theorem c_X3_count_3 (l : Launch) (dC : Nat → ClassId) (dI : Nat → Nat → Nat) (cI cL cZ : ClassId) (b : Nat → Nat) (w : MV)  (hv : okM w) : Met l yX3_count wsX3_count ({ frames := 3, cells := 0, slots := 0, locals := 68 }) (va_Pc [.ref (b 0), .int (nI (3))] (wr_B (dC, dI) vwCl (wM cI cZ b w) (tyS cI cL cZ))) (wr_Q (some (.int (nI (mcpC (mThx w (nI 0)))))) (dC, dI) vwCl (wM cI cZ b w) (wM cI cZ b (mThx w (nI 0)))) 0 0 (inW (wM cI cZ b w)) := by
  refine wr_Met (cc := cX3_count) (maxL := 2) (ret := (some .int)) (by decide) rfl (Nat.le_of_ble_eq_true rfl) ?_
  intro pr en s m below meth co ls hx hb hml hr hlocks hown hts hP hK hD hS hl
  have hl : lv_has ls 2 [(0, .ref (b 0)), (1, .int (nI (3)))] := hl
  have hown : s.vm.findClass RX3 = some m.cls := hown
  have hvp : mPn w ≤ 60 ∧ mTm w ≤ 200 ∧ mTn w ≤ 60 := ⟨hv.2.1, hv.2.2.1, hv.2.2.2.1⟩
  refine lv_aload_n hx hb dX3_count_0 rfl (lv_at hl 0 rfl) ?_
  refine lv_iconst (v := nI (0)) hx hb dX3_count_1 (by decide) ?_
  refine va_put (D := (dC, dI)) (ci := 3) (v := .int (nI (0))) (ty := .int) (C := RX3) (T := TX3) (N := 11) hx hb hts (by decide +kernel) tyX3 tyX3_ok nmX3 hown hK hP hD hS 0 rfl rfl 0 (by decide) (hts (.fieldLink RX3 33 "TriangleSheetModel" "thrown" "I") (by decide +kernel)) (fun _ h9 => h9) rfl (by decide +kernel) rfl rfl (Nat.le_of_ble_eq_true rfl) dX3_count_2 (fun H locs hP hD hS => ?_)
  have hP : va_P (dC, dI) vwCl (wM cI cZ b (((w.1.1, w.1.2.1, w.1.2.2), nI (0), mPn w, mTm w, mTn w, mIs w, mFi w, mSe w, mMk w))) H := hP
  have hD : va_D (inW (wM cI cZ b w)) (wM cI cZ b (((w.1.1, w.1.2.1, w.1.2.2), nI (0), mPn w, mTm w, mTn w, mIs w, mFi w, mSe w, mMk w))) := hD
  have hP : va_P (dC, dI) vwCl (wM cI cZ b (mThx w (nI 0))) H := hP
  have hD : va_D (inW (wM cI cZ b w)) (wM cI cZ b (mThx w (nI 0))) := hD
  have hv : okM (mThx w (nI 0)) := hv
  generalize mThx w (nI 0) = w1 at hP hD hv ⊢
  have hvp : mPn w1 ≤ 60 ∧ mTm w1 ≤ 200 ∧ mTn w1 ≤ 60 := ⟨hv.2.1, hv.2.2.1, hv.2.2.2.1⟩
  refine lv_iload_n hx hb dX3_count_5 rfl (lv_at hl 1 rfl) ?_
  refine lv_tableIn (x := nI (3)) (off := 61) (tgt := 67) hx hb dX3_count_6 (by decide) (by decide) (by decide) (by decide) ?_
  refine lv_aload_n hx hb dX3_count_67 rfl (lv_at hl 0 rfl) ?_
  refine ro_V (As := []) (rest := []) (q0 := 0) (ci := 3) hx hb hml hown hts (c_X3_cornerPoints l dC dI cI cL cZ b w1  hv) (cwV 0 hts gX3_count_X3_cornerPoints rfl rfl rfl (by decide +kernel) ⟨Nat.le_of_ble_eq_true rfl, Nat.le_of_ble_eq_true rfl⟩) hK hP rfl rfl rfl hl.1 rfl (Nat.le_of_ble_eq_true rfl) dX3_count_68 ⟨Nat.zero_le _, Nat.zero_le _⟩ ?_
  exact wr_iret hx hb hr hP hS rfl rfl dX3_count_71 hlocks
set_option maxHeartbeats 4000000 in
set_option maxRecDepth 100000 in
theorem c_X3_count_4 (l : Launch) (dC : Nat → ClassId) (dI : Nat → Nat → Nat) (cI cL cZ : ClassId) (b : Nat → Nat) (w : MV)  (hv : okM w) : Met l yX3_count wsX3_count ({ frames := 3, cells := 0, slots := 0, locals := 71 }) (va_Pc [.ref (b 0), .int (nI (4))] (wr_B (dC, dI) vwCl (wM cI cZ b w) (tyS cI cL cZ))) (wr_Q (some (.int (nI (msiC (mThx w (nI 0)))))) (dC, dI) vwCl (wM cI cZ b w) (wM cI cZ b (mThx w (nI 0)))) 0 0 (inW (wM cI cZ b w)) := by
  refine wr_Met (cc := cX3_count) (maxL := 2) (ret := (some .int)) (by decide) rfl (Nat.le_of_ble_eq_true rfl) ?_
  intro pr en s m below meth co ls hx hb hml hr hlocks hown hts hP hK hD hS hl
  have hl : lv_has ls 2 [(0, .ref (b 0)), (1, .int (nI (4)))] := hl
  have hown : s.vm.findClass RX3 = some m.cls := hown
  have hvp : mPn w ≤ 60 ∧ mTm w ≤ 200 ∧ mTn w ≤ 60 := ⟨hv.2.1, hv.2.2.1, hv.2.2.2.1⟩
  refine lv_aload_n hx hb dX3_count_0 rfl (lv_at hl 0 rfl) ?_
  refine lv_iconst (v := nI (0)) hx hb dX3_count_1 (by decide) ?_
  refine va_put (D := (dC, dI)) (ci := 3) (v := .int (nI (0))) (ty := .int) (C := RX3) (T := TX3) (N := 11) hx hb hts (by decide +kernel) tyX3 tyX3_ok nmX3 hown hK hP hD hS 0 rfl rfl 0 (by decide) (hts (.fieldLink RX3 33 "TriangleSheetModel" "thrown" "I") (by decide +kernel)) (fun _ h9 => h9) rfl (by decide +kernel) rfl rfl (Nat.le_of_ble_eq_true rfl) dX3_count_2 (fun H locs hP hD hS => ?_)
  have hP : va_P (dC, dI) vwCl (wM cI cZ b (((w.1.1, w.1.2.1, w.1.2.2), nI (0), mPn w, mTm w, mTn w, mIs w, mFi w, mSe w, mMk w))) H := hP
  have hD : va_D (inW (wM cI cZ b w)) (wM cI cZ b (((w.1.1, w.1.2.1, w.1.2.2), nI (0), mPn w, mTm w, mTn w, mIs w, mFi w, mSe w, mMk w))) := hD
  have hP : va_P (dC, dI) vwCl (wM cI cZ b (mThx w (nI 0))) H := hP
  have hD : va_D (inW (wM cI cZ b w)) (wM cI cZ b (mThx w (nI 0))) := hD
  have hv : okM (mThx w (nI 0)) := hv
  generalize mThx w (nI 0) = w1 at hP hD hv ⊢
  have hvp : mPn w1 ≤ 60 ∧ mTm w1 ≤ 200 ∧ mTn w1 ≤ 60 := ⟨hv.2.1, hv.2.2.1, hv.2.2.2.1⟩
  refine lv_iload_n hx hb dX3_count_5 rfl (lv_at hl 1 rfl) ?_
  refine lv_tableIn (x := nI (4)) (off := 66) (tgt := 72) hx hb dX3_count_6 (by decide) (by decide) (by decide) (by decide) ?_
  refine lv_aload_n hx hb dX3_count_72 rfl (lv_at hl 0 rfl) ?_
  refine ro_V (As := []) (rest := []) (q0 := 0) (ci := 3) hx hb hml hown hts (c_X3_sides l dC dI cI cL cZ b w1  hv) (cwV 0 hts gX3_count_X3_sides rfl rfl rfl (by decide +kernel) ⟨Nat.le_of_ble_eq_true rfl, Nat.le_of_ble_eq_true rfl⟩) hK hP rfl rfl rfl hl.1 rfl (Nat.le_of_ble_eq_true rfl) dX3_count_73 ⟨Nat.zero_le _, Nat.zero_le _⟩ ?_
  exact wr_iret hx hb hr hP hS rfl rfl dX3_count_76 hlocks
set_option maxHeartbeats 4000000 in
set_option maxRecDepth 100000 in
theorem c_X3_count_5 (l : Launch) (dC : Nat → ClassId) (dI : Nat → Nat → Nat) (cI cL cZ : ClassId) (b : Nat → Nat) (w : MV)  (hv : okM w) : Met l yX3_count wsX3_count ({ frames := 3, cells := 0, slots := 0, locals := 70 }) (va_Pc [.ref (b 0), .int (nI (5))] (wr_B (dC, dI) vwCl (wM cI cZ b w) (tyS cI cL cZ))) (wr_Q (some (.int (nI (medA (mThx w (nI 0)))))) (dC, dI) vwCl (wM cI cZ b w) (wM cI cZ b (mThx w (nI 0)))) 0 0 (inW (wM cI cZ b w)) := by
  refine wr_Met (cc := cX3_count) (maxL := 2) (ret := (some .int)) (by decide) rfl (Nat.le_of_ble_eq_true rfl) ?_
  intro pr en s m below meth co ls hx hb hml hr hlocks hown hts hP hK hD hS hl
  have hl : lv_has ls 2 [(0, .ref (b 0)), (1, .int (nI (5)))] := hl
  have hown : s.vm.findClass RX3 = some m.cls := hown
  have hvp : mPn w ≤ 60 ∧ mTm w ≤ 200 ∧ mTn w ≤ 60 := ⟨hv.2.1, hv.2.2.1, hv.2.2.2.1⟩
  refine lv_aload_n hx hb dX3_count_0 rfl (lv_at hl 0 rfl) ?_
  refine lv_iconst (v := nI (0)) hx hb dX3_count_1 (by decide) ?_
  refine va_put (D := (dC, dI)) (ci := 3) (v := .int (nI (0))) (ty := .int) (C := RX3) (T := TX3) (N := 11) hx hb hts (by decide +kernel) tyX3 tyX3_ok nmX3 hown hK hP hD hS 0 rfl rfl 0 (by decide) (hts (.fieldLink RX3 33 "TriangleSheetModel" "thrown" "I") (by decide +kernel)) (fun _ h9 => h9) rfl (by decide +kernel) rfl rfl (Nat.le_of_ble_eq_true rfl) dX3_count_2 (fun H locs hP hD hS => ?_)
  have hP : va_P (dC, dI) vwCl (wM cI cZ b (((w.1.1, w.1.2.1, w.1.2.2), nI (0), mPn w, mTm w, mTn w, mIs w, mFi w, mSe w, mMk w))) H := hP
  have hD : va_D (inW (wM cI cZ b w)) (wM cI cZ b (((w.1.1, w.1.2.1, w.1.2.2), nI (0), mPn w, mTm w, mTn w, mIs w, mFi w, mSe w, mMk w))) := hD
  have hP : va_P (dC, dI) vwCl (wM cI cZ b (mThx w (nI 0))) H := hP
  have hD : va_D (inW (wM cI cZ b w)) (wM cI cZ b (mThx w (nI 0))) := hD
  have hv : okM (mThx w (nI 0)) := hv
  generalize mThx w (nI 0) = w1 at hP hD hv ⊢
  have hvp : mPn w1 ≤ 60 ∧ mTm w1 ≤ 200 ∧ mTn w1 ≤ 60 := ⟨hv.2.1, hv.2.2.1, hv.2.2.2.1⟩
  refine lv_iload_n hx hb dX3_count_5 rfl (lv_at hl 1 rfl) ?_
  refine lv_tableIn (x := nI (5)) (off := 71) (tgt := 77) hx hb dX3_count_6 (by decide) (by decide) (by decide) (by decide) ?_
  refine lv_aload_n hx hb dX3_count_77 rfl (lv_at hl 0 rfl) ?_
  refine lv_iconst (v := nI (1)) hx hb dX3_count_78 (by decide) ?_
  refine ro_V (As := [.int (nI (1))]) (rest := []) (q0 := 0) (ci := 3) hx hb hml hown hts (c_X3_edges_t l dC dI cI cL cZ b w1  hv) (cwV 1 hts gX3_count_X3_edges rfl rfl rfl (by decide +kernel) ⟨Nat.le_of_ble_eq_true rfl, Nat.le_of_ble_eq_true rfl⟩) hK hP rfl rfl rfl hl.1 rfl (Nat.le_of_ble_eq_true rfl) dX3_count_79 ⟨Nat.zero_le _, Nat.zero_le _⟩ ?_
  exact wr_iret hx hb hr hP hS rfl rfl dX3_count_82 hlocks
set_option maxHeartbeats 4000000 in
set_option maxRecDepth 100000 in
theorem c_X3_count_7 (l : Launch) (dC : Nat → ClassId) (dI : Nat → Nat → Nat) (cI cL cZ : ClassId) (b : Nat → Nat) (w : MV)  (hv : okM w) : Met l yX3_count wsX3_count ({ frames := 4, cells := 0, slots := 0, locals := 106 }) (va_Pc [.ref (b 0), .int (nI (7))] (wr_B (dC, dI) vwCl (wM cI cZ b w) (tyS cI cL cZ))) (wr_Q (some (.int (nI (medG (mThx w (nI 0)))))) (dC, dI) vwCl (wM cI cZ b w) (wM cI cZ b (mThx w (nI 0)))) 0 0 (inW (wM cI cZ b w)) := by
  refine wr_Met (cc := cX3_count) (maxL := 2) (ret := (some .int)) (by decide) rfl (Nat.le_of_ble_eq_true rfl) ?_
  intro pr en s m below meth co ls hx hb hml hr hlocks hown hts hP hK hD hS hl
  have hl : lv_has ls 2 [(0, .ref (b 0)), (1, .int (nI (7)))] := hl
  have hown : s.vm.findClass RX3 = some m.cls := hown
  have hvp : mPn w ≤ 60 ∧ mTm w ≤ 200 ∧ mTn w ≤ 60 := ⟨hv.2.1, hv.2.2.1, hv.2.2.2.1⟩
  refine lv_aload_n hx hb dX3_count_0 rfl (lv_at hl 0 rfl) ?_
  refine lv_iconst (v := nI (0)) hx hb dX3_count_1 (by decide) ?_
  refine va_put (D := (dC, dI)) (ci := 3) (v := .int (nI (0))) (ty := .int) (C := RX3) (T := TX3) (N := 11) hx hb hts (by decide +kernel) tyX3 tyX3_ok nmX3 hown hK hP hD hS 0 rfl rfl 0 (by decide) (hts (.fieldLink RX3 33 "TriangleSheetModel" "thrown" "I") (by decide +kernel)) (fun _ h9 => h9) rfl (by decide +kernel) rfl rfl (Nat.le_of_ble_eq_true rfl) dX3_count_2 (fun H locs hP hD hS => ?_)
  have hP : va_P (dC, dI) vwCl (wM cI cZ b (((w.1.1, w.1.2.1, w.1.2.2), nI (0), mPn w, mTm w, mTn w, mIs w, mFi w, mSe w, mMk w))) H := hP
  have hD : va_D (inW (wM cI cZ b w)) (wM cI cZ b (((w.1.1, w.1.2.1, w.1.2.2), nI (0), mPn w, mTm w, mTn w, mIs w, mFi w, mSe w, mMk w))) := hD
  have hP : va_P (dC, dI) vwCl (wM cI cZ b (mThx w (nI 0))) H := hP
  have hD : va_D (inW (wM cI cZ b w)) (wM cI cZ b (mThx w (nI 0))) := hD
  have hv : okM (mThx w (nI 0)) := hv
  generalize mThx w (nI 0) = w1 at hP hD hv ⊢
  have hvp : mPn w1 ≤ 60 ∧ mTm w1 ≤ 200 ∧ mTn w1 ≤ 60 := ⟨hv.2.1, hv.2.2.1, hv.2.2.2.1⟩
  refine lv_iload_n hx hb dX3_count_5 rfl (lv_at hl 1 rfl) ?_
  refine lv_tableIn (x := nI (7)) (off := 82) (tgt := 88) hx hb dX3_count_6 (by decide) (by decide) (by decide) (by decide) ?_
  refine lv_aload_n hx hb dX3_count_88 rfl (lv_at hl 0 rfl) ?_
  refine lv_iconst (v := nI (0)) hx hb dX3_count_89 (by decide) ?_
  refine ro_V (As := [.int (nI (0))]) (rest := []) (q0 := 0) (ci := 3) hx hb hml hown hts (c_X3_edges_f l dC dI cI cL cZ b w1  hv) (cwV 1 hts gX3_count_X3_edges rfl rfl rfl (by decide +kernel) ⟨Nat.le_of_ble_eq_true rfl, Nat.le_of_ble_eq_true rfl⟩) hK hP rfl rfl rfl hl.1 rfl (Nat.le_of_ble_eq_true rfl) dX3_count_90 ⟨Nat.zero_le _, Nat.zero_le _⟩ ?_
  exact wr_iret hx hb hr hP hS rfl rfl dX3_count_93 hlocks
set_option maxHeartbeats 4000000 in
set_option maxRecDepth 100000 in
theorem c_X3_count_6 (l : Launch) (dC : Nat → ClassId) (dI : Nat → Nat → Nat) (cI cL cZ : ClassId) (b : Nat → Nat) (w : MV)  (hv : okM w) : Met l yX3_count wsX3_count ({ frames := 3, cells := 0, slots := 0, locals := 71 }) (va_Pc [.ref (b 0), .int (nI (6))] (wr_B (dC, dI) vwCl (wM cI cZ b w) (tyS cI cL cZ))) (wr_Q (some (.int (nI (mpcC (mThx w (nI 0)))))) (dC, dI) vwCl (wM cI cZ b w) (wM cI cZ b (mMkX (mThx w (nI 0)) (mfin (mThx w (nI 0)))))) 0 0 (inW (wM cI cZ b w)) := by
  refine wr_Met (cc := cX3_count) (maxL := 2) (ret := (some .int)) (by decide) rfl (Nat.le_of_ble_eq_true rfl) ?_
  intro pr en s m below meth co ls hx hb hml hr hlocks hown hts hP hK hD hS hl
  have hl : lv_has ls 2 [(0, .ref (b 0)), (1, .int (nI (6)))] := hl
  have hown : s.vm.findClass RX3 = some m.cls := hown
  have hvp : mPn w ≤ 60 ∧ mTm w ≤ 200 ∧ mTn w ≤ 60 := ⟨hv.2.1, hv.2.2.1, hv.2.2.2.1⟩
  refine lv_aload_n hx hb dX3_count_0 rfl (lv_at hl 0 rfl) ?_
  refine lv_iconst (v := nI (0)) hx hb dX3_count_1 (by decide) ?_
  refine va_put (D := (dC, dI)) (ci := 3) (v := .int (nI (0))) (ty := .int) (C := RX3) (T := TX3) (N := 11) hx hb hts (by decide +kernel) tyX3 tyX3_ok nmX3 hown hK hP hD hS 0 rfl rfl 0 (by decide) (hts (.fieldLink RX3 33 "TriangleSheetModel" "thrown" "I") (by decide +kernel)) (fun _ h9 => h9) rfl (by decide +kernel) rfl rfl (Nat.le_of_ble_eq_true rfl) dX3_count_2 (fun H locs hP hD hS => ?_)
  have hP : va_P (dC, dI) vwCl (wM cI cZ b (((w.1.1, w.1.2.1, w.1.2.2), nI (0), mPn w, mTm w, mTn w, mIs w, mFi w, mSe w, mMk w))) H := hP
  have hD : va_D (inW (wM cI cZ b w)) (wM cI cZ b (((w.1.1, w.1.2.1, w.1.2.2), nI (0), mPn w, mTm w, mTn w, mIs w, mFi w, mSe w, mMk w))) := hD
  have hP : va_P (dC, dI) vwCl (wM cI cZ b (mThx w (nI 0))) H := hP
  have hD : va_D (inW (wM cI cZ b w)) (wM cI cZ b (mThx w (nI 0))) := hD
  have hv : okM (mThx w (nI 0)) := hv
  generalize mThx w (nI 0) = w1 at hP hD hv ⊢
  have hvp : mPn w1 ≤ 60 ∧ mTm w1 ≤ 200 ∧ mTn w1 ≤ 60 := ⟨hv.2.1, hv.2.2.1, hv.2.2.2.1⟩
  refine lv_iload_n hx hb dX3_count_5 rfl (lv_at hl 1 rfl) ?_
  refine lv_tableIn (x := nI (6)) (off := 77) (tgt := 83) hx hb dX3_count_6 (by decide) (by decide) (by decide) (by decide) ?_
  refine lv_aload_n hx hb dX3_count_83 rfl (lv_at hl 0 rfl) ?_
  refine wr_V (As := []) (rest := []) (q0 := 0) (ci := 3) hx hb hml hown hts (c_X3_pieces l dC dI cI cL cZ b w1  hv) (cwV 0 hts gX3_count_X3_pieces rfl rfl rfl (by decide +kernel) ⟨Nat.le_of_ble_eq_true rfl, Nat.le_of_ble_eq_true rfl⟩) hK hP hD hS rfl rfl rfl rfl hl.1 rfl (Nat.le_of_ble_eq_true rfl) dX3_count_84 ⟨Nat.zero_le _, Nat.zero_le _⟩ (fun H locs hP hD hS => ?_)
  have hP : va_P (dC, dI) vwCl (wM cI cZ b (mMkX w1 (mfin w1))) H := hP
  have hD : va_D (inW (wM cI cZ b w)) (wM cI cZ b (mMkX w1 (mfin w1))) := hD
  refine W.eq (g2 := F0 m 87 ls [.int (nI (mpcC w1))]) rfl ?_
  exact wr_iret hx hb hr hP hS rfl rfl dX3_count_87 hlocks
set_option maxHeartbeats 4000000 in
set_option maxRecDepth 100000 in
theorem c_X3_count_b (l : Launch) (dC : Nat → ClassId) (dI : Nat → Nat → Nat) (cI cL cZ : ClassId) (b : Nat → Nat) (w : MV) (x : Int32) (hx9 : x.toInt < 0 ∨ 7 < x.toInt) : Met l yX3_count wsX3_count ({ frames := 0, cells := 0, slots := 0, locals := 0 }) (va_Pc [.ref (b 0), .int (x)] (wr_B (dC, dI) vwCl (wM cI cZ b w) (tyS cI cL cZ))) (wr_Q (some (.int (iI (-1)))) (dC, dI) vwCl (wM cI cZ b w) (wM cI cZ b (mThx w (nI 0)))) 0 0 (inW (wM cI cZ b w)) := by
  refine wr_Met (cc := cX3_count) (maxL := 2) (ret := (some .int)) (by decide) rfl (Nat.le_of_ble_eq_true rfl) ?_
  intro pr en s m below meth co ls hx hb hml hr hlocks hown hts hP hK hD hS hl
  have hl : lv_has ls 2 [(0, .ref (b 0)), (1, .int (x))] := hl
  have hown : s.vm.findClass RX3 = some m.cls := hown
  refine lv_aload_n hx hb dX3_count_0 rfl (lv_at hl 0 rfl) ?_
  refine lv_iconst (v := nI (0)) hx hb dX3_count_1 (by decide) ?_
  refine va_put (D := (dC, dI)) (ci := 3) (v := .int (nI (0))) (ty := .int) (C := RX3) (T := TX3) (N := 11) hx hb hts (by decide +kernel) tyX3 tyX3_ok nmX3 hown hK hP hD hS 0 rfl rfl 0 (by decide) (hts (.fieldLink RX3 33 "TriangleSheetModel" "thrown" "I") (by decide +kernel)) (fun _ h9 => h9) rfl (by decide +kernel) rfl rfl (Nat.le_of_ble_eq_true rfl) dX3_count_2 (fun H locs hP hD hS => ?_)
  have hP : va_P (dC, dI) vwCl (wM cI cZ b (((w.1.1, w.1.2.1, w.1.2.2), nI (0), mPn w, mTm w, mTn w, mIs w, mFi w, mSe w, mMk w))) H := hP
  have hD : va_D (inW (wM cI cZ b w)) (wM cI cZ b (((w.1.1, w.1.2.1, w.1.2.2), nI (0), mPn w, mTm w, mTn w, mIs w, mFi w, mSe w, mMk w))) := hD
  refine lv_iload_n hx hb dX3_count_5 rfl (lv_at hl 1 rfl) ?_
  refine lv_tableOut (tgt := 94) hx hb dX3_count_6 hx9 (by decide) ?_
  refine lv_iconst (v := iI (-1)) hx hb dX3_count_94 (by decide) ?_
  exact wr_iret hx hb hr hP hS rfl rfl dX3_count_95 hlocks
