set_option maxHeartbeats 4000000 in
set_option maxRecDepth 100000 in
theorem c_X0_put (l : Launch) (dC : Nat → ClassId) (dI : Nat → Nat → Nat) (cI cL cZ : ClassId) (a : Nat → Nat) (v : SV) (q x y : Nat) (hq : q < 60) : Met l yX0_put wsX0_put ({ frames := 0, cells := 0, slots := 0, locals := 0 }) (va_Pc [.ref (a 1), .int (nI (q)), .int (nI (x)), .int (nI (y))] (wr_B (dC, dI) vwCl (wS cI cL a v) (tyS cI cL cZ))) (wr_Q none (dC, dI) vwCl (wS cI cL a v) (wS cI cL a (sPut v q x y))) 0 0 (inW (wS cI cL a v)) := by
  refine wr_Met (cc := cX0_put) (maxL := 4) (ret := none) (by decide) rfl (Nat.le_of_ble_eq_true rfl) ?_
  intro pr en s m below meth co ls hx hb hml hr hlocks hown hts hP hK hD hS hl
  have hl : lv_has ls 4 [(0, .ref (a 1)), (1, .int (nI (q))), (2, .int (nI (x))), (3, .int (nI (y)))] := hl
  have hown : s.vm.findClass RX0 = some m.cls := hown
  refine lv_aload_n hx hb dX0_put_0 rfl (lv_at hl 0 rfl) ?_
  refine va_get (D := (dC, dI)) (ci := 0) (v := .ref (a 2)) (C := RX0) (T := TX0) (N := 3) hx hb hts (by decide +kernel) hown hK hP 1 rfl rfl 0 (by decide) (hts (.fieldLink RX0 9 "TriangleSheet$Points" "xs" "[I") (by decide +kernel)) (fun _ h9 => h9) rfl dX0_put_1 ?_
  refine lv_iload_n hx hb dX0_put_4 rfl (lv_at hl 1 rfl) ?_
  refine lv_iload_n hx hb dX0_put_5 rfl (lv_at hl 2 rfl) ?_
  refine ia_st (k := q) hx hb hK hP hD hS 2 0 rfl rfl (by omega) (by decide) (upd_n (v.1.1) (q) (x)) dX0_put_6 (fun H locs hP hD hS => ?_)
  have hP : va_P (dC, dI) vwCl (wS cI cL a (((va_up (v.1.1) (q) (x), v.1.2.1, v.1.2.2), sPn v, sTh v, sTn v, sTm v, sJo v, sPi v, sFa v, sFb v))) H := hP
  have hD : va_D (inW (wS cI cL a v)) (wS cI cL a (((va_up (v.1.1) (q) (x), v.1.2.1, v.1.2.2), sPn v, sTh v, sTn v, sTm v, sJo v, sPi v, sFa v, sFb v))) := hD
  refine lv_aload_n hx hb dX0_put_7 rfl (lv_at hl 0 rfl) ?_
  refine va_get (D := (dC, dI)) (ci := 0) (v := .ref (a 3)) (C := RX0) (T := TX0) (N := 3) hx hb hts (by decide +kernel) hown hK hP 1 rfl rfl 1 (by decide) (hts (.fieldLink RX0 15 "TriangleSheet$Points" "ys" "[I") (by decide +kernel)) (fun _ h9 => h9) rfl dX0_put_8 ?_
  refine lv_iload_n hx hb dX0_put_11 rfl (lv_at hl 1 rfl) ?_
  refine lv_iload_n hx hb dX0_put_12 rfl (lv_at hl 3 rfl) ?_
  refine ia_st (k := q) hx hb hK hP hD hS 3 0 rfl rfl (by omega) (by decide) (upd_n (v.1.2.1) (q) (y)) dX0_put_13 (fun H locs hP hD hS => ?_)
  have hP : va_P (dC, dI) vwCl (wS cI cL a (((va_up (v.1.1) (q) (x), va_up (v.1.2.1) (q) (y), v.1.2.2), sPn v, sTh v, sTn v, sTm v, sJo v, sPi v, sFa v, sFb v))) H := hP
  have hD : va_D (inW (wS cI cL a v)) (wS cI cL a (((va_up (v.1.1) (q) (x), va_up (v.1.2.1) (q) (y), v.1.2.2), sPn v, sTh v, sTn v, sTm v, sJo v, sPi v, sFa v, sFb v))) := hD
  exact wr_vret hx hb hr hP hS rfl rfl dX0_put_14 hlocks
set_option maxHeartbeats 4000000 in
set_option maxRecDepth 100000 in
theorem c_X0_add (l : Launch) (dC : Nat → ClassId) (dI : Nat → Nat → Nat) (cI cL cZ : ClassId) (a : Nat → Nat) (v : SV) (x y : Nat) (hq : sPn v < 60) : Met l yX0_add wsX0_add ({ frames := 1, cells := 0, slots := 0, locals := 23 }) (va_Pc [.ref (a 1), .int (nI (x)), .int (nI (y))] (wr_B (dC, dI) vwCl (wS cI cL a v) (tyS cI cL cZ))) (wr_Q (some (.int (nI (sPn v)))) (dC, dI) vwCl (wS cI cL a v) (wS cI cL a (sAddP v x y))) 0 0 (inW (wS cI cL a v)) := by
  refine wr_Met (cc := cX0_add) (maxL := 4) (ret := (some .int)) (by decide) rfl (Nat.le_of_ble_eq_true rfl) ?_
  intro pr en s m below meth co ls hx hb hml hr hlocks hown hts hP hK hD hS hl
  have hl : lv_has ls 4 [(0, .ref (a 1)), (1, .int (nI (x))), (2, .int (nI (y)))] := hl
  have hown : s.vm.findClass RX0 = some m.cls := hown
  refine lv_aload_n hx hb dX0_add_0 rfl (lv_at hl 0 rfl) ?_
  refine va_get (D := (dC, dI)) (ci := 0) (v := .int (nI (sPn v))) (C := RX0) (T := TX0) (N := 3) hx hb hts (by decide +kernel) hown hK hP 1 rfl rfl 2 (by decide) (hts (.fieldLink RX0 18 "TriangleSheet$Points" "came" "I") (by decide +kernel)) (fun _ h9 => h9) rfl dX0_add_1 ?_
  refine lv_istore_n (lv' := [(3, .int (nI (sPn v))), (0, .ref (a 1)), (1, .int (nI (x))), (2, .int (nI (y)))]) hx hb dX0_add_4 rfl hl (by decide) rfl (fun ls hl => ?_)
  refine lv_aload_n hx hb dX0_add_5 rfl (lv_at hl 1 rfl) ?_
  refine lv_dup hx hb dX0_add_6 rfl ?_
  refine va_get (D := (dC, dI)) (ci := 0) (v := .int (nI (sPn v))) (C := RX0) (T := TX0) (N := 3) hx hb hts (by decide +kernel) hown hK hP 1 rfl rfl 2 (by decide) (hts (.fieldLink RX0 18 "TriangleSheet$Points" "came" "I") (by decide +kernel)) (fun _ h9 => h9) rfl dX0_add_7 ?_
  refine lv_iconst (v := nI (1)) hx hb dX0_add_10 (by decide) ?_
  refine lv_iadd hx hb dX0_add_11 ?_
  refine rt_i (y := (nI (sPn v + 1))) (nn_add (sPn v) (1)) ?_
  refine va_put (D := (dC, dI)) (ci := 0) (v := .int (nI (sPn v + 1))) (ty := .int) (C := RX0) (T := TX0) (N := 3) hx hb hts (by decide +kernel) tyX0 tyX0_ok nmX0 hown hK hP hD hS 1 rfl rfl 2 (by decide) (hts (.fieldLink RX0 18 "TriangleSheet$Points" "came" "I") (by decide +kernel)) (fun _ h9 => h9) rfl (by decide +kernel) rfl rfl (Nat.le_of_ble_eq_true rfl) dX0_add_12 (fun H locs hP hD hS => ?_)
  have hP : va_P (dC, dI) vwCl (wS cI cL a (((v.1.1, v.1.2.1, v.1.2.2), sPn v + 1, sTh v, sTn v, sTm v, sJo v, sPi v, sFa v, sFb v))) H := hP
  have hD : va_D (inW (wS cI cL a v)) (wS cI cL a (((v.1.1, v.1.2.1, v.1.2.2), sPn v + 1, sTh v, sTn v, sTm v, sJo v, sPi v, sFa v, sFb v))) := hD
  refine lv_aload_n hx hb dX0_add_15 rfl (lv_at hl 1 rfl) ?_
  refine lv_iload_n hx hb dX0_add_16 rfl (lv_at hl 0 rfl) ?_
  refine lv_iload_n hx hb dX0_add_17 rfl (lv_at hl 2 rfl) ?_
  refine lv_iload_n hx hb dX0_add_18 rfl (lv_at hl 3 rfl) ?_
  refine wr_V (As := [.int (nI (sPn v)), .int (nI (x)), .int (nI (y))]) (rest := []) (q0 := 1) (ci := 0) hx hb hml hown hts (c_X0_put l dC dI cI cL cZ a (((v.1.1, v.1.2.1, v.1.2.2), sPn v + 1, sTh v, sTn v, sTm v, sJo v, sPi v, sFa v, sFb v)) (sPn v) x y (by omega)) (cwV 3 hts gX0_add_X0_put rfl rfl rfl (by decide +kernel) ⟨Nat.le_of_ble_eq_true rfl, Nat.le_of_ble_eq_true rfl⟩) hK hP hD hS rfl rfl rfl rfl hl.1 rfl (Nat.le_of_ble_eq_true rfl) dX0_add_19 ⟨Nat.zero_le _, Nat.zero_le _⟩ (fun H locs hP hD hS => ?_)
  have hP : va_P (dC, dI) vwCl (wS cI cL a (sPut (((v.1.1, v.1.2.1, v.1.2.2), sPn v + 1, sTh v, sTn v, sTm v, sJo v, sPi v, sFa v, sFb v)) (sPn v) x y)) H := hP
  have hD : va_D (inW (wS cI cL a v)) (wS cI cL a (sPut (((v.1.1, v.1.2.1, v.1.2.2), sPn v + 1, sTh v, sTn v, sTm v, sJo v, sPi v, sFa v, sFb v)) (sPn v) x y)) := hD
  refine W.eq (g2 := F0 m 22 ls []) rfl ?_
  refine lv_iload_n hx hb dX0_add_22 rfl (lv_at hl 0 rfl) ?_
  exact wr_iret hx hb hr hP hS rfl rfl dX0_add_23 hlocks
set_option maxHeartbeats 4000000 in
set_option maxRecDepth 100000 in
theorem c_X1_put (l : Launch) (dC : Nat → ClassId) (dI : Nat → Nat → Nat) (cI cL cZ : ClassId) (a : Nat → Nat) (v : SV) (t x y u : Nat) (ht : t < 200) : Met l yX1_put wsX1_put ({ frames := 0, cells := 0, slots := 0, locals := 0 }) (va_Pc [.ref (a 4), .int (nI (t)), .int (nI (x)), .int (nI (y)), .int (nI (u))] (wr_B (dC, dI) vwCl (wS cI cL a v) (tyS cI cL cZ))) (wr_Q none (dC, dI) vwCl (wS cI cL a v) (wS cI cL a (sPutT v t x y u))) 0 0 (inW (wS cI cL a v)) := by
  refine wr_Met (cc := cX1_put) (maxL := 5) (ret := none) (by decide) rfl (Nat.le_of_ble_eq_true rfl) ?_
  intro pr en s m below meth co ls hx hb hml hr hlocks hown hts hP hK hD hS hl
  have hl : lv_has ls 5 [(0, .ref (a 4)), (1, .int (nI (t))), (2, .int (nI (x))), (3, .int (nI (y))), (4, .int (nI (u)))] := hl
  have hown : s.vm.findClass RX1 = some m.cls := hown
  refine lv_aload_n hx hb dX1_put_0 rfl (lv_at hl 0 rfl) ?_
  refine va_get (D := (dC, dI)) (ci := 1) (v := .ref (a 5)) (C := RX1) (T := TX1) (N := 4) hx hb hts (by decide +kernel) hown hK hP 4 rfl rfl 0 (by decide) (hts (.fieldLink RX1 9 "TriangleSheet$Triangles" "corners" "[I") (by decide +kernel)) (fun _ h9 => h9) rfl dX1_put_1 ?_
  refine lv_iconst (v := nI (3)) hx hb dX1_put_4 (by decide) ?_
  refine lv_iload_n hx hb dX1_put_5 rfl (lv_at hl 1 rfl) ?_
  refine lv_imul hx hb dX1_put_6 ?_
  refine rt_i (y := (nI ((3) * (t)))) (nn_mul (3) (t)) ?_
  refine lv_iload_n hx hb dX1_put_7 rfl (lv_at hl 2 rfl) ?_
  refine ia_st (k := (3) * (t)) hx hb hK hP hD hS 5 0 rfl rfl (by omega) (by decide) (upd_n (v.1.2.2) ((3) * (t)) (x)) dX1_put_8 (fun H locs hP hD hS => ?_)
  have hP : va_P (dC, dI) vwCl (wS cI cL a (((v.1.1, v.1.2.1, va_up (v.1.2.2) ((3) * (t)) (x)), sPn v, sTh v, sTn v, sTm v, sJo v, sPi v, sFa v, sFb v))) H := hP
  have hD : va_D (inW (wS cI cL a v)) (wS cI cL a (((v.1.1, v.1.2.1, va_up (v.1.2.2) ((3) * (t)) (x)), sPn v, sTh v, sTn v, sTm v, sJo v, sPi v, sFa v, sFb v))) := hD
  refine lv_aload_n hx hb dX1_put_9 rfl (lv_at hl 0 rfl) ?_
  refine va_get (D := (dC, dI)) (ci := 1) (v := .ref (a 5)) (C := RX1) (T := TX1) (N := 4) hx hb hts (by decide +kernel) hown hK hP 4 rfl rfl 0 (by decide) (hts (.fieldLink RX1 9 "TriangleSheet$Triangles" "corners" "[I") (by decide +kernel)) (fun _ h9 => h9) rfl dX1_put_10 ?_
  refine lv_iconst (v := nI (3)) hx hb dX1_put_13 (by decide) ?_
  refine lv_iload_n hx hb dX1_put_14 rfl (lv_at hl 1 rfl) ?_
  refine lv_imul hx hb dX1_put_15 ?_
  refine rt_i (y := (nI ((3) * (t)))) (nn_mul (3) (t)) ?_
  refine lv_iconst (v := nI (1)) hx hb dX1_put_16 (by decide) ?_
  refine lv_iadd hx hb dX1_put_17 ?_
  refine rt_i (y := (nI ((3) * (t) + 1))) (nn_add ((3) * (t)) (1)) ?_
  refine lv_iload_n hx hb dX1_put_18 rfl (lv_at hl 3 rfl) ?_
  refine ia_st (k := (3) * (t) + 1) hx hb hK hP hD hS 5 0 rfl rfl (by omega) (by decide) (upd_n ((va_up (v.1.2.2) ((3) * (t)) (x))) ((3) * (t) + 1) (y)) dX1_put_19 (fun H locs hP hD hS => ?_)
  have hP : va_P (dC, dI) vwCl (wS cI cL a (((v.1.1, v.1.2.1, va_up ((va_up (v.1.2.2) ((3) * (t)) (x))) ((3) * (t) + 1) (y)), sPn v, sTh v, sTn v, sTm v, sJo v, sPi v, sFa v, sFb v))) H := hP
  have hD : va_D (inW (wS cI cL a v)) (wS cI cL a (((v.1.1, v.1.2.1, va_up ((va_up (v.1.2.2) ((3) * (t)) (x))) ((3) * (t) + 1) (y)), sPn v, sTh v, sTn v, sTm v, sJo v, sPi v, sFa v, sFb v))) := hD
  refine lv_aload_n hx hb dX1_put_20 rfl (lv_at hl 0 rfl) ?_
  refine va_get (D := (dC, dI)) (ci := 1) (v := .ref (a 5)) (C := RX1) (T := TX1) (N := 4) hx hb hts (by decide +kernel) hown hK hP 4 rfl rfl 0 (by decide) (hts (.fieldLink RX1 9 "TriangleSheet$Triangles" "corners" "[I") (by decide +kernel)) (fun _ h9 => h9) rfl dX1_put_21 ?_
  refine lv_iconst (v := nI (3)) hx hb dX1_put_24 (by decide) ?_
  refine lv_iload_n hx hb dX1_put_25 rfl (lv_at hl 1 rfl) ?_
  refine lv_imul hx hb dX1_put_26 ?_
  refine rt_i (y := (nI ((3) * (t)))) (nn_mul (3) (t)) ?_
  refine lv_iconst (v := nI (2)) hx hb dX1_put_27 (by decide) ?_
  refine lv_iadd hx hb dX1_put_28 ?_
  refine rt_i (y := (nI ((3) * (t) + 2))) (nn_add ((3) * (t)) (2)) ?_
  refine lv_iload hx hb dX1_put_29 (lv_at hl 4 rfl) ?_
  refine ia_st (k := (3) * (t) + 2) hx hb hK hP hD hS 5 0 rfl rfl (by omega) (by decide) (upd_n ((va_up ((va_up (v.1.2.2) ((3) * (t)) (x))) ((3) * (t) + 1) (y))) ((3) * (t) + 2) (u)) dX1_put_31 (fun H locs hP hD hS => ?_)
  have hP : va_P (dC, dI) vwCl (wS cI cL a (((v.1.1, v.1.2.1, va_up ((va_up ((va_up (v.1.2.2) ((3) * (t)) (x))) ((3) * (t) + 1) (y))) ((3) * (t) + 2) (u)), sPn v, sTh v, sTn v, sTm v, sJo v, sPi v, sFa v, sFb v))) H := hP
  have hD : va_D (inW (wS cI cL a v)) (wS cI cL a (((v.1.1, v.1.2.1, va_up ((va_up ((va_up (v.1.2.2) ((3) * (t)) (x))) ((3) * (t) + 1) (y))) ((3) * (t) + 2) (u)), sPn v, sTh v, sTn v, sTm v, sJo v, sPi v, sFa v, sFb v))) := hD
  exact wr_vret hx hb hr hP hS rfl rfl dX1_put_32 hlocks
set_option maxHeartbeats 4000000 in
set_option maxRecDepth 100000 in
theorem c_X1_add (l : Launch) (dC : Nat → ClassId) (dI : Nat → Nat → Nat) (cI cL cZ : ClassId) (a : Nat → Nat) (v : SV) (x y u : Nat) (ht : sTm v < 200) (hn : sTn v < 60) : Met l yX1_add wsX1_add ({ frames := 1, cells := 0, slots := 0, locals := 24 }) (va_Pc [.ref (a 4), .int (nI (x)), .int (nI (y)), .int (nI (u))] (wr_B (dC, dI) vwCl (wS cI cL a v) (tyS cI cL cZ))) (wr_Q (some (.int (nI (sTm v)))) (dC, dI) vwCl (wS cI cL a v) (wS cI cL a (sAddT v x y u))) 0 0 (inW (wS cI cL a v)) := by
  refine wr_Met (cc := cX1_add) (maxL := 5) (ret := (some .int)) (by decide) rfl (Nat.le_of_ble_eq_true rfl) ?_
  intro pr en s m below meth co ls hx hb hml hr hlocks hown hts hP hK hD hS hl
  have hl : lv_has ls 5 [(0, .ref (a 4)), (1, .int (nI (x))), (2, .int (nI (y))), (3, .int (nI (u)))] := hl
  have hown : s.vm.findClass RX1 = some m.cls := hown
  refine lv_aload_n hx hb dX1_add_0 rfl (lv_at hl 0 rfl) ?_
  refine va_get (D := (dC, dI)) (ci := 1) (v := .int (nI (sTm v))) (C := RX1) (T := TX1) (N := 4) hx hb hts (by decide +kernel) hown hK hP 4 rfl rfl 3 (by decide) (hts (.fieldLink RX1 22 "TriangleSheet$Triangles" "came" "I") (by decide +kernel)) (fun _ h9 => h9) rfl dX1_add_1 ?_
  refine lv_istore (lv' := [(4, .int (nI (sTm v))), (0, .ref (a 4)), (1, .int (nI (x))), (2, .int (nI (y))), (3, .int (nI (u)))]) hx hb dX1_add_4 hl (by decide) rfl (fun ls hl => ?_)
  refine lv_aload_n hx hb dX1_add_6 rfl (lv_at hl 1 rfl) ?_
  refine lv_dup hx hb dX1_add_7 rfl ?_
  refine va_get (D := (dC, dI)) (ci := 1) (v := .int (nI (sTm v))) (C := RX1) (T := TX1) (N := 4) hx hb hts (by decide +kernel) hown hK hP 4 rfl rfl 3 (by decide) (hts (.fieldLink RX1 22 "TriangleSheet$Triangles" "came" "I") (by decide +kernel)) (fun _ h9 => h9) rfl dX1_add_8 ?_
  refine lv_iconst (v := nI (1)) hx hb dX1_add_11 (by decide) ?_
  refine lv_iadd hx hb dX1_add_12 ?_
  refine rt_i (y := (nI (sTm v + 1))) (nn_add (sTm v) (1)) ?_
  refine va_put (D := (dC, dI)) (ci := 1) (v := .int (nI (sTm v + 1))) (ty := .int) (C := RX1) (T := TX1) (N := 4) hx hb hts (by decide +kernel) tyX1 tyX1_ok nmX1 hown hK hP hD hS 4 rfl rfl 3 (by decide) (hts (.fieldLink RX1 22 "TriangleSheet$Triangles" "came" "I") (by decide +kernel)) (fun _ h9 => h9) rfl (by decide +kernel) rfl rfl (Nat.le_of_ble_eq_true rfl) dX1_add_13 (fun H locs hP hD hS => ?_)
  have hP : va_P (dC, dI) vwCl (wS cI cL a (((v.1.1, v.1.2.1, v.1.2.2), sPn v, sTh v, sTn v, sTm v + 1, sJo v, sPi v, sFa v, sFb v))) H := hP
  have hD : va_D (inW (wS cI cL a v)) (wS cI cL a (((v.1.1, v.1.2.1, v.1.2.2), sPn v, sTh v, sTn v, sTm v + 1, sJo v, sPi v, sFa v, sFb v))) := hD
  refine lv_aload_n hx hb dX1_add_16 rfl (lv_at hl 1 rfl) ?_
  refine lv_iload hx hb dX1_add_17 (lv_at hl 0 rfl) ?_
  refine lv_iload_n hx hb dX1_add_19 rfl (lv_at hl 2 rfl) ?_
  refine lv_iload_n hx hb dX1_add_20 rfl (lv_at hl 3 rfl) ?_
  refine lv_iload_n hx hb dX1_add_21 rfl (lv_at hl 4 rfl) ?_
  refine wr_V (As := [.int (nI (sTm v)), .int (nI (x)), .int (nI (y)), .int (nI (u))]) (rest := []) (q0 := 4) (ci := 1) hx hb hml hown hts (c_X1_put l dC dI cI cL cZ a (((v.1.1, v.1.2.1, v.1.2.2), sPn v, sTh v, sTn v, sTm v + 1, sJo v, sPi v, sFa v, sFb v)) (sTm v) x y u (by omega)) (cwV 4 hts gX1_add_X1_put rfl rfl rfl (by decide +kernel) ⟨Nat.le_of_ble_eq_true rfl, Nat.le_of_ble_eq_true rfl⟩) hK hP hD hS rfl rfl rfl rfl hl.1 rfl (Nat.le_of_ble_eq_true rfl) dX1_add_22 ⟨Nat.zero_le _, Nat.zero_le _⟩ (fun H locs hP hD hS => ?_)
  have hP : va_P (dC, dI) vwCl (wS cI cL a (sPutT (((v.1.1, v.1.2.1, v.1.2.2), sPn v, sTh v, sTn v, sTm v + 1, sJo v, sPi v, sFa v, sFb v)) (sTm v) x y u)) H := hP
  have hD : va_D (inW (wS cI cL a v)) (wS cI cL a (sPutT (((v.1.1, v.1.2.1, v.1.2.2), sPn v, sTh v, sTn v, sTm v + 1, sJo v, sPi v, sFa v, sFb v)) (sTm v) x y u)) := hD
  refine W.eq (g2 := F0 m 25 ls []) rfl ?_
  refine lv_aload_n hx hb dX1_add_25 rfl (lv_at hl 1 rfl) ?_
  refine va_get (D := (dC, dI)) (ci := 1) (v := .ref (a 6)) (C := RX1) (T := TX1) (N := 4) hx hb hts (by decide +kernel) hown hK hP 4 rfl rfl 1 (by decide) (hts (.fieldLink RX1 15 "TriangleSheet$Triangles" "there" "[I") (by decide +kernel)) (fun _ h9 => h9) rfl dX1_add_26 ?_
  refine lv_aload_n hx hb dX1_add_29 rfl (lv_at hl 1 rfl) ?_
  refine va_get (D := (dC, dI)) (ci := 1) (v := .int (nI (sTn (sPutT (((v.1.1, v.1.2.1, v.1.2.2), sPn v, sTh v, sTn v, sTm v + 1, sJo v, sPi v, sFa v, sFb v)) (sTm v) x y u)))) (C := RX1) (T := TX1) (N := 4) hx hb hts (by decide +kernel) hown hK hP 4 rfl rfl 2 (by decide) (hts (.fieldLink RX1 18 "TriangleSheet$Triangles" "thereCount" "I") (by decide +kernel)) (fun _ h9 => h9) rfl dX1_add_30 ?_
  refine lv_iload hx hb dX1_add_33 (lv_at hl 0 rfl) ?_
  refine ia_st (k := sTn (sPutT (((v.1.1, v.1.2.1, v.1.2.2), sPn v, sTh v, sTn v, sTm v + 1, sJo v, sPi v, sFa v, sFb v)) (sTm v) x y u)) hx hb hK hP hD hS 6 0 rfl rfl (by omega) (by decide) (upd_n ((sTh (sPutT (((v.1.1, v.1.2.1, v.1.2.2), sPn v, sTh v, sTn v, sTm v + 1, sJo v, sPi v, sFa v, sFb v)) (sTm v) x y u))) (sTn (sPutT (((v.1.1, v.1.2.1, v.1.2.2), sPn v, sTh v, sTn v, sTm v + 1, sJo v, sPi v, sFa v, sFb v)) (sTm v) x y u)) (sTm v)) dX1_add_35 (fun H locs hP hD hS => ?_)
  have hP : va_P (dC, dI) vwCl (wS cI cL a ((((sPutT (((v.1.1, v.1.2.1, v.1.2.2), sPn v, sTh v, sTn v, sTm v + 1, sJo v, sPi v, sFa v, sFb v)) (sTm v) x y u).1.1, (sPutT (((v.1.1, v.1.2.1, v.1.2.2), sPn v, sTh v, sTn v, sTm v + 1, sJo v, sPi v, sFa v, sFb v)) (sTm v) x y u).1.2.1, (sPutT (((v.1.1, v.1.2.1, v.1.2.2), sPn v, sTh v, sTn v, sTm v + 1, sJo v, sPi v, sFa v, sFb v)) (sTm v) x y u).1.2.2), sPn (sPutT (((v.1.1, v.1.2.1, v.1.2.2), sPn v, sTh v, sTn v, sTm v + 1, sJo v, sPi v, sFa v, sFb v)) (sTm v) x y u), va_up ((sTh (sPutT (((v.1.1, v.1.2.1, v.1.2.2), sPn v, sTh v, sTn v, sTm v + 1, sJo v, sPi v, sFa v, sFb v)) (sTm v) x y u))) (sTn (sPutT (((v.1.1, v.1.2.1, v.1.2.2), sPn v, sTh v, sTn v, sTm v + 1, sJo v, sPi v, sFa v, sFb v)) (sTm v) x y u)) (sTm v), sTn (sPutT (((v.1.1, v.1.2.1, v.1.2.2), sPn v, sTh v, sTn v, sTm v + 1, sJo v, sPi v, sFa v, sFb v)) (sTm v) x y u), sTm (sPutT (((v.1.1, v.1.2.1, v.1.2.2), sPn v, sTh v, sTn v, sTm v + 1, sJo v, sPi v, sFa v, sFb v)) (sTm v) x y u), sJo (sPutT (((v.1.1, v.1.2.1, v.1.2.2), sPn v, sTh v, sTn v, sTm v + 1, sJo v, sPi v, sFa v, sFb v)) (sTm v) x y u), sPi (sPutT (((v.1.1, v.1.2.1, v.1.2.2), sPn v, sTh v, sTn v, sTm v + 1, sJo v, sPi v, sFa v, sFb v)) (sTm v) x y u), sFa (sPutT (((v.1.1, v.1.2.1, v.1.2.2), sPn v, sTh v, sTn v, sTm v + 1, sJo v, sPi v, sFa v, sFb v)) (sTm v) x y u), sFb (sPutT (((v.1.1, v.1.2.1, v.1.2.2), sPn v, sTh v, sTn v, sTm v + 1, sJo v, sPi v, sFa v, sFb v)) (sTm v) x y u)))) H := hP
  have hD : va_D (inW (wS cI cL a v)) (wS cI cL a ((((sPutT (((v.1.1, v.1.2.1, v.1.2.2), sPn v, sTh v, sTn v, sTm v + 1, sJo v, sPi v, sFa v, sFb v)) (sTm v) x y u).1.1, (sPutT (((v.1.1, v.1.2.1, v.1.2.2), sPn v, sTh v, sTn v, sTm v + 1, sJo v, sPi v, sFa v, sFb v)) (sTm v) x y u).1.2.1, (sPutT (((v.1.1, v.1.2.1, v.1.2.2), sPn v, sTh v, sTn v, sTm v + 1, sJo v, sPi v, sFa v, sFb v)) (sTm v) x y u).1.2.2), sPn (sPutT (((v.1.1, v.1.2.1, v.1.2.2), sPn v, sTh v, sTn v, sTm v + 1, sJo v, sPi v, sFa v, sFb v)) (sTm v) x y u), va_up ((sTh (sPutT (((v.1.1, v.1.2.1, v.1.2.2), sPn v, sTh v, sTn v, sTm v + 1, sJo v, sPi v, sFa v, sFb v)) (sTm v) x y u))) (sTn (sPutT (((v.1.1, v.1.2.1, v.1.2.2), sPn v, sTh v, sTn v, sTm v + 1, sJo v, sPi v, sFa v, sFb v)) (sTm v) x y u)) (sTm v), sTn (sPutT (((v.1.1, v.1.2.1, v.1.2.2), sPn v, sTh v, sTn v, sTm v + 1, sJo v, sPi v, sFa v, sFb v)) (sTm v) x y u), sTm (sPutT (((v.1.1, v.1.2.1, v.1.2.2), sPn v, sTh v, sTn v, sTm v + 1, sJo v, sPi v, sFa v, sFb v)) (sTm v) x y u), sJo (sPutT (((v.1.1, v.1.2.1, v.1.2.2), sPn v, sTh v, sTn v, sTm v + 1, sJo v, sPi v, sFa v, sFb v)) (sTm v) x y u), sPi (sPutT (((v.1.1, v.1.2.1, v.1.2.2), sPn v, sTh v, sTn v, sTm v + 1, sJo v, sPi v, sFa v, sFb v)) (sTm v) x y u), sFa (sPutT (((v.1.1, v.1.2.1, v.1.2.2), sPn v, sTh v, sTn v, sTm v + 1, sJo v, sPi v, sFa v, sFb v)) (sTm v) x y u), sFb (sPutT (((v.1.1, v.1.2.1, v.1.2.2), sPn v, sTh v, sTn v, sTm v + 1, sJo v, sPi v, sFa v, sFb v)) (sTm v) x y u)))) := hD
  refine lv_aload_n hx hb dX1_add_36 rfl (lv_at hl 1 rfl) ?_
  refine lv_dup hx hb dX1_add_37 rfl ?_
  refine va_get (D := (dC, dI)) (ci := 1) (v := .int (nI (sTn (sPutT (((v.1.1, v.1.2.1, v.1.2.2), sPn v, sTh v, sTn v, sTm v + 1, sJo v, sPi v, sFa v, sFb v)) (sTm v) x y u)))) (C := RX1) (T := TX1) (N := 4) hx hb hts (by decide +kernel) hown hK hP 4 rfl rfl 2 (by decide) (hts (.fieldLink RX1 18 "TriangleSheet$Triangles" "thereCount" "I") (by decide +kernel)) (fun _ h9 => h9) rfl dX1_add_38 ?_
  refine lv_iconst (v := nI (1)) hx hb dX1_add_41 (by decide) ?_
  refine lv_iadd hx hb dX1_add_42 ?_
  refine rt_i (y := (nI (sTn (sPutT (((v.1.1, v.1.2.1, v.1.2.2), sPn v, sTh v, sTn v, sTm v + 1, sJo v, sPi v, sFa v, sFb v)) (sTm v) x y u) + 1))) (nn_add (sTn (sPutT (((v.1.1, v.1.2.1, v.1.2.2), sPn v, sTh v, sTn v, sTm v + 1, sJo v, sPi v, sFa v, sFb v)) (sTm v) x y u)) (1)) ?_
  refine va_put (D := (dC, dI)) (ci := 1) (v := .int (nI (sTn (sPutT (((v.1.1, v.1.2.1, v.1.2.2), sPn v, sTh v, sTn v, sTm v + 1, sJo v, sPi v, sFa v, sFb v)) (sTm v) x y u) + 1))) (ty := .int) (C := RX1) (T := TX1) (N := 4) hx hb hts (by decide +kernel) tyX1 tyX1_ok nmX1 hown hK hP hD hS 4 rfl rfl 2 (by decide) (hts (.fieldLink RX1 18 "TriangleSheet$Triangles" "thereCount" "I") (by decide +kernel)) (fun _ h9 => h9) rfl (by decide +kernel) rfl rfl (Nat.le_of_ble_eq_true rfl) dX1_add_43 (fun H locs hP hD hS => ?_)
  have hP : va_P (dC, dI) vwCl (wS cI cL a ((((sPutT (((v.1.1, v.1.2.1, v.1.2.2), sPn v, sTh v, sTn v, sTm v + 1, sJo v, sPi v, sFa v, sFb v)) (sTm v) x y u).1.1, (sPutT (((v.1.1, v.1.2.1, v.1.2.2), sPn v, sTh v, sTn v, sTm v + 1, sJo v, sPi v, sFa v, sFb v)) (sTm v) x y u).1.2.1, (sPutT (((v.1.1, v.1.2.1, v.1.2.2), sPn v, sTh v, sTn v, sTm v + 1, sJo v, sPi v, sFa v, sFb v)) (sTm v) x y u).1.2.2), sPn (sPutT (((v.1.1, v.1.2.1, v.1.2.2), sPn v, sTh v, sTn v, sTm v + 1, sJo v, sPi v, sFa v, sFb v)) (sTm v) x y u), va_up ((sTh (sPutT (((v.1.1, v.1.2.1, v.1.2.2), sPn v, sTh v, sTn v, sTm v + 1, sJo v, sPi v, sFa v, sFb v)) (sTm v) x y u))) (sTn (sPutT (((v.1.1, v.1.2.1, v.1.2.2), sPn v, sTh v, sTn v, sTm v + 1, sJo v, sPi v, sFa v, sFb v)) (sTm v) x y u)) (sTm v), sTn (sPutT (((v.1.1, v.1.2.1, v.1.2.2), sPn v, sTh v, sTn v, sTm v + 1, sJo v, sPi v, sFa v, sFb v)) (sTm v) x y u) + 1, sTm (sPutT (((v.1.1, v.1.2.1, v.1.2.2), sPn v, sTh v, sTn v, sTm v + 1, sJo v, sPi v, sFa v, sFb v)) (sTm v) x y u), sJo (sPutT (((v.1.1, v.1.2.1, v.1.2.2), sPn v, sTh v, sTn v, sTm v + 1, sJo v, sPi v, sFa v, sFb v)) (sTm v) x y u), sPi (sPutT (((v.1.1, v.1.2.1, v.1.2.2), sPn v, sTh v, sTn v, sTm v + 1, sJo v, sPi v, sFa v, sFb v)) (sTm v) x y u), sFa (sPutT (((v.1.1, v.1.2.1, v.1.2.2), sPn v, sTh v, sTn v, sTm v + 1, sJo v, sPi v, sFa v, sFb v)) (sTm v) x y u), sFb (sPutT (((v.1.1, v.1.2.1, v.1.2.2), sPn v, sTh v, sTn v, sTm v + 1, sJo v, sPi v, sFa v, sFb v)) (sTm v) x y u)))) H := hP
  have hD : va_D (inW (wS cI cL a v)) (wS cI cL a ((((sPutT (((v.1.1, v.1.2.1, v.1.2.2), sPn v, sTh v, sTn v, sTm v + 1, sJo v, sPi v, sFa v, sFb v)) (sTm v) x y u).1.1, (sPutT (((v.1.1, v.1.2.1, v.1.2.2), sPn v, sTh v, sTn v, sTm v + 1, sJo v, sPi v, sFa v, sFb v)) (sTm v) x y u).1.2.1, (sPutT (((v.1.1, v.1.2.1, v.1.2.2), sPn v, sTh v, sTn v, sTm v + 1, sJo v, sPi v, sFa v, sFb v)) (sTm v) x y u).1.2.2), sPn (sPutT (((v.1.1, v.1.2.1, v.1.2.2), sPn v, sTh v, sTn v, sTm v + 1, sJo v, sPi v, sFa v, sFb v)) (sTm v) x y u), va_up ((sTh (sPutT (((v.1.1, v.1.2.1, v.1.2.2), sPn v, sTh v, sTn v, sTm v + 1, sJo v, sPi v, sFa v, sFb v)) (sTm v) x y u))) (sTn (sPutT (((v.1.1, v.1.2.1, v.1.2.2), sPn v, sTh v, sTn v, sTm v + 1, sJo v, sPi v, sFa v, sFb v)) (sTm v) x y u)) (sTm v), sTn (sPutT (((v.1.1, v.1.2.1, v.1.2.2), sPn v, sTh v, sTn v, sTm v + 1, sJo v, sPi v, sFa v, sFb v)) (sTm v) x y u) + 1, sTm (sPutT (((v.1.1, v.1.2.1, v.1.2.2), sPn v, sTh v, sTn v, sTm v + 1, sJo v, sPi v, sFa v, sFb v)) (sTm v) x y u), sJo (sPutT (((v.1.1, v.1.2.1, v.1.2.2), sPn v, sTh v, sTn v, sTm v + 1, sJo v, sPi v, sFa v, sFb v)) (sTm v) x y u), sPi (sPutT (((v.1.1, v.1.2.1, v.1.2.2), sPn v, sTh v, sTn v, sTm v + 1, sJo v, sPi v, sFa v, sFb v)) (sTm v) x y u), sFa (sPutT (((v.1.1, v.1.2.1, v.1.2.2), sPn v, sTh v, sTn v, sTm v + 1, sJo v, sPi v, sFa v, sFb v)) (sTm v) x y u), sFb (sPutT (((v.1.1, v.1.2.1, v.1.2.2), sPn v, sTh v, sTn v, sTm v + 1, sJo v, sPi v, sFa v, sFb v)) (sTm v) x y u)))) := hD
  refine lv_iload hx hb dX1_add_46 (lv_at hl 0 rfl) ?_
  exact wr_iret hx hb hr hP hS rfl rfl dX1_add_48 hlocks
set_option maxHeartbeats 4000000 in
set_option maxRecDepth 100000 in
theorem c_X1_remove (l : Launch) (dC : Nat → ClassId) (dI : Nat → Nat → Nat) (cI cL cZ : ClassId) (a : Nat → Nat) (v : SV) (t : Nat) (hv : okS v) (ht : t < 200) : Met l yX1_remove wsX1_remove ({ frames := 0, cells := 0, slots := 0, locals := 0 }) (va_Pc [.ref (a 4), .int (nI (t))] (wr_B (dC, dI) vwCl (wS cI cL a v) (tyS cI cL cZ))) (wr_Q none (dC, dI) vwCl (wS cI cL a v) (wS cI cL a (sRem v t))) 0 0 (inW (wS cI cL a v)) := by
  refine wr_Met (cc := cX1_remove) (maxL := 4) (ret := none) (by decide) rfl (Nat.le_of_ble_eq_true rfl) ?_
  intro pr en s m below meth co ls hx hb hml hr hlocks hown hts hP hK hD hS hl
  have hl : lv_has ls 4 [(0, .ref (a 4)), (1, .int (nI (t)))] := hl
  have hown : s.vm.findClass RX1 = some m.cls := hown
  have hvp : sPn v ≤ 60 ∧ sTn v ≤ 60 ∧ sTm v ≤ 200 := ⟨hv.2.1, hv.2.2.2.1, hv.2.2.2.2.1⟩
  refine lv_iconst (v := nI (0)) hx hb dX1_remove_0 (by decide) ?_
  refine lv_istore_n (lv' := [(2, .int (nI (0))), (0, .ref (a 4)), (1, .int (nI (t)))]) hx hb dX1_remove_1 rfl hl (by decide) rfl (fun ls hl => ?_)
  refine lv_iconst (v := nI (0)) hx hb dX1_remove_2 (by decide) ?_
  refine lv_istore_n (lv' := [(3, .int (nI (0))), (2, .int (nI (0))), (0, .ref (a 4)), (1, .int (nI (t)))]) hx hb dX1_remove_3 rfl hl (by decide) rfl (fun ls hl => ?_)
  refine lpW (σ := Nat × Nat × (Nat → Nat)) (LV := fun (i, kp, f) => [(0, .ref (a 4)), (1, .int (nI (t))), (2, .int (nI (kp))), (3, .int (nI (i)))]) (WS := fun (i, kp, f) => wS cI cL a (((v.1.1, v.1.2.1, v.1.2.2), sPn v, f, sTn v, sTm v, sJo v, sPi v, sFa v, sFb v))) (I := fun k (i, kp, f) => i + k = sTn v ∧ kp ≤ i ∧ (∀ j, f j < 200) ∧ rmv t (sTn v) (sTh v) 0 0 = rmv t k f i kp) (fun k (i, kp, f) ls H locs hI_k hl hP hD hS ih_k => ?_) (sTn v) (0, 0, sTh v) ls _ _ ⟨by omega, by omega, hv.2.2.1, rfl⟩ (lv_sub hl [2, 3, 1, 0] rfl) hP hD hS
  obtain ⟨hk, hle, hf, hi⟩ := hI_k
  have hP : va_P (dC, dI) vwCl (wS cI cL a (((v.1.1, v.1.2.1, v.1.2.2), sPn v, f, sTn v, sTm v, sJo v, sPi v, sFa v, sFb v))) H := hP
  have hD : va_D (inW (wS cI cL a v)) (wS cI cL a (((v.1.1, v.1.2.1, v.1.2.2), sPn v, f, sTn v, sTm v, sJo v, sPi v, sFa v, sFb v))) := hD
  have hfi := hf i
  refine lv_iload_n hx hb dX1_remove_4 rfl (lv_at hl 3 rfl) ?_
  refine lv_aload_n hx hb dX1_remove_5 rfl (lv_at hl 0 rfl) ?_
  refine va_get (D := (dC, dI)) (ci := 1) (v := .int (nI (sTn v))) (C := RX1) (T := TX1) (N := 4) hx hb hts (by decide +kernel) hown hK hP 4 rfl rfl 2 (by decide) (hts (.fieldLink RX1 18 "TriangleSheet$Triangles" "thereCount" "I") (by decide +kernel)) (fun _ h9 => h9) rfl dX1_remove_6 ?_
  refine lv_icmp_ge (tgt := 43) hx hb dX1_remove_9 (by decide) (fun c_1 => ?_) (fun c_1 => ?_)
  · skip
    have c_1 : sTn v ≤ i := (nI_leI (a := sTn v) (b := i) (by omega) (by omega)).mp c_1
    refine lv_aload_n hx hb dX1_remove_43 rfl (lv_at hl 0 rfl) ?_
    refine lv_iload_n hx hb dX1_remove_44 rfl (lv_at hl 2 rfl) ?_
    refine va_put (D := (dC, dI)) (ci := 1) (v := .int (nI (kp))) (ty := .int) (C := RX1) (T := TX1) (N := 4) hx hb hts (by decide +kernel) tyX1 tyX1_ok nmX1 hown hK hP hD hS 4 rfl rfl 2 (by decide) (hts (.fieldLink RX1 18 "TriangleSheet$Triangles" "thereCount" "I") (by decide +kernel)) (fun _ h9 => h9) rfl (by decide +kernel) rfl rfl (Nat.le_of_ble_eq_true rfl) dX1_remove_45 (fun H locs hP hD hS => ?_)
    have hP : va_P (dC, dI) vwCl (wS cI cL a (((v.1.1, v.1.2.1, v.1.2.2), sPn v, f, kp, sTm v, sJo v, sPi v, sFa v, sFb v))) H := hP
    have hD : va_D (inW (wS cI cL a v)) (wS cI cL a (((v.1.1, v.1.2.1, v.1.2.2), sPn v, f, kp, sTm v, sJo v, sPi v, sFa v, sFb v))) := hD
    exact wr_vret hx hb hr hP hS rfl (by show wS cI cL a (v.1, sPn v, f, kp, sTm v, v.2.2.2.2.2) = _; have e9 : rmv t (sTn v) (sTh v) 0 0 = (f, kp) := by { rw [hi, show k = 0 by omega]; rfl }; rw [sRem, e9]) dX1_remove_48 hlocks
  · skip
    have c_1 : ¬ (sTn v ≤ i) := fun hq9 => c_1 ((nI_leI (a := sTn v) (b := i) (by omega) (by omega)).mpr hq9)
    refine lv_aload_n hx hb dX1_remove_12 rfl (lv_at hl 0 rfl) ?_
    refine va_get (D := (dC, dI)) (ci := 1) (v := .ref (a 6)) (C := RX1) (T := TX1) (N := 4) hx hb hts (by decide +kernel) hown hK hP 4 rfl rfl 1 (by decide) (hts (.fieldLink RX1 15 "TriangleSheet$Triangles" "there" "[I") (by decide +kernel)) (fun _ h9 => h9) rfl dX1_remove_13 ?_
    refine lv_iload_n hx hb dX1_remove_16 rfl (lv_at hl 3 rfl) ?_
    refine ia_ld (k := i) hx hb hK hP 6 0 rfl rfl (by omega) (by decide) dX1_remove_17 ?_
    refine W.eq (g2 := F0 m 18 ls [.int (nI (f (i)))]) rfl ?_
    refine lv_iload_n hx hb dX1_remove_18 rfl (lv_at hl 1 rfl) ?_
    refine lv_icmp_eq (tgt := 37) hx hb dX1_remove_19 (by decide) (fun c_2 => ?_) (fun c_2 => ?_)
    · skip
      have c_2 : f (i) = t := (nI_eq (a := f (i)) (b := t) (by omega) (by omega)).mp c_2
      refine lv_iinc (v := nI (i + 1)) (lv' := [(3, .int (nI (i + 1))), (0, .ref (a 4)), (1, .int (nI (t))), (2, .int (nI (kp)))]) hx hb dX1_remove_37 hl (k := 3) rfl (nI_1 (i)) (by decide) rfl (fun ls hl => ?_)
      refine lv_goto (tgt := 4) hx hb dX1_remove_40 (by decide) ?_
      exact ih_k (k - 1) (i + 1, kp, f) ls _ _ (by omega) ⟨by omega, by omega, (by first | exact hf | exact up_lt hf (hf i)), hi.trans (by first | exact rmv_t (by omega) (by assumption) | exact rmv_f (by omega) (by assumption))⟩ (lv_sub hl [1, 2, 3, 0] rfl) hP hD hS
    · skip
      have c_2 : ¬ (f (i) = t) := fun hq9 => c_2 ((nI_eq (a := f (i)) (b := t) (by omega) (by omega)).mpr hq9)
      refine lv_aload_n hx hb dX1_remove_22 rfl (lv_at hl 0 rfl) ?_
      refine va_get (D := (dC, dI)) (ci := 1) (v := .ref (a 6)) (C := RX1) (T := TX1) (N := 4) hx hb hts (by decide +kernel) hown hK hP 4 rfl rfl 1 (by decide) (hts (.fieldLink RX1 15 "TriangleSheet$Triangles" "there" "[I") (by decide +kernel)) (fun _ h9 => h9) rfl dX1_remove_23 ?_
      refine lv_iload_n hx hb dX1_remove_26 rfl (lv_at hl 2 rfl) ?_
      refine lv_aload_n hx hb dX1_remove_27 rfl (lv_at hl 0 rfl) ?_
      refine va_get (D := (dC, dI)) (ci := 1) (v := .ref (a 6)) (C := RX1) (T := TX1) (N := 4) hx hb hts (by decide +kernel) hown hK hP 4 rfl rfl 1 (by decide) (hts (.fieldLink RX1 15 "TriangleSheet$Triangles" "there" "[I") (by decide +kernel)) (fun _ h9 => h9) rfl dX1_remove_28 ?_
      refine lv_iload_n hx hb dX1_remove_31 rfl (lv_at hl 3 rfl) ?_
      refine ia_ld (k := i) hx hb hK hP 6 0 rfl rfl (by omega) (by decide) dX1_remove_32 ?_
      refine W.eq (g2 := F0 m 33 ls [.int (nI (f (i))), .int (nI (kp)), .ref (a 6)]) rfl ?_
      refine ia_st (k := kp) hx hb hK hP hD hS 6 0 rfl rfl (by omega) (by decide) (upd_n (f) (kp) (f (i))) dX1_remove_33 (fun H locs hP hD hS => ?_)
      have hP : va_P (dC, dI) vwCl (wS cI cL a (((v.1.1, v.1.2.1, v.1.2.2), sPn v, va_up f (kp) (f (i)), sTn v, sTm v, sJo v, sPi v, sFa v, sFb v))) H := hP
      have hD : va_D (inW (wS cI cL a v)) (wS cI cL a (((v.1.1, v.1.2.1, v.1.2.2), sPn v, va_up f (kp) (f (i)), sTn v, sTm v, sJo v, sPi v, sFa v, sFb v))) := hD
      refine lv_iinc (v := nI (kp + 1)) (lv' := [(2, .int (nI (kp + 1))), (0, .ref (a 4)), (1, .int (nI (t))), (3, .int (nI (i)))]) hx hb dX1_remove_34 hl (k := 2) rfl (nI_1 (kp)) (by decide) rfl (fun ls hl => ?_)
      refine lv_iinc (v := nI (i + 1)) (lv' := [(3, .int (nI (i + 1))), (2, .int (nI (kp + 1))), (0, .ref (a 4)), (1, .int (nI (t)))]) hx hb dX1_remove_37 hl (k := 3) rfl (nI_1 (i)) (by decide) rfl (fun ls hl => ?_)
      refine lv_goto (tgt := 4) hx hb dX1_remove_40 (by decide) ?_
      exact ih_k (k - 1) (i + 1, kp + 1, va_up f (kp) (f (i))) ls _ _ (by omega) ⟨by omega, by omega, (by first | exact hf | exact up_lt hf (hf i)), hi.trans (by first | exact rmv_t (by omega) (by assumption) | exact rmv_f (by omega) (by assumption))⟩ (lv_sub hl [2, 3, 1, 0] rfl) hP hD hS
set_option maxHeartbeats 4000000 in
set_option maxRecDepth 100000 in
theorem c_X2_rememberCulprits (l : Launch) (dC : Nat → ClassId) (dI : Nat → Nat → Nat) (cI cL cZ : ClassId) (a : Nat → Nat) (v : SV) (x y : Int32)  : Met l yX2_rememberCulprits wsX2_rememberCulprits ({ frames := 0, cells := 0, slots := 0, locals := 0 }) (va_Pc [.ref (a 0), .int (x), .int (y)] (wr_B (dC, dI) vwCl (wS cI cL a v) (tyS cI cL cZ))) (wr_Q none (dC, dI) vwCl (wS cI cL a v) (wS cI cL a (sCul v x y))) 0 0 (inW (wS cI cL a v)) := by
  refine wr_Met (cc := cX2_rememberCulprits) (maxL := 3) (ret := none) (by decide) rfl (Nat.le_of_ble_eq_true rfl) ?_
  intro pr en s m below meth co ls hx hb hml hr hlocks hown hts hP hK hD hS hl
  have hl : lv_has ls 3 [(0, .ref (a 0)), (1, .int (x)), (2, .int (y))] := hl
  have hown : s.vm.findClass RX2 = some m.cls := hown
  refine lv_aload_n hx hb dX2_rememberCulprits_0 rfl (lv_at hl 0 rfl) ?_
  refine lv_iload_n hx hb dX2_rememberCulprits_1 rfl (lv_at hl 1 rfl) ?_
  refine va_put (D := (dC, dI)) (ci := 2) (v := .int (x)) (ty := .int) (C := RX2) (T := TX2) (N := 6) hx hb hts (by decide +kernel) tyX2 tyX2_ok nmX2 hown hK hP hD hS 0 rfl rfl 4 (by decide) (hts (.fieldLink RX2 31 "TriangleSheet" "faulty" "I") (by decide +kernel)) (fun _ h9 => h9) rfl (by decide +kernel) rfl rfl (Nat.le_of_ble_eq_true rfl) dX2_rememberCulprits_2 (fun H locs hP hD hS => ?_)
  have hP : va_P (dC, dI) vwCl (wS cI cL a (((v.1.1, v.1.2.1, v.1.2.2), sPn v, sTh v, sTn v, sTm v, sJo v, sPi v, x, sFb v))) H := hP
  have hD : va_D (inW (wS cI cL a v)) (wS cI cL a (((v.1.1, v.1.2.1, v.1.2.2), sPn v, sTh v, sTn v, sTm v, sJo v, sPi v, x, sFb v))) := hD
  refine lv_aload_n hx hb dX2_rememberCulprits_5 rfl (lv_at hl 0 rfl) ?_
  refine lv_iload_n hx hb dX2_rememberCulprits_6 rfl (lv_at hl 2 rfl) ?_
  refine va_put (D := (dC, dI)) (ci := 2) (v := .int (y)) (ty := .int) (C := RX2) (T := TX2) (N := 6) hx hb hts (by decide +kernel) tyX2 tyX2_ok nmX2 hown hK hP hD hS 0 rfl rfl 5 (by decide) (hts (.fieldLink RX2 35 "TriangleSheet" "faultyWith" "I") (by decide +kernel)) (fun _ h9 => h9) rfl (by decide +kernel) rfl rfl (Nat.le_of_ble_eq_true rfl) dX2_rememberCulprits_7 (fun H locs hP hD hS => ?_)
  have hP : va_P (dC, dI) vwCl (wS cI cL a (((v.1.1, v.1.2.1, v.1.2.2), sPn v, sTh v, sTn v, sTm v, sJo v, sPi v, x, y))) H := hP
  have hD : va_D (inW (wS cI cL a v)) (wS cI cL a (((v.1.1, v.1.2.1, v.1.2.2), sPn v, sTh v, sTn v, sTm v, sJo v, sPi v, x, y))) := hD
  exact wr_vret hx hb hr hP hS rfl rfl dX2_rememberCulprits_10 hlocks
set_option maxHeartbeats 4000000 in
set_option maxRecDepth 100000 in
theorem c_X2_fault (l : Launch) (dC : Nat → ClassId) (dI : Nat → Nat → Nat) (cI cL cZ : ClassId) (a : Nat → Nat) (v : SV)  (hv : okS v) : Met l yX2_fault wsX2_fault ({ frames := 6, cells := 0, slots := 0, locals := 142 }) (va_Pc [.ref (a 0)] (wr_B (dC, dI) vwCl (wS cI cL a v) (tyS cI cL cZ))) (wr_Q (some (.int (nI (faR v)))) (dC, dI) vwCl (wS cI cL a v) (wS cI cL a (faS v))) 0 0 (inW (wS cI cL a v)) := by
  refine wr_Met (cc := cX2_fault) (maxL := 4) (ret := (some .int)) (by decide) rfl (Nat.le_of_ble_eq_true rfl) ?_
  intro pr en s m below meth co ls hx hb hml hr hlocks hown hts hP hK hD hS hl
  have hl : lv_has ls 4 [(0, .ref (a 0))] := hl
  have hown : s.vm.findClass RX2 = some m.cls := hown
  have hvp : sPn v ≤ 60 ∧ sTn v ≤ 60 ∧ sTm v ≤ 200 := ⟨hv.2.1, hv.2.2.2.1, hv.2.2.2.2.1⟩
  refine lv_iconst (v := nI (0)) hx hb dX2_fault_0 (by decide) ?_
  refine lv_istore_n (lv' := [(1, .int (nI (0))), (0, .ref (a 0))]) hx hb dX2_fault_1 rfl hl (by decide) rfl (fun ls hl => ?_)
  refine lpW (σ := Nat) (LV := fun n => [(0, .ref (a 0)), (1, .int (nI (n)))]) (WS := fun n => wS cI cL a v) (I := fun k n => n + k = sTn v ∧ fai v.1 (sTh v) (sTn v) = fnd (fun i => !rgt v.1 (sTh v i) || (fub v.1 (sTh v) i).isSome) k n) (fun k n ls H locs hI_k hl hP hD hS ih_k => ?_) (sTn v) (0) ls _ _ ⟨by omega, rfl⟩ (lv_sub hl [1, 0] rfl) hP hD hS
  obtain ⟨hk, hi⟩ := hI_k
  have hP : va_P (dC, dI) vwCl (wS cI cL a v) H := hP
  have hD : va_D (inW (wS cI cL a v)) (wS cI cL a v) := hD
  refine lv_iload_n hx hb dX2_fault_2 rfl (lv_at hl 1 rfl) ?_
  refine lv_aload_n hx hb dX2_fault_3 rfl (lv_at hl 0 rfl) ?_
  refine va_get (D := (dC, dI)) (ci := 2) (v := .ref (a 4)) (C := RX2) (T := TX2) (N := 6) hx hb hts (by decide +kernel) hown hK hP 0 rfl rfl 1 (by decide) (hts (.fieldLink RX2 19 "TriangleSheet" "triangles" "LTriangleSheet$Triangles;") (by decide +kernel)) (fun _ h9 => h9) rfl dX2_fault_4 ?_
  refine ro_V (As := []) (rest := [.int (nI (n))]) (q0 := 4) (ci := 1) hx hb hml hown hts (c_X1_thereCount l dC dI cI cL cZ a v  ) (cwV 0 hts gX2_fault_X1_thereCount rfl rfl rfl (by decide +kernel) ⟨Nat.le_of_ble_eq_true rfl, Nat.le_of_ble_eq_true rfl⟩) hK hP rfl rfl rfl hl.1 rfl (Nat.le_of_ble_eq_true rfl) dX2_fault_7 ⟨Nat.zero_le _, Nat.zero_le _⟩ ?_
  refine lv_icmp_ge (tgt := 63) hx hb dX2_fault_10 (by decide) (fun c_1 => ?_) (fun c_1 => ?_)
  · skip
    have c_1 : sTn v ≤ n := (nI_leI (a := sTn v) (b := n) (by omega) (by omega)).mp c_1
    refine lv_iconst (v := nI (0)) hx hb dX2_fault_63 (by decide) ?_
    exact wr_iret hx hb hr hP hS (congrArg some (rn (by rw [faR, hi, show k = 0 by omega]; rfl))) (congrArg (wS cI cL a) (by rw [faS, hi, show k = 0 by omega]; rfl)) dX2_fault_64 hlocks
  · skip
    have c_1 : ¬ (sTn v ≤ n) := fun hq9 => c_1 ((nI_leI (a := sTn v) (b := n) (by omega) (by omega)).mpr hq9)
    refine lv_aload_n hx hb dX2_fault_13 rfl (lv_at hl 0 rfl) ?_
    refine va_get (D := (dC, dI)) (ci := 2) (v := .ref (a 4)) (C := RX2) (T := TX2) (N := 6) hx hb hts (by decide +kernel) hown hK hP 0 rfl rfl 1 (by decide) (hts (.fieldLink RX2 19 "TriangleSheet" "triangles" "LTriangleSheet$Triangles;") (by decide +kernel)) (fun _ h9 => h9) rfl dX2_fault_14 ?_
    refine lv_iload_n hx hb dX2_fault_17 rfl (lv_at hl 1 rfl) ?_
    refine ro_V (As := [.int (nI (n))]) (rest := []) (q0 := 4) (ci := 1) hx hb hml hown hts (c_X1_numberAt l dC dI cI cL cZ a v n (by omega)) (cwV 1 hts gX2_fault_X1_numberAt rfl rfl rfl (by decide +kernel) ⟨Nat.le_of_ble_eq_true rfl, Nat.le_of_ble_eq_true rfl⟩) hK hP rfl rfl rfl hl.1 rfl (Nat.le_of_ble_eq_true rfl) dX2_fault_18 ⟨Nat.zero_le _, Nat.zero_le _⟩ ?_
    refine lv_istore_n (lv' := [(2, .int (nI (sTh v n))), (0, .ref (a 0)), (1, .int (nI (n)))]) hx hb dX2_fault_21 rfl hl (by decide) rfl (fun ls hl => ?_)
    refine lv_aload_n hx hb dX2_fault_22 rfl (lv_at hl 1 rfl) ?_
    refine lv_iload_n hx hb dX2_fault_23 rfl (lv_at hl 0 rfl) ?_
    refine ro_V (As := [.int (nI (sTh v n))]) (rest := []) (q0 := 0) (ci := 2) hx hb hml hown hts (c_X2_isRight l dC dI cI cL cZ a v (sTh v n) hv (hv.2.2.1 _)) (cwV 1 hts gX2_fault_X2_isRight rfl rfl rfl (by decide +kernel) ⟨Nat.le_of_ble_eq_true rfl, Nat.le_of_ble_eq_true rfl⟩) hK hP rfl rfl rfl hl.1 rfl (Nat.le_of_ble_eq_true rfl) dX2_fault_24 ⟨Nat.zero_le _, Nat.zero_le _⟩ ?_
    refine lv_if_ne (tgt := 38) hx hb dX2_fault_27 (by decide) (fun c_2 => ?_) (fun c_2 => ?_)
    · skip
      have c_2 : (rgt v.1 (sTh v n)) = true := bI_t c_2
      refine lv_aload_n hx hb dX2_fault_38 rfl (lv_at hl 1 rfl) ?_
      refine lv_iload_n hx hb dX2_fault_39 rfl (lv_at hl 2 rfl) ?_
      refine ro_V (As := [.int (nI (n))]) (rest := []) (q0 := 0) (ci := 2) hx hb hml hown hts (c_X2_firstUntidyBefore l dC dI cI cL cZ a v n hv (by omega)) (cwV 1 hts gX2_fault_X2_firstUntidyBefore rfl rfl rfl (by decide +kernel) ⟨Nat.le_of_ble_eq_true rfl, Nat.le_of_ble_eq_true rfl⟩) hK hP rfl rfl rfl hl.1 rfl (Nat.le_of_ble_eq_true rfl) dX2_fault_40 ⟨Nat.zero_le _, Nat.zero_le _⟩ ?_
      have ps_3 : ∀ k, fub v.1 (sTh v) n = some k → k < 2 ^ 31 := fun k h => by have := fub_lt hv h; omega
      refine ocase (x := fub v.1 (sTh v) n) (fun ho_u => ?_) (fun u ho_u => ?_)
      · skip
        refine lv_istore_n (lv' := [(3, .int (iI (-1))), (2, .int (nI (sTh v n))), (0, .ref (a 0)), (1, .int (nI (n)))]) hx hb dX2_fault_43 rfl hl (by decide) rfl (fun ls hl => ?_)
        refine lv_iload_n hx hb dX2_fault_44 rfl (lv_at hl 0 rfl) ?_
        refine lv_iconst (v := iI (-1)) hx hb dX2_fault_45 (by decide) ?_
        refine lv_icmp_eq (tgt := 57) hx hb dX2_fault_46 (by decide) (fun c_4 => ?_) (fun c_4 => absurd rfl c_4)
        refine lv_iinc (v := nI (n + 1)) (lv' := [(1, .int (nI (n + 1))), (3, .int (iI (-1))), (2, .int (nI (sTh v n))), (0, .ref (a 0))]) hx hb dX2_fault_57 hl (k := 3) rfl (nI_1 (n)) (by decide) rfl (fun ls hl => ?_)
        refine lv_goto (tgt := 2) hx hb dX2_fault_60 (by decide) ?_
        exact ih_k (k - 1) (n + 1) ls _ _ (by omega) ⟨by omega, hi.trans (fnd_miss (by omega) (by simp [c_1, c_2, ho_u]))⟩ (lv_sub hl [3, 0] rfl) hP hD hS
      · skip
        refine lv_istore_n (lv' := [(3, .int (nI (u))), (2, .int (nI (sTh v n))), (0, .ref (a 0)), (1, .int (nI (n)))]) hx hb dX2_fault_43 rfl hl (by decide) rfl (fun ls hl => ?_)
        refine lv_iload_n hx hb dX2_fault_44 rfl (lv_at hl 0 rfl) ?_
        refine lv_iconst (v := iI (-1)) hx hb dX2_fault_45 (by decide) ?_
        refine lv_icmp_eq (tgt := 57) hx hb dX2_fault_46 (by decide) (fun c_5 => absurd c_5 (ne_m1 (by have := fub_lt hv ho_u; omega))) (fun c_5 => ?_)
        refine lv_aload_n hx hb dX2_fault_49 rfl (lv_at hl 2 rfl) ?_
        refine lv_iload_n hx hb dX2_fault_50 rfl (lv_at hl 1 rfl) ?_
        refine lv_iload_n hx hb dX2_fault_51 rfl (lv_at hl 0 rfl) ?_
        refine wr_V (As := [.int (nI (sTh v n)), .int (nI (u))]) (rest := []) (q0 := 0) (ci := 2) hx hb hml hown hts (c_X2_rememberCulprits l dC dI cI cL cZ a v (nI (sTh v n)) (nI (u)) ) (cwV 2 hts gX2_fault_X2_rememberCulprits rfl rfl rfl (by decide +kernel) ⟨Nat.le_of_ble_eq_true rfl, Nat.le_of_ble_eq_true rfl⟩) hK hP hD hS rfl rfl rfl rfl hl.1 rfl (Nat.le_of_ble_eq_true rfl) dX2_fault_52 ⟨Nat.zero_le _, Nat.zero_le _⟩ (fun H locs hP hD hS => ?_)
        have hP : va_P (dC, dI) vwCl (wS cI cL a (sCul v (nI (sTh v n)) (nI (u)))) H := hP
        have hD : va_D (inW (wS cI cL a v)) (wS cI cL a (sCul v (nI (sTh v n)) (nI (u)))) := hD
        refine W.eq (g2 := F0 m 55 ls []) rfl ?_
        refine lv_iconst (v := nI (2)) hx hb dX2_fault_55 (by decide) ?_
        exact wr_iret hx hb hr hP hS (congrArg some (rn (by rw [faR, hi, fnd_hit (by omega) (by simp [c_1, c_2, ho_u])]; simp [c_1, c_2, ho_u]))) (congrArg (wS cI cL a) (by rw [faS, hi, fnd_hit (by omega) (by simp [c_1, c_2, ho_u])]; simp [c_1, c_2, ho_u, oI])) dX2_fault_56 hlocks
    · skip
      have c_2 : (rgt v.1 (sTh v n)) = false := bI_f c_2
      refine lv_aload_n hx hb dX2_fault_30 rfl (lv_at hl 1 rfl) ?_
      refine lv_iload_n hx hb dX2_fault_31 rfl (lv_at hl 0 rfl) ?_
      refine lv_iconst (v := iI (-1)) hx hb dX2_fault_32 (by decide) ?_
      refine wr_V (As := [.int (nI (sTh v n)), .int (iI (-1))]) (rest := []) (q0 := 0) (ci := 2) hx hb hml hown hts (c_X2_rememberCulprits l dC dI cI cL cZ a v (nI (sTh v n)) (iI (-1)) ) (cwV 2 hts gX2_fault_X2_rememberCulprits rfl rfl rfl (by decide +kernel) ⟨Nat.le_of_ble_eq_true rfl, Nat.le_of_ble_eq_true rfl⟩) hK hP hD hS rfl rfl rfl rfl hl.1 rfl (Nat.le_of_ble_eq_true rfl) dX2_fault_33 ⟨Nat.zero_le _, Nat.zero_le _⟩ (fun H locs hP hD hS => ?_)
      have hP : va_P (dC, dI) vwCl (wS cI cL a (sCul v (nI (sTh v n)) (iI (-1)))) H := hP
      have hD : va_D (inW (wS cI cL a v)) (wS cI cL a (sCul v (nI (sTh v n)) (iI (-1)))) := hD
      refine W.eq (g2 := F0 m 36 ls []) rfl ?_
      refine lv_iconst (v := nI (1)) hx hb dX2_fault_36 (by decide) ?_
      exact wr_iret hx hb hr hP hS (congrArg some (rn (by rw [faR, hi, fnd_hit (by omega) (by simp [c_1, c_2])]; simp [c_1, c_2]))) (congrArg (wS cI cL a) (by rw [faS, hi, fnd_hit (by omega) (by simp [c_1, c_2])]; simp [c_1, c_2])) dX2_fault_37 hlocks
set_option maxHeartbeats 4000000 in
set_option maxRecDepth 100000 in
theorem c_X2_turnEdge (l : Launch) (dC : Nat → ClassId) (dI : Nat → Nat → Nat) (cI cL cZ : ClassId) (a : Nat → Nat) (v : SV) (t j : Nat) (hv : okS v) (ht : t < 200) (hj : j < 3) : Met l yX2_turnEdge wsX2_turnEdge ({ frames := 2, cells := 0, slots := 0, locals := 51 }) (va_Pc [.ref (a 0), .int (nI (t)), .int (nI (j))] (wr_B (dC, dI) vwCl (wS cI cL a v) (tyS cI cL cZ))) (wr_Q (some (.int (bI (tuB v.1 (sTh v) (sTn v) t j)))) (dC, dI) vwCl (wS cI cL a v) (wS cI cL a (tuS v t j))) 0 0 (inW (wS cI cL a v)) := by
  refine wr_Met (cc := cX2_turnEdge) (maxL := 8) (ret := (some .boolean)) (by decide) rfl (Nat.le_of_ble_eq_true rfl) ?_
  intro pr en s m below meth co ls hx hb hml hr hlocks hown hts hP hK hD hS hl
  have hl : lv_has ls 8 [(0, .ref (a 0)), (1, .int (nI (t))), (2, .int (nI (j)))] := hl
  have hown : s.vm.findClass RX2 = some m.cls := hown
  have hvp : sPn v ≤ 60 ∧ sTn v ≤ 60 ∧ sTm v ≤ 200 := ⟨hv.2.1, hv.2.2.2.1, hv.2.2.2.2.1⟩
  refine lv_aload_n hx hb dX2_turnEdge_0 rfl (lv_at hl 0 rfl) ?_
  refine va_get (D := (dC, dI)) (ci := 2) (v := .ref (a 4)) (C := RX2) (T := TX2) (N := 6) hx hb hts (by decide +kernel) hown hK hP 0 rfl rfl 1 (by decide) (hts (.fieldLink RX2 19 "TriangleSheet" "triangles" "LTriangleSheet$Triangles;") (by decide +kernel)) (fun _ h9 => h9) rfl dX2_turnEdge_1 ?_
  refine lv_iload_n hx hb dX2_turnEdge_4 rfl (lv_at hl 1 rfl) ?_
  refine lv_iload_n hx hb dX2_turnEdge_5 rfl (lv_at hl 2 rfl) ?_
  refine ro_V (As := [.int (nI (t)), .int (nI (j))]) (rest := []) (q0 := 4) (ci := 1) hx hb hml hown hts (c_X1_neighbour l dC dI cI cL cZ a v t j hv (by omega) (by omega)) (cwV 2 hts gX2_turnEdge_X1_neighbour rfl rfl rfl (by decide +kernel) ⟨Nat.le_of_ble_eq_true rfl, Nat.le_of_ble_eq_true rfl⟩) hK hP rfl rfl rfl hl.1 rfl (Nat.le_of_ble_eq_true rfl) dX2_turnEdge_6 ⟨Nat.zero_le _, Nat.zero_le _⟩ ?_
  have ps_1 : ∀ k, nbr v.1 (sTh v) (sTn v) t j = some k → k < 2 ^ 31 := fun k h => by have := nbr_lt hv h; omega
  refine ocase (x := nbr v.1 (sTh v) (sTn v) t j) (fun ho_u => ?_) (fun u ho_u => ?_)
  · skip
    refine lv_istore_n (lv' := [(3, .int (iI (-1))), (0, .ref (a 0)), (1, .int (nI (t))), (2, .int (nI (j)))]) hx hb dX2_turnEdge_9 rfl hl (by decide) rfl (fun ls hl => ?_)
    refine lv_iload_n hx hb dX2_turnEdge_10 rfl (lv_at hl 0 rfl) ?_
    refine lv_iconst (v := iI (-1)) hx hb dX2_turnEdge_11 (by decide) ?_
    refine lv_icmp_ne (tgt := 17) hx hb dX2_turnEdge_12 (by decide) (fun c_2 => absurd rfl c_2) (fun c_2 => ?_)
    refine lv_iconst (v := nI (0)) hx hb dX2_turnEdge_15 (by decide) ?_
    exact wr_zret hx hb hr (by decide) hP hS (congrArg some (rb_0 (by rw [tuB, ho_u]))) (congrArg (wS cI cL a) (by rw [tuS, ho_u])) dX2_turnEdge_16 hlocks
  · skip
    obtain ⟨i9, hi9, eu, hed9⟩ := nbr_some ho_u
    have hu9 := hv.2.2.1 i9
    rw [← eu] at hu9
    have hot : oth v.1 u (gc v.1 t (j + 1)) (gc v.1 t j) < 60 := oth_lt hv.1
    have hg0 := gc_lt hv.1 (t := t) (k := j + 0)
    have hg1 := gc_lt hv.1 (t := t) (k := j + 1)
    have hg2 := gc_lt hv.1 (t := t) (k := j + 2)
    have hgz := gc_lt hv.1 (t := t) (k := j)
    refine lv_istore_n (lv' := [(3, .int (nI (u))), (0, .ref (a 0)), (1, .int (nI (t))), (2, .int (nI (j)))]) hx hb dX2_turnEdge_9 rfl hl (by decide) rfl (fun ls hl => ?_)
    refine lv_iload_n hx hb dX2_turnEdge_10 rfl (lv_at hl 0 rfl) ?_
    refine lv_iconst (v := iI (-1)) hx hb dX2_turnEdge_11 (by decide) ?_
    refine lv_icmp_ne (tgt := 17) hx hb dX2_turnEdge_12 (by decide) (fun c_3 => ?_) (fun c_3 => absurd c_3 (ne_m1 (by omega)))
    refine lv_aload_n hx hb dX2_turnEdge_17 rfl (lv_at hl 1 rfl) ?_
    refine va_get (D := (dC, dI)) (ci := 2) (v := .ref (a 4)) (C := RX2) (T := TX2) (N := 6) hx hb hts (by decide +kernel) hown hK hP 0 rfl rfl 1 (by decide) (hts (.fieldLink RX2 19 "TriangleSheet" "triangles" "LTriangleSheet$Triangles;") (by decide +kernel)) (fun _ h9 => h9) rfl dX2_turnEdge_18 ?_
    refine lv_iload_n hx hb dX2_turnEdge_21 rfl (lv_at hl 2 rfl) ?_
    refine lv_iload_n hx hb dX2_turnEdge_22 rfl (lv_at hl 3 rfl) ?_
    refine ro_V (As := [.int (nI (t)), .int (nI (j))]) (rest := []) (q0 := 4) (ci := 1) hx hb hml hown hts (c_X1_cornerOf l dC dI cI cL cZ a v t j (by omega) (by omega)) (cwV 2 hts gX2_turnEdge_X1_cornerOf rfl rfl rfl (by decide +kernel) ⟨Nat.le_of_ble_eq_true rfl, Nat.le_of_ble_eq_true rfl⟩) hK hP rfl rfl rfl hl.1 rfl (Nat.le_of_ble_eq_true rfl) dX2_turnEdge_23 ⟨Nat.zero_le _, Nat.zero_le _⟩ ?_
    refine lv_istore (lv' := [(4, .int (nI (gc v.1 t j))), (3, .int (nI (u))), (0, .ref (a 0)), (1, .int (nI (t))), (2, .int (nI (j)))]) hx hb dX2_turnEdge_26 hl (by decide) rfl (fun ls hl => ?_)
    refine lv_aload_n hx hb dX2_turnEdge_28 rfl (lv_at hl 2 rfl) ?_
    refine va_get (D := (dC, dI)) (ci := 2) (v := .ref (a 4)) (C := RX2) (T := TX2) (N := 6) hx hb hts (by decide +kernel) hown hK hP 0 rfl rfl 1 (by decide) (hts (.fieldLink RX2 19 "TriangleSheet" "triangles" "LTriangleSheet$Triangles;") (by decide +kernel)) (fun _ h9 => h9) rfl dX2_turnEdge_29 ?_
    refine lv_iload_n hx hb dX2_turnEdge_32 rfl (lv_at hl 3 rfl) ?_
    refine lv_iload_n hx hb dX2_turnEdge_33 rfl (lv_at hl 4 rfl) ?_
    refine lv_iconst (v := nI (1)) hx hb dX2_turnEdge_34 (by decide) ?_
    refine lv_iadd hx hb dX2_turnEdge_35 ?_
    refine rt_i (y := (nI (j + 1))) (nn_add (j) (1)) ?_
    refine ro_V (As := [.int (nI (t)), .int (nI (j + 1))]) (rest := []) (q0 := 4) (ci := 1) hx hb hml hown hts (c_X1_cornerOf l dC dI cI cL cZ a v t (j + 1) (by omega) (by omega)) (cwV 2 hts gX2_turnEdge_X1_cornerOf rfl rfl rfl (by decide +kernel) ⟨Nat.le_of_ble_eq_true rfl, Nat.le_of_ble_eq_true rfl⟩) hK hP rfl rfl rfl hl.1 rfl (Nat.le_of_ble_eq_true rfl) dX2_turnEdge_36 ⟨Nat.zero_le _, Nat.zero_le _⟩ ?_
    refine lv_istore (lv' := [(5, .int (nI (gc v.1 t (j + 1)))), (4, .int (nI (gc v.1 t j))), (3, .int (nI (u))), (0, .ref (a 0)), (1, .int (nI (t))), (2, .int (nI (j)))]) hx hb dX2_turnEdge_39 hl (by decide) rfl (fun ls hl => ?_)
    refine lv_aload_n hx hb dX2_turnEdge_41 rfl (lv_at hl 3 rfl) ?_
    refine va_get (D := (dC, dI)) (ci := 2) (v := .ref (a 4)) (C := RX2) (T := TX2) (N := 6) hx hb hts (by decide +kernel) hown hK hP 0 rfl rfl 1 (by decide) (hts (.fieldLink RX2 19 "TriangleSheet" "triangles" "LTriangleSheet$Triangles;") (by decide +kernel)) (fun _ h9 => h9) rfl dX2_turnEdge_42 ?_
    refine lv_iload_n hx hb dX2_turnEdge_45 rfl (lv_at hl 4 rfl) ?_
    refine lv_iload_n hx hb dX2_turnEdge_46 rfl (lv_at hl 5 rfl) ?_
    refine lv_iconst (v := nI (2)) hx hb dX2_turnEdge_47 (by decide) ?_
    refine lv_iadd hx hb dX2_turnEdge_48 ?_
    refine rt_i (y := (nI (j + 2))) (nn_add (j) (2)) ?_
    refine ro_V (As := [.int (nI (t)), .int (nI (j + 2))]) (rest := []) (q0 := 4) (ci := 1) hx hb hml hown hts (c_X1_cornerOf l dC dI cI cL cZ a v t (j + 2) (by omega) (by omega)) (cwV 2 hts gX2_turnEdge_X1_cornerOf rfl rfl rfl (by decide +kernel) ⟨Nat.le_of_ble_eq_true rfl, Nat.le_of_ble_eq_true rfl⟩) hK hP rfl rfl rfl hl.1 rfl (Nat.le_of_ble_eq_true rfl) dX2_turnEdge_49 ⟨Nat.zero_le _, Nat.zero_le _⟩ ?_
    refine lv_istore (lv' := [(6, .int (nI (gc v.1 t (j + 2)))), (5, .int (nI (gc v.1 t (j + 1)))), (4, .int (nI (gc v.1 t j))), (3, .int (nI (u))), (0, .ref (a 0)), (1, .int (nI (t))), (2, .int (nI (j)))]) hx hb dX2_turnEdge_52 hl (by decide) rfl (fun ls hl => ?_)
    refine lv_aload_n hx hb dX2_turnEdge_54 rfl (lv_at hl 4 rfl) ?_
    refine va_get (D := (dC, dI)) (ci := 2) (v := .ref (a 4)) (C := RX2) (T := TX2) (N := 6) hx hb hts (by decide +kernel) hown hK hP 0 rfl rfl 1 (by decide) (hts (.fieldLink RX2 19 "TriangleSheet" "triangles" "LTriangleSheet$Triangles;") (by decide +kernel)) (fun _ h9 => h9) rfl dX2_turnEdge_55 ?_
    refine lv_iload_n hx hb dX2_turnEdge_58 rfl (lv_at hl 3 rfl) ?_
    refine lv_iload hx hb dX2_turnEdge_59 (lv_at hl 2 rfl) ?_
    refine lv_iload hx hb dX2_turnEdge_61 (lv_at hl 1 rfl) ?_
    refine ro_V (As := [.int (nI (u)), .int (nI (gc v.1 t j)), .int (nI (gc v.1 t (j + 1)))]) (rest := []) (q0 := 4) (ci := 1) hx hb hml hown hts (c_X1_thirdCorner l dC dI cI cL cZ a v u (gc v.1 t j) (gc v.1 t (j + 1)) (oth v.1 u (gc v.1 t (j + 1)) (gc v.1 t j)) (by omega) (oth_sum hed9)) (cwV 3 hts gX2_turnEdge_X1_thirdCorner rfl rfl rfl (by decide +kernel) ⟨Nat.le_of_ble_eq_true rfl, Nat.le_of_ble_eq_true rfl⟩) hK hP rfl rfl rfl hl.1 rfl (Nat.le_of_ble_eq_true rfl) dX2_turnEdge_63 ⟨Nat.zero_le _, Nat.zero_le _⟩ ?_
    refine lv_istore (lv' := [(7, .int (nI ((oth v.1 u (gc v.1 t (j + 1)) (gc v.1 t j))))), (6, .int (nI (gc v.1 t (j + 2)))), (5, .int (nI (gc v.1 t (j + 1)))), (4, .int (nI (gc v.1 t j))), (3, .int (nI (u))), (0, .ref (a 0)), (1, .int (nI (t))), (2, .int (nI (j)))]) hx hb dX2_turnEdge_66 hl (by decide) rfl (fun ls hl => ?_)
    refine lv_aload_n hx hb dX2_turnEdge_68 rfl (lv_at hl 5 rfl) ?_
    refine va_get (D := (dC, dI)) (ci := 2) (v := .ref (a 1)) (C := RX2) (T := TX2) (N := 6) hx hb hts (by decide +kernel) hown hK hP 0 rfl rfl 0 (by decide) (hts (.fieldLink RX2 10 "TriangleSheet" "points" "LTriangleSheet$Points;") (by decide +kernel)) (fun _ h9 => h9) rfl dX2_turnEdge_69 ?_
    refine lv_iload hx hb dX2_turnEdge_72 (lv_at hl 3 rfl) ?_
    refine lv_iload hx hb dX2_turnEdge_74 (lv_at hl 0 rfl) ?_
    refine lv_iload hx hb dX2_turnEdge_76 (lv_at hl 1 rfl) ?_
    refine ro_V (As := [.int (nI (gc v.1 t j)), .int (nI ((oth v.1 u (gc v.1 t (j + 1)) (gc v.1 t j)))), .int (nI (gc v.1 t (j + 2)))]) (rest := []) (q0 := 1) (ci := 0) hx hb hml hown hts (c_X0_turnOf l dC dI cI cL cZ a v (gc v.1 t j) ((oth v.1 u (gc v.1 t (j + 1)) (gc v.1 t j))) (gc v.1 t (j + 2)) (by omega) (by omega) (by omega)) (cwV 3 hts gX2_turnEdge_X0_turnOf rfl rfl rfl (by decide +kernel) ⟨Nat.le_of_ble_eq_true rfl, Nat.le_of_ble_eq_true rfl⟩) hK hP rfl rfl rfl hl.1 rfl (Nat.le_of_ble_eq_true rfl) dX2_turnEdge_78 ⟨Nat.zero_le _, Nat.zero_le _⟩ ?_
    refine lv_if_le (tgt := 100) hx hb dX2_turnEdge_81 (by decide) (fun c_4 => ?_) (fun c_4 => ?_)
    · skip
      have c_4 : (tof v.1 (gc v.1 t j) ((oth v.1 u (gc v.1 t (j + 1)) (gc v.1 t j))) (gc v.1 t (j + 2))) ≤ 0 := (z0_le (tof_ok hv.1)).mp c_4
      refine lv_iconst (v := nI (0)) hx hb dX2_turnEdge_100 (by decide) ?_
      exact wr_zret hx hb hr (by decide) hP hS (congrArg some (rb_0 (by rw [tuB, ho_u]; first | (simp [tub, ho_u, c_4]; done) | (simp [tub]; omega)))) (congrArg (wS cI cL a) (by rw [tuS, ho_u]; simp only; rw [if_neg (by first | (simp [tub, ho_u, c_4]; done) | (simp [tub]; omega))])) dX2_turnEdge_101 hlocks
    · skip
      have c_4 : ¬ ((tof v.1 (gc v.1 t j) ((oth v.1 u (gc v.1 t (j + 1)) (gc v.1 t j))) (gc v.1 t (j + 2))) ≤ 0) := fun hq9 => c_4 ((z0_le (tof_ok hv.1)).mpr hq9)
      refine lv_aload_n hx hb dX2_turnEdge_84 rfl (lv_at hl 5 rfl) ?_
      refine va_get (D := (dC, dI)) (ci := 2) (v := .ref (a 1)) (C := RX2) (T := TX2) (N := 6) hx hb hts (by decide +kernel) hown hK hP 0 rfl rfl 0 (by decide) (hts (.fieldLink RX2 10 "TriangleSheet" "points" "LTriangleSheet$Points;") (by decide +kernel)) (fun _ h9 => h9) rfl dX2_turnEdge_85 ?_
      refine lv_iload hx hb dX2_turnEdge_88 (lv_at hl 0 rfl) ?_
      refine lv_iload hx hb dX2_turnEdge_90 (lv_at hl 2 rfl) ?_
      refine lv_iload hx hb dX2_turnEdge_92 (lv_at hl 1 rfl) ?_
      refine ro_V (As := [.int (nI ((oth v.1 u (gc v.1 t (j + 1)) (gc v.1 t j)))), .int (nI (gc v.1 t (j + 1))), .int (nI (gc v.1 t (j + 2)))]) (rest := []) (q0 := 1) (ci := 0) hx hb hml hown hts (c_X0_turnOf l dC dI cI cL cZ a v ((oth v.1 u (gc v.1 t (j + 1)) (gc v.1 t j))) (gc v.1 t (j + 1)) (gc v.1 t (j + 2)) (by omega) (by omega) (by omega)) (cwV 3 hts gX2_turnEdge_X0_turnOf rfl rfl rfl (by decide +kernel) ⟨Nat.le_of_ble_eq_true rfl, Nat.le_of_ble_eq_true rfl⟩) hK hP rfl rfl rfl hl.1 rfl (Nat.le_of_ble_eq_true rfl) dX2_turnEdge_94 ⟨Nat.zero_le _, Nat.zero_le _⟩ ?_
      refine lv_if_gt (tgt := 102) hx hb dX2_turnEdge_97 (by decide) (fun c_5 => ?_) (fun c_5 => ?_)
      · skip
        have c_5 : 0 < (tof v.1 ((oth v.1 u (gc v.1 t (j + 1)) (gc v.1 t j))) (gc v.1 t (j + 1)) (gc v.1 t (j + 2))) := (l0_lt (tof_ok hv.1)).mp c_5
        refine lv_aload_n hx hb dX2_turnEdge_102 rfl (lv_at hl 5 rfl) ?_
        refine va_get (D := (dC, dI)) (ci := 2) (v := .ref (a 4)) (C := RX2) (T := TX2) (N := 6) hx hb hts (by decide +kernel) hown hK hP 0 rfl rfl 1 (by decide) (hts (.fieldLink RX2 19 "TriangleSheet" "triangles" "LTriangleSheet$Triangles;") (by decide +kernel)) (fun _ h9 => h9) rfl dX2_turnEdge_103 ?_
        refine lv_iload_n hx hb dX2_turnEdge_106 rfl (lv_at hl 6 rfl) ?_
        refine lv_iload hx hb dX2_turnEdge_107 (lv_at hl 1 rfl) ?_
        refine lv_iload hx hb dX2_turnEdge_109 (lv_at hl 3 rfl) ?_
        refine lv_iload hx hb dX2_turnEdge_111 (lv_at hl 0 rfl) ?_
        refine wr_V (As := [.int (nI (t)), .int (nI (gc v.1 t (j + 2))), .int (nI (gc v.1 t j)), .int (nI ((oth v.1 u (gc v.1 t (j + 1)) (gc v.1 t j))))]) (rest := []) (q0 := 4) (ci := 1) hx hb hml hown hts (c_X1_put l dC dI cI cL cZ a v t (gc v.1 t (j + 2)) (gc v.1 t j) ((oth v.1 u (gc v.1 t (j + 1)) (gc v.1 t j))) (by omega)) (cwV 4 hts gX2_turnEdge_X1_put rfl rfl rfl (by decide +kernel) ⟨Nat.le_of_ble_eq_true rfl, Nat.le_of_ble_eq_true rfl⟩) hK hP hD hS rfl rfl rfl rfl hl.1 rfl (Nat.le_of_ble_eq_true rfl) dX2_turnEdge_113 ⟨Nat.zero_le _, Nat.zero_le _⟩ (fun H locs hP hD hS => ?_)
        have hP : va_P (dC, dI) vwCl (wS cI cL a (sPutT v t (gc v.1 t (j + 2)) (gc v.1 t j) ((oth v.1 u (gc v.1 t (j + 1)) (gc v.1 t j))))) H := hP
        have hD : va_D (inW (wS cI cL a v)) (wS cI cL a (sPutT v t (gc v.1 t (j + 2)) (gc v.1 t j) ((oth v.1 u (gc v.1 t (j + 1)) (gc v.1 t j))))) := hD
        refine W.eq (g2 := F0 m 116 ls []) rfl ?_
        refine lv_aload_n hx hb dX2_turnEdge_116 rfl (lv_at hl 5 rfl) ?_
        refine va_get (D := (dC, dI)) (ci := 2) (v := .ref (a 4)) (C := RX2) (T := TX2) (N := 6) hx hb hts (by decide +kernel) hown hK hP 0 rfl rfl 1 (by decide) (hts (.fieldLink RX2 19 "TriangleSheet" "triangles" "LTriangleSheet$Triangles;") (by decide +kernel)) (fun _ h9 => h9) rfl dX2_turnEdge_117 ?_
        refine lv_iload_n hx hb dX2_turnEdge_120 rfl (lv_at hl 4 rfl) ?_
        refine lv_iload hx hb dX2_turnEdge_121 (lv_at hl 0 rfl) ?_
        refine lv_iload hx hb dX2_turnEdge_123 (lv_at hl 2 rfl) ?_
        refine lv_iload hx hb dX2_turnEdge_125 (lv_at hl 1 rfl) ?_
        refine wr_V (As := [.int (nI (u)), .int (nI ((oth v.1 u (gc v.1 t (j + 1)) (gc v.1 t j)))), .int (nI (gc v.1 t (j + 1))), .int (nI (gc v.1 t (j + 2)))]) (rest := []) (q0 := 4) (ci := 1) hx hb hml hown hts (c_X1_put l dC dI cI cL cZ a (sPutT v t (gc v.1 t (j + 2)) (gc v.1 t j) ((oth v.1 u (gc v.1 t (j + 1)) (gc v.1 t j)))) u ((oth v.1 u (gc v.1 t (j + 1)) (gc v.1 t j))) (gc v.1 t (j + 1)) (gc v.1 t (j + 2)) (by omega)) (cwV 4 hts gX2_turnEdge_X1_put rfl rfl rfl (by decide +kernel) ⟨Nat.le_of_ble_eq_true rfl, Nat.le_of_ble_eq_true rfl⟩) hK hP hD hS rfl rfl rfl rfl hl.1 rfl (Nat.le_of_ble_eq_true rfl) dX2_turnEdge_127 ⟨Nat.zero_le _, Nat.zero_le _⟩ (fun H locs hP hD hS => ?_)
        have hP : va_P (dC, dI) vwCl (wS cI cL a (sPutT (sPutT v t (gc v.1 t (j + 2)) (gc v.1 t j) ((oth v.1 u (gc v.1 t (j + 1)) (gc v.1 t j)))) u ((oth v.1 u (gc v.1 t (j + 1)) (gc v.1 t j))) (gc v.1 t (j + 1)) (gc v.1 t (j + 2)))) H := hP
        have hD : va_D (inW (wS cI cL a v)) (wS cI cL a (sPutT (sPutT v t (gc v.1 t (j + 2)) (gc v.1 t j) ((oth v.1 u (gc v.1 t (j + 1)) (gc v.1 t j)))) u ((oth v.1 u (gc v.1 t (j + 1)) (gc v.1 t j))) (gc v.1 t (j + 1)) (gc v.1 t (j + 2)))) := hD
        refine W.eq (g2 := F0 m 130 ls []) rfl ?_
        refine lv_iconst (v := nI (1)) hx hb dX2_turnEdge_130 (by decide) ?_
        exact wr_zret hx hb hr (by decide) hP hS (congrArg some (rb_1 (by rw [tuB, ho_u]; first | (simp [tub, ho_u, c_4, c_5]; done) | (simp [tub]; omega)))) (congrArg (wS cI cL a) (by rw [tuS, ho_u]; simp only; rw [if_pos (by first | (simp [tub, ho_u, c_4, c_5]; done) | (simp [tub]; omega))]; rfl)) dX2_turnEdge_131 hlocks
      · skip
        have c_5 : ¬ (0 < (tof v.1 ((oth v.1 u (gc v.1 t (j + 1)) (gc v.1 t j))) (gc v.1 t (j + 1)) (gc v.1 t (j + 2)))) := fun hq9 => c_5 ((l0_lt (tof_ok hv.1)).mpr hq9)
        refine lv_iconst (v := nI (0)) hx hb dX2_turnEdge_100 (by decide) ?_
        exact wr_zret hx hb hr (by decide) hP hS (congrArg some (rb_0 (by rw [tuB, ho_u]; first | (simp [tub, ho_u, c_4, c_5]; done) | (simp [tub]; omega)))) (congrArg (wS cI cL a) (by rw [tuS, ho_u]; simp only; rw [if_neg (by first | (simp [tub, ho_u, c_4, c_5]; done) | (simp [tub]; omega))])) dX2_turnEdge_101 hlocks
set_option maxHeartbeats 4000000 in
set_option maxRecDepth 100000 in
theorem c_X2_turnFirstBadEdge (l : Launch) (dC : Nat → ClassId) (dI : Nat → Nat → Nat) (cI cL cZ : ClassId) (a : Nat → Nat) (v : SV)  (hv : okS v) : Met l yX2_turnFirstBadEdge wsX2_turnFirstBadEdge ({ frames := 3, cells := 0, slots := 0, locals := 78 }) (va_Pc [.ref (a 0)] (wr_B (dC, dI) vwCl (wS cI cL a v) (tyS cI cL cZ))) (wr_Q (some (.int (bI ((tfi v.1 (sTh v) (sTn v)).isSome)))) (dC, dI) vwCl (wS cI cL a v) (wS cI cL a (tfS v))) 0 0 (inW (wS cI cL a v)) := by
  refine wr_Met (cc := cX2_turnFirstBadEdge) (maxL := 4) (ret := (some .boolean)) (by decide) rfl (Nat.le_of_ble_eq_true rfl) ?_
  intro pr en s m below meth co ls hx hb hml hr hlocks hown hts hP hK hD hS hl
  have hl : lv_has ls 4 [(0, .ref (a 0))] := hl
  have hown : s.vm.findClass RX2 = some m.cls := hown
  have hvp : sPn v ≤ 60 ∧ sTn v ≤ 60 ∧ sTm v ≤ 200 := ⟨hv.2.1, hv.2.2.2.1, hv.2.2.2.2.1⟩
  refine lv_iconst (v := nI (0)) hx hb dX2_turnFirstBadEdge_0 (by decide) ?_
  refine lv_istore_n (lv' := [(1, .int (nI (0))), (0, .ref (a 0))]) hx hb dX2_turnFirstBadEdge_1 rfl hl (by decide) rfl (fun ls hl => ?_)
  refine lpW (σ := Nat) (LV := fun n => [(0, .ref (a 0)), (1, .int (nI (n)))]) (WS := fun n => wS cI cL a v) (I := fun k n => n + k = sTn v ∧ tfi v.1 (sTh v) (sTn v) = fnd (fun i => (tfk v.1 (sTh v) (sTn v) i).isSome) k n) (fun k n ls H locs hI_k hl hP hD hS ih_k => ?_) (sTn v) (0) ls _ _ ⟨by omega, rfl⟩ (lv_sub hl [1, 0] rfl) hP hD hS
  obtain ⟨hk, hi⟩ := hI_k
  have hP : va_P (dC, dI) vwCl (wS cI cL a v) H := hP
  have hD : va_D (inW (wS cI cL a v)) (wS cI cL a v) := hD
  refine lv_iload_n hx hb dX2_turnFirstBadEdge_2 rfl (lv_at hl 1 rfl) ?_
  refine lv_aload_n hx hb dX2_turnFirstBadEdge_3 rfl (lv_at hl 0 rfl) ?_
  refine va_get (D := (dC, dI)) (ci := 2) (v := .ref (a 4)) (C := RX2) (T := TX2) (N := 6) hx hb hts (by decide +kernel) hown hK hP 0 rfl rfl 1 (by decide) (hts (.fieldLink RX2 19 "TriangleSheet" "triangles" "LTriangleSheet$Triangles;") (by decide +kernel)) (fun _ h9 => h9) rfl dX2_turnFirstBadEdge_4 ?_
  refine ro_V (As := []) (rest := [.int (nI (n))]) (q0 := 4) (ci := 1) hx hb hml hown hts (c_X1_thereCount l dC dI cI cL cZ a v  ) (cwV 0 hts gX2_turnFirstBadEdge_X1_thereCount rfl rfl rfl (by decide +kernel) ⟨Nat.le_of_ble_eq_true rfl, Nat.le_of_ble_eq_true rfl⟩) hK hP rfl rfl rfl hl.1 rfl (Nat.le_of_ble_eq_true rfl) dX2_turnFirstBadEdge_7 ⟨Nat.zero_le _, Nat.zero_le _⟩ ?_
  refine lv_icmp_ge (tgt := 61) hx hb dX2_turnFirstBadEdge_10 (by decide) (fun c_1 => ?_) (fun c_1 => ?_)
  · skip
    have c_1 : sTn v ≤ n := (nI_leI (a := sTn v) (b := n) (by omega) (by omega)).mp c_1
    refine lv_iconst (v := nI (0)) hx hb dX2_turnFirstBadEdge_61 (by decide) ?_
    exact wr_zret hx hb hr (by decide) hP hS (congrArg some (rb_0 (by rw [hi, show k = 0 by omega]; rfl))) (congrArg (wS cI cL a) (by rw [tfS, hi, show k = 0 by omega]; rfl)) dX2_turnFirstBadEdge_62 hlocks
  · skip
    have c_1 : ¬ (sTn v ≤ n) := fun hq9 => c_1 ((nI_leI (a := sTn v) (b := n) (by omega) (by omega)).mpr hq9)
    refine lv_aload_n hx hb dX2_turnFirstBadEdge_13 rfl (lv_at hl 0 rfl) ?_
    refine va_get (D := (dC, dI)) (ci := 2) (v := .ref (a 4)) (C := RX2) (T := TX2) (N := 6) hx hb hts (by decide +kernel) hown hK hP 0 rfl rfl 1 (by decide) (hts (.fieldLink RX2 19 "TriangleSheet" "triangles" "LTriangleSheet$Triangles;") (by decide +kernel)) (fun _ h9 => h9) rfl dX2_turnFirstBadEdge_14 ?_
    refine lv_iload_n hx hb dX2_turnFirstBadEdge_17 rfl (lv_at hl 1 rfl) ?_
    refine ro_V (As := [.int (nI (n))]) (rest := []) (q0 := 4) (ci := 1) hx hb hml hown hts (c_X1_numberAt l dC dI cI cL cZ a v n (by omega)) (cwV 1 hts gX2_turnFirstBadEdge_X1_numberAt rfl rfl rfl (by decide +kernel) ⟨Nat.le_of_ble_eq_true rfl, Nat.le_of_ble_eq_true rfl⟩) hK hP rfl rfl rfl hl.1 rfl (Nat.le_of_ble_eq_true rfl) dX2_turnFirstBadEdge_18 ⟨Nat.zero_le _, Nat.zero_le _⟩ ?_
    refine lv_istore_n (lv' := [(2, .int (nI (sTh v n))), (0, .ref (a 0)), (1, .int (nI (n)))]) hx hb dX2_turnFirstBadEdge_21 rfl hl (by decide) rfl (fun ls hl => ?_)
    refine lv_iconst (v := nI (0)) hx hb dX2_turnFirstBadEdge_22 (by decide) ?_
    refine lv_istore_n (lv' := [(3, .int (nI (0))), (2, .int (nI (sTh v n))), (0, .ref (a 0)), (1, .int (nI (n)))]) hx hb dX2_turnFirstBadEdge_23 rfl hl (by decide) rfl (fun ls hl => ?_)
    refine lpW (σ := Nat) (LV := fun m2 => [(0, .ref (a 0)), (1, .int (nI (n))), (2, .int (nI (sTh v n))), (3, .int (nI (m2)))]) (WS := fun m2 => wS cI cL a v) (I := fun k2 m2 => m2 + k2 = 3 ∧ tfk v.1 (sTh v) (sTn v) n = fnd (fun k => !goc v.1 (sTh v) (sTn v) (sTh v n) k && tuB v.1 (sTh v) (sTn v) (sTh v n) k) k2 m2) (fun k2 m2 ls H locs hI_k2 hl hP hD hS ih_k2 => ?_) (3) (0) ls _ _ ⟨by omega, rfl⟩ (lv_sub hl [2, 3, 1, 0] rfl) hP hD hS
    obtain ⟨hk2, hi2⟩ := hI_k2
    have hP : va_P (dC, dI) vwCl (wS cI cL a v) H := hP
    have hD : va_D (inW (wS cI cL a v)) (wS cI cL a v) := hD
    refine lv_iload_n hx hb dX2_turnFirstBadEdge_24 rfl (lv_at hl 3 rfl) ?_
    refine lv_iconst (v := nI (3)) hx hb dX2_turnFirstBadEdge_25 (by decide) ?_
    refine lv_icmp_ge (tgt := 55) hx hb dX2_turnFirstBadEdge_26 (by decide) (fun c_2 => ?_) (fun c_2 => ?_)
    · skip
      have c_2 : 3 ≤ m2 := (nI_leI (a := 3) (b := m2) (by omega) (by omega)).mp c_2
      refine lv_iinc (v := nI (n + 1)) (lv' := [(1, .int (nI (n + 1))), (0, .ref (a 0)), (2, .int (nI (sTh v n))), (3, .int (nI (m2)))]) hx hb dX2_turnFirstBadEdge_55 hl (k := 1) rfl (nI_1 (n)) (by decide) rfl (fun ls hl => ?_)
      refine lv_goto (tgt := 2) hx hb dX2_turnFirstBadEdge_58 (by decide) ?_
      exact ih_k (k - 1) (n + 1) ls _ _ (by omega) ⟨by omega, hi.trans (fnd_miss (by omega) (by rw [hi2, show k2 = 0 by omega]; rfl))⟩ (lv_sub hl [1, 0] rfl) hP hD hS
    · skip
      have c_2 : ¬ (3 ≤ m2) := fun hq9 => c_2 ((nI_leI (a := 3) (b := m2) (by omega) (by omega)).mpr hq9)
      refine lv_aload_n hx hb dX2_turnFirstBadEdge_29 rfl (lv_at hl 0 rfl) ?_
      refine lv_iload_n hx hb dX2_turnFirstBadEdge_30 rfl (lv_at hl 2 rfl) ?_
      refine lv_iload_n hx hb dX2_turnFirstBadEdge_31 rfl (lv_at hl 3 rfl) ?_
      refine ro_V (As := [.int (nI (sTh v n)), .int (nI (m2))]) (rest := []) (q0 := 0) (ci := 2) hx hb hml hown hts (c_X2_isGoodEdge l dC dI cI cL cZ a v (sTh v n) m2 hv (hv.2.2.1 _) (by omega)) (cwV 2 hts gX2_turnFirstBadEdge_X2_isGoodEdge rfl rfl rfl (by decide +kernel) ⟨Nat.le_of_ble_eq_true rfl, Nat.le_of_ble_eq_true rfl⟩) hK hP rfl rfl rfl hl.1 rfl (Nat.le_of_ble_eq_true rfl) dX2_turnFirstBadEdge_32 ⟨Nat.zero_le _, Nat.zero_le _⟩ ?_
      refine lv_if_ne (tgt := 49) hx hb dX2_turnFirstBadEdge_35 (by decide) (fun c_3 => ?_) (fun c_3 => ?_)
      · skip
        have c_3 : (goc v.1 (sTh v) (sTn v) (sTh v n) m2) = true := bI_t c_3
        refine lv_iinc (v := nI (m2 + 1)) (lv' := [(3, .int (nI (m2 + 1))), (0, .ref (a 0)), (1, .int (nI (n))), (2, .int (nI (sTh v n)))]) hx hb dX2_turnFirstBadEdge_49 hl (k := 3) rfl (nI_1 (m2)) (by decide) rfl (fun ls hl => ?_)
        refine lv_goto (tgt := 24) hx hb dX2_turnFirstBadEdge_52 (by decide) ?_
        exact ih_k2 (k2 - 1) (m2 + 1) ls _ _ (by omega) ⟨by omega, hi2.trans (fnd_miss (by omega) (by simp [c_1, c_2, c_3]))⟩ (lv_sub hl [1, 2, 3, 0] rfl) hP hD hS
      · skip
        have c_3 : (goc v.1 (sTh v) (sTn v) (sTh v n) m2) = false := bI_f c_3
        refine lv_aload_n hx hb dX2_turnFirstBadEdge_38 rfl (lv_at hl 0 rfl) ?_
        refine lv_iload_n hx hb dX2_turnFirstBadEdge_39 rfl (lv_at hl 2 rfl) ?_
        refine lv_iload_n hx hb dX2_turnFirstBadEdge_40 rfl (lv_at hl 3 rfl) ?_
        refine wr_V (As := [.int (nI (sTh v n)), .int (nI (m2))]) (rest := []) (q0 := 0) (ci := 2) hx hb hml hown hts (c_X2_turnEdge l dC dI cI cL cZ a v (sTh v n) m2 hv (hv.2.2.1 _) (by omega)) (cwV 2 hts gX2_turnFirstBadEdge_X2_turnEdge rfl rfl rfl (by decide +kernel) ⟨Nat.le_of_ble_eq_true rfl, Nat.le_of_ble_eq_true rfl⟩) hK hP hD hS rfl rfl rfl rfl hl.1 rfl (Nat.le_of_ble_eq_true rfl) dX2_turnFirstBadEdge_41 ⟨Nat.zero_le _, Nat.zero_le _⟩ (fun H locs hP hD hS => ?_)
        have hP : va_P (dC, dI) vwCl (wS cI cL a (tuS v (sTh v n) m2)) H := hP
        have hD : va_D (inW (wS cI cL a v)) (wS cI cL a (tuS v (sTh v n) m2)) := hD
        refine W.eq (g2 := F0 m 44 ls [.int (bI (tuB v.1 (sTh v) (sTn v) (sTh v n) m2))]) rfl ?_
        refine lv_if_eq (tgt := 49) hx hb dX2_turnFirstBadEdge_44 (by decide) (fun c_4 => ?_) (fun c_4 => ?_)
        · skip
          have c_4 : (tuB v.1 (sTh v) (sTn v) (sTh v n) m2) = false := bI_f c_4
          rw [tuS_f c_4] at hP hD
          refine lv_iinc (v := nI (m2 + 1)) (lv' := [(3, .int (nI (m2 + 1))), (0, .ref (a 0)), (1, .int (nI (n))), (2, .int (nI (sTh v n)))]) hx hb dX2_turnFirstBadEdge_49 hl (k := 3) rfl (nI_1 (m2)) (by decide) rfl (fun ls hl => ?_)
          refine lv_goto (tgt := 24) hx hb dX2_turnFirstBadEdge_52 (by decide) ?_
          exact ih_k2 (k2 - 1) (m2 + 1) ls _ _ (by omega) ⟨by omega, hi2.trans (fnd_miss (by omega) (by simp [c_1, c_2, c_3, c_4]))⟩ (lv_sub hl [1, 2, 3, 0] rfl) hP hD hS
        · skip
          have c_4 : (tuB v.1 (sTh v) (sTn v) (sTh v n) m2) = true := bI_t c_4
          refine lv_iconst (v := nI (1)) hx hb dX2_turnFirstBadEdge_47 (by decide) ?_
          exact wr_zret hx hb hr (by decide) hP hS (congrArg some (rb_1 (by rw [hi, fnd_hit (by omega) (by rw [hi2, fnd_hit (by omega) (by simp [c_1, c_2, c_3, c_4])]; rfl)]; rfl))) (congrArg (wS cI cL a) (by rw [tfS, hi, fnd_hit (by omega) (by rw [hi2, fnd_hit (by omega) (by simp [c_1, c_2, c_3, c_4])]; rfl)]; simp only; rw [hi2, fnd_hit (by omega) (by simp [c_1, c_2, c_3, c_4])])) dX2_turnFirstBadEdge_48 hlocks
