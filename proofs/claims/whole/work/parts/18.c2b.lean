set_option maxHeartbeats 4000000 in
set_option maxRecDepth 100000 in
theorem c_X0_circleSide (l : Launch) (dC : Nat → ClassId) (dI : Nat → Nat → Nat) (cI cL cZ : ClassId) (a : Nat → Nat) (v : SV) (a0 a1 a2 a3 : Nat) (hv : okS v) (h0 : a0 < 60) (h1 : a1 < 60) (h2 : a2 < 60) (h3 : a3 < 60) : Met l yX0_circleSide wsX0_circleSide ({ frames := 0, cells := 0, slots := 0, locals := 0 }) (va_Pc [.ref (a 1), .int (nI (a0)), .int (nI (a1)), .int (nI (a2)), .int (nI (a3))] (ro_B (dC, dI) vwCl (wS cI cL a v) (tyS cI cL cZ))) (k2_QcV (.long (lI (cir v.1 a0 a1 a2 a3)))) 0 0 (fun _ => False) := by
  refine ro_Met (cc := cX0_circleSide) (maxL := 17) (ret := (some .long)) (by decide) rfl (Nat.le_of_ble_eq_true rfl) ?_
  intro pr en s m below meth co ls hx hb hml hr hlocks hown hts hP hK hl
  have hl : lv_has ls 17 [(0, .ref (a 1)), (1, .int (nI (a0))), (2, .int (nI (a1))), (3, .int (nI (a2))), (4, .int (nI (a3)))] := hl
  have hown : s.vm.findClass RX0 = some m.cls := hown
  have hvp : sPn v ≤ 60 ∧ sTn v ≤ 60 ∧ sTm v ≤ 200 := ⟨hv.2.1, hv.2.2.2.1, hv.2.2.2.2.1⟩
  have hx0 := hv.1.1 a0
  have hx1 := hv.1.1 a1
  have hx2 := hv.1.1 a2
  have hx3 := hv.1.1 a3
  have hy0 := hv.1.2.1 a0
  have hy1 := hv.1.2.1 a1
  have hy2 := hv.1.2.1 a2
  have hy3 := hv.1.2.1 a3
  refine lv_aload_n hx hb dX0_circleSide_0 rfl (lv_at hl 0 rfl) ?_
  refine va_get (D := (dC, dI)) (ci := 0) (v := .ref (a 2)) (C := RX0) (T := TX0) (N := 3) hx hb hts (by decide +kernel) hown hK hP 1 rfl rfl 0 (by decide) (hts (.fieldLink RX0 9 "TriangleSheet$Points" "xs" "[I") (by decide +kernel)) (fun _ h9 => h9) rfl dX0_circleSide_1 ?_
  refine lv_iload_n hx hb dX0_circleSide_4 rfl (lv_at hl 1 rfl) ?_
  refine ia_ld (k := a0) hx hb hK hP 2 0 rfl rfl (by omega) (by decide) dX0_circleSide_5 ?_
  refine W.eq (g2 := F0 m 6 ls [.int (nI (v.1.1 (a0)))]) rfl ?_
  have bd_1 := hv.1.1 (a0)
  refine lv_aload_n hx hb dX0_circleSide_6 rfl (lv_at hl 0 rfl) ?_
  refine va_get (D := (dC, dI)) (ci := 0) (v := .ref (a 2)) (C := RX0) (T := TX0) (N := 3) hx hb hts (by decide +kernel) hown hK hP 1 rfl rfl 0 (by decide) (hts (.fieldLink RX0 9 "TriangleSheet$Points" "xs" "[I") (by decide +kernel)) (fun _ h9 => h9) rfl dX0_circleSide_7 ?_
  refine lv_iload hx hb dX0_circleSide_10 (lv_at hl 4 rfl) ?_
  refine ia_ld (k := a3) hx hb hK hP 2 0 rfl rfl (by omega) (by decide) dX0_circleSide_12 ?_
  refine W.eq (g2 := F0 m 13 ls [.int (nI (v.1.1 (a3))), .int (nI (v.1.1 (a0)))]) rfl ?_
  have bd_2 := hv.1.1 (a3)
  refine lv_isub hx hb dX0_circleSide_13 ?_
  refine rt_i (y := (iI ((((v.1.1 (a0) : Nat) : Int)) - (((v.1.1 (a3) : Nat) : Int))))) (nn_sub (v.1.1 (a0)) (v.1.1 (a3))) ?_
  refine lv_i2l (v := lI ((((v.1.1 (a0) : Nat) : Int)) - (((v.1.1 (a3) : Nat) : Int)))) hx hb dX0_circleSide_14 (zI_l (⟨by omega, by omega⟩)) ?_
  refine rt_l (y := (lI (gx v.1 a0 - gx v.1 a3))) rfl ?_
  refine lv_lstore (lv' := [(5, .long (lI (gx v.1 a0 - gx v.1 a3))), (0, .ref (a 1)), (1, .int (nI (a0))), (2, .int (nI (a1))), (3, .int (nI (a2))), (4, .int (nI (a3)))]) hx hb dX0_circleSide_15 hl (by decide) rfl (fun ls hl => ?_)
  refine lv_aload_n hx hb dX0_circleSide_17 rfl (lv_at hl 1 rfl) ?_
  refine va_get (D := (dC, dI)) (ci := 0) (v := .ref (a 3)) (C := RX0) (T := TX0) (N := 3) hx hb hts (by decide +kernel) hown hK hP 1 rfl rfl 1 (by decide) (hts (.fieldLink RX0 15 "TriangleSheet$Points" "ys" "[I") (by decide +kernel)) (fun _ h9 => h9) rfl dX0_circleSide_18 ?_
  refine lv_iload_n hx hb dX0_circleSide_21 rfl (lv_at hl 2 rfl) ?_
  refine ia_ld (k := a0) hx hb hK hP 3 0 rfl rfl (by omega) (by decide) dX0_circleSide_22 ?_
  refine W.eq (g2 := F0 m 23 ls [.int (nI (v.1.2.1 (a0)))]) rfl ?_
  have bd_3 := hv.1.2.1 (a0)
  refine lv_aload_n hx hb dX0_circleSide_23 rfl (lv_at hl 1 rfl) ?_
  refine va_get (D := (dC, dI)) (ci := 0) (v := .ref (a 3)) (C := RX0) (T := TX0) (N := 3) hx hb hts (by decide +kernel) hown hK hP 1 rfl rfl 1 (by decide) (hts (.fieldLink RX0 15 "TriangleSheet$Points" "ys" "[I") (by decide +kernel)) (fun _ h9 => h9) rfl dX0_circleSide_24 ?_
  refine lv_iload hx hb dX0_circleSide_27 (lv_at hl 5 rfl) ?_
  refine ia_ld (k := a3) hx hb hK hP 3 0 rfl rfl (by omega) (by decide) dX0_circleSide_29 ?_
  refine W.eq (g2 := F0 m 30 ls [.int (nI (v.1.2.1 (a3))), .int (nI (v.1.2.1 (a0)))]) rfl ?_
  have bd_4 := hv.1.2.1 (a3)
  refine lv_isub hx hb dX0_circleSide_30 ?_
  refine rt_i (y := (iI ((((v.1.2.1 (a0) : Nat) : Int)) - (((v.1.2.1 (a3) : Nat) : Int))))) (nn_sub (v.1.2.1 (a0)) (v.1.2.1 (a3))) ?_
  refine lv_i2l (v := lI ((((v.1.2.1 (a0) : Nat) : Int)) - (((v.1.2.1 (a3) : Nat) : Int)))) hx hb dX0_circleSide_31 (zI_l (⟨by omega, by omega⟩)) ?_
  refine rt_l (y := (lI (gy v.1 a0 - gy v.1 a3))) rfl ?_
  refine lv_lstore (lv' := [(7, .long (lI (gy v.1 a0 - gy v.1 a3))), (5, .long (lI (gx v.1 a0 - gx v.1 a3))), (0, .ref (a 1)), (1, .int (nI (a0))), (2, .int (nI (a1))), (3, .int (nI (a2))), (4, .int (nI (a3)))]) hx hb dX0_circleSide_32 hl (by decide) rfl (fun ls hl => ?_)
  refine lv_aload_n hx hb dX0_circleSide_34 rfl (lv_at hl 2 rfl) ?_
  refine va_get (D := (dC, dI)) (ci := 0) (v := .ref (a 2)) (C := RX0) (T := TX0) (N := 3) hx hb hts (by decide +kernel) hown hK hP 1 rfl rfl 0 (by decide) (hts (.fieldLink RX0 9 "TriangleSheet$Points" "xs" "[I") (by decide +kernel)) (fun _ h9 => h9) rfl dX0_circleSide_35 ?_
  refine lv_iload_n hx hb dX0_circleSide_38 rfl (lv_at hl 4 rfl) ?_
  refine ia_ld (k := a1) hx hb hK hP 2 0 rfl rfl (by omega) (by decide) dX0_circleSide_39 ?_
  refine W.eq (g2 := F0 m 40 ls [.int (nI (v.1.1 (a1)))]) rfl ?_
  have bd_5 := hv.1.1 (a1)
  refine lv_aload_n hx hb dX0_circleSide_40 rfl (lv_at hl 2 rfl) ?_
  refine va_get (D := (dC, dI)) (ci := 0) (v := .ref (a 2)) (C := RX0) (T := TX0) (N := 3) hx hb hts (by decide +kernel) hown hK hP 1 rfl rfl 0 (by decide) (hts (.fieldLink RX0 9 "TriangleSheet$Points" "xs" "[I") (by decide +kernel)) (fun _ h9 => h9) rfl dX0_circleSide_41 ?_
  refine lv_iload hx hb dX0_circleSide_44 (lv_at hl 6 rfl) ?_
  refine ia_ld (k := a3) hx hb hK hP 2 0 rfl rfl (by omega) (by decide) dX0_circleSide_46 ?_
  refine W.eq (g2 := F0 m 47 ls [.int (nI (v.1.1 (a3))), .int (nI (v.1.1 (a1)))]) rfl ?_
  have bd_6 := hv.1.1 (a3)
  refine lv_isub hx hb dX0_circleSide_47 ?_
  refine rt_i (y := (iI ((((v.1.1 (a1) : Nat) : Int)) - (((v.1.1 (a3) : Nat) : Int))))) (nn_sub (v.1.1 (a1)) (v.1.1 (a3))) ?_
  refine lv_i2l (v := lI ((((v.1.1 (a1) : Nat) : Int)) - (((v.1.1 (a3) : Nat) : Int)))) hx hb dX0_circleSide_48 (zI_l (⟨by omega, by omega⟩)) ?_
  refine rt_l (y := (lI (gx v.1 a1 - gx v.1 a3))) rfl ?_
  refine lv_lstore (lv' := [(9, .long (lI (gx v.1 a1 - gx v.1 a3))), (7, .long (lI (gy v.1 a0 - gy v.1 a3))), (5, .long (lI (gx v.1 a0 - gx v.1 a3))), (0, .ref (a 1)), (1, .int (nI (a0))), (2, .int (nI (a1))), (3, .int (nI (a2))), (4, .int (nI (a3)))]) hx hb dX0_circleSide_49 hl (by decide) rfl (fun ls hl => ?_)
  refine lv_aload_n hx hb dX0_circleSide_51 rfl (lv_at hl 3 rfl) ?_
  refine va_get (D := (dC, dI)) (ci := 0) (v := .ref (a 3)) (C := RX0) (T := TX0) (N := 3) hx hb hts (by decide +kernel) hown hK hP 1 rfl rfl 1 (by decide) (hts (.fieldLink RX0 15 "TriangleSheet$Points" "ys" "[I") (by decide +kernel)) (fun _ h9 => h9) rfl dX0_circleSide_52 ?_
  refine lv_iload_n hx hb dX0_circleSide_55 rfl (lv_at hl 5 rfl) ?_
  refine ia_ld (k := a1) hx hb hK hP 3 0 rfl rfl (by omega) (by decide) dX0_circleSide_56 ?_
  refine W.eq (g2 := F0 m 57 ls [.int (nI (v.1.2.1 (a1)))]) rfl ?_
  have bd_7 := hv.1.2.1 (a1)
  refine lv_aload_n hx hb dX0_circleSide_57 rfl (lv_at hl 3 rfl) ?_
  refine va_get (D := (dC, dI)) (ci := 0) (v := .ref (a 3)) (C := RX0) (T := TX0) (N := 3) hx hb hts (by decide +kernel) hown hK hP 1 rfl rfl 1 (by decide) (hts (.fieldLink RX0 15 "TriangleSheet$Points" "ys" "[I") (by decide +kernel)) (fun _ h9 => h9) rfl dX0_circleSide_58 ?_
  refine lv_iload hx hb dX0_circleSide_61 (lv_at hl 7 rfl) ?_
  refine ia_ld (k := a3) hx hb hK hP 3 0 rfl rfl (by omega) (by decide) dX0_circleSide_63 ?_
  refine W.eq (g2 := F0 m 64 ls [.int (nI (v.1.2.1 (a3))), .int (nI (v.1.2.1 (a1)))]) rfl ?_
  have bd_8 := hv.1.2.1 (a3)
  refine lv_isub hx hb dX0_circleSide_64 ?_
  refine rt_i (y := (iI ((((v.1.2.1 (a1) : Nat) : Int)) - (((v.1.2.1 (a3) : Nat) : Int))))) (nn_sub (v.1.2.1 (a1)) (v.1.2.1 (a3))) ?_
  refine lv_i2l (v := lI ((((v.1.2.1 (a1) : Nat) : Int)) - (((v.1.2.1 (a3) : Nat) : Int)))) hx hb dX0_circleSide_65 (zI_l (⟨by omega, by omega⟩)) ?_
  refine rt_l (y := (lI (gy v.1 a1 - gy v.1 a3))) rfl ?_
  refine lv_lstore (lv' := [(11, .long (lI (gy v.1 a1 - gy v.1 a3))), (9, .long (lI (gx v.1 a1 - gx v.1 a3))), (7, .long (lI (gy v.1 a0 - gy v.1 a3))), (5, .long (lI (gx v.1 a0 - gx v.1 a3))), (0, .ref (a 1)), (1, .int (nI (a0))), (2, .int (nI (a1))), (3, .int (nI (a2))), (4, .int (nI (a3)))]) hx hb dX0_circleSide_66 hl (by decide) rfl (fun ls hl => ?_)
  refine lv_aload_n hx hb dX0_circleSide_68 rfl (lv_at hl 4 rfl) ?_
  refine va_get (D := (dC, dI)) (ci := 0) (v := .ref (a 2)) (C := RX0) (T := TX0) (N := 3) hx hb hts (by decide +kernel) hown hK hP 1 rfl rfl 0 (by decide) (hts (.fieldLink RX0 9 "TriangleSheet$Points" "xs" "[I") (by decide +kernel)) (fun _ h9 => h9) rfl dX0_circleSide_69 ?_
  refine lv_iload_n hx hb dX0_circleSide_72 rfl (lv_at hl 7 rfl) ?_
  refine ia_ld (k := a2) hx hb hK hP 2 0 rfl rfl (by omega) (by decide) dX0_circleSide_73 ?_
  refine W.eq (g2 := F0 m 74 ls [.int (nI (v.1.1 (a2)))]) rfl ?_
  have bd_9 := hv.1.1 (a2)
  refine lv_aload_n hx hb dX0_circleSide_74 rfl (lv_at hl 4 rfl) ?_
  refine va_get (D := (dC, dI)) (ci := 0) (v := .ref (a 2)) (C := RX0) (T := TX0) (N := 3) hx hb hts (by decide +kernel) hown hK hP 1 rfl rfl 0 (by decide) (hts (.fieldLink RX0 9 "TriangleSheet$Points" "xs" "[I") (by decide +kernel)) (fun _ h9 => h9) rfl dX0_circleSide_75 ?_
  refine lv_iload hx hb dX0_circleSide_78 (lv_at hl 8 rfl) ?_
  refine ia_ld (k := a3) hx hb hK hP 2 0 rfl rfl (by omega) (by decide) dX0_circleSide_80 ?_
  refine W.eq (g2 := F0 m 81 ls [.int (nI (v.1.1 (a3))), .int (nI (v.1.1 (a2)))]) rfl ?_
  have bd_10 := hv.1.1 (a3)
  refine lv_isub hx hb dX0_circleSide_81 ?_
  refine rt_i (y := (iI ((((v.1.1 (a2) : Nat) : Int)) - (((v.1.1 (a3) : Nat) : Int))))) (nn_sub (v.1.1 (a2)) (v.1.1 (a3))) ?_
  refine lv_i2l (v := lI ((((v.1.1 (a2) : Nat) : Int)) - (((v.1.1 (a3) : Nat) : Int)))) hx hb dX0_circleSide_82 (zI_l (⟨by omega, by omega⟩)) ?_
  refine rt_l (y := (lI (gx v.1 a2 - gx v.1 a3))) rfl ?_
  refine lv_lstore (lv' := [(13, .long (lI (gx v.1 a2 - gx v.1 a3))), (11, .long (lI (gy v.1 a1 - gy v.1 a3))), (9, .long (lI (gx v.1 a1 - gx v.1 a3))), (7, .long (lI (gy v.1 a0 - gy v.1 a3))), (5, .long (lI (gx v.1 a0 - gx v.1 a3))), (0, .ref (a 1)), (1, .int (nI (a0))), (2, .int (nI (a1))), (3, .int (nI (a2))), (4, .int (nI (a3)))]) hx hb dX0_circleSide_83 hl (by decide) rfl (fun ls hl => ?_)
  refine lv_aload_n hx hb dX0_circleSide_85 rfl (lv_at hl 5 rfl) ?_
  refine va_get (D := (dC, dI)) (ci := 0) (v := .ref (a 3)) (C := RX0) (T := TX0) (N := 3) hx hb hts (by decide +kernel) hown hK hP 1 rfl rfl 1 (by decide) (hts (.fieldLink RX0 15 "TriangleSheet$Points" "ys" "[I") (by decide +kernel)) (fun _ h9 => h9) rfl dX0_circleSide_86 ?_
  refine lv_iload_n hx hb dX0_circleSide_89 rfl (lv_at hl 8 rfl) ?_
  refine ia_ld (k := a2) hx hb hK hP 3 0 rfl rfl (by omega) (by decide) dX0_circleSide_90 ?_
  refine W.eq (g2 := F0 m 91 ls [.int (nI (v.1.2.1 (a2)))]) rfl ?_
  have bd_11 := hv.1.2.1 (a2)
  refine lv_aload_n hx hb dX0_circleSide_91 rfl (lv_at hl 5 rfl) ?_
  refine va_get (D := (dC, dI)) (ci := 0) (v := .ref (a 3)) (C := RX0) (T := TX0) (N := 3) hx hb hts (by decide +kernel) hown hK hP 1 rfl rfl 1 (by decide) (hts (.fieldLink RX0 15 "TriangleSheet$Points" "ys" "[I") (by decide +kernel)) (fun _ h9 => h9) rfl dX0_circleSide_92 ?_
  refine lv_iload hx hb dX0_circleSide_95 (lv_at hl 9 rfl) ?_
  refine ia_ld (k := a3) hx hb hK hP 3 0 rfl rfl (by omega) (by decide) dX0_circleSide_97 ?_
  refine W.eq (g2 := F0 m 98 ls [.int (nI (v.1.2.1 (a3))), .int (nI (v.1.2.1 (a2)))]) rfl ?_
  have bd_12 := hv.1.2.1 (a3)
  refine lv_isub hx hb dX0_circleSide_98 ?_
  refine rt_i (y := (iI ((((v.1.2.1 (a2) : Nat) : Int)) - (((v.1.2.1 (a3) : Nat) : Int))))) (nn_sub (v.1.2.1 (a2)) (v.1.2.1 (a3))) ?_
  refine lv_i2l (v := lI ((((v.1.2.1 (a2) : Nat) : Int)) - (((v.1.2.1 (a3) : Nat) : Int)))) hx hb dX0_circleSide_99 (zI_l (⟨by omega, by omega⟩)) ?_
  refine rt_l (y := (lI (gy v.1 a2 - gy v.1 a3))) rfl ?_
  refine lv_lstore (lv' := [(15, .long (lI (gy v.1 a2 - gy v.1 a3))), (13, .long (lI (gx v.1 a2 - gx v.1 a3))), (11, .long (lI (gy v.1 a1 - gy v.1 a3))), (9, .long (lI (gx v.1 a1 - gx v.1 a3))), (7, .long (lI (gy v.1 a0 - gy v.1 a3))), (5, .long (lI (gx v.1 a0 - gx v.1 a3))), (0, .ref (a 1)), (1, .int (nI (a0))), (2, .int (nI (a1))), (3, .int (nI (a2))), (4, .int (nI (a3)))]) hx hb dX0_circleSide_100 hl (by decide) rfl (fun ls hl => ?_)
  refine lv_lload hx hb dX0_circleSide_102 (lv_at hl 5 rfl) ?_
  refine lv_lload hx hb dX0_circleSide_104 (lv_at hl 5 rfl) ?_
  refine lv_lmul hx hb dX0_circleSide_106 ?_
  refine rt_l (y := (lI ((gx v.1 a0 - gx v.1 a3) * (gx v.1 a0 - gx v.1 a3)))) (lI_mul (gx v.1 a0 - gx v.1 a3) (gx v.1 a0 - gx v.1 a3)) ?_
  refine lv_lload hx hb dX0_circleSide_107 (lv_at hl 4 rfl) ?_
  refine lv_lload hx hb dX0_circleSide_109 (lv_at hl 4 rfl) ?_
  refine lv_lmul hx hb dX0_circleSide_111 ?_
  refine rt_l (y := (lI ((gy v.1 a0 - gy v.1 a3) * (gy v.1 a0 - gy v.1 a3)))) (lI_mul (gy v.1 a0 - gy v.1 a3) (gy v.1 a0 - gy v.1 a3)) ?_
  refine lv_ladd hx hb dX0_circleSide_112 ?_
  refine rt_l (y := (lI (((gx v.1 a0 - gx v.1 a3) * (gx v.1 a0 - gx v.1 a3)) + ((gy v.1 a0 - gy v.1 a3) * (gy v.1 a0 - gy v.1 a3))))) (lI_add ((gx v.1 a0 - gx v.1 a3) * (gx v.1 a0 - gx v.1 a3)) ((gy v.1 a0 - gy v.1 a3) * (gy v.1 a0 - gy v.1 a3))) ?_
  refine lv_lload hx hb dX0_circleSide_113 (lv_at hl 3 rfl) ?_
  refine lv_lload hx hb dX0_circleSide_115 (lv_at hl 0 rfl) ?_
  refine lv_lmul hx hb dX0_circleSide_117 ?_
  refine rt_l (y := (lI ((gx v.1 a1 - gx v.1 a3) * (gy v.1 a2 - gy v.1 a3)))) (lI_mul (gx v.1 a1 - gx v.1 a3) (gy v.1 a2 - gy v.1 a3)) ?_
  refine lv_lload hx hb dX0_circleSide_118 (lv_at hl 2 rfl) ?_
  refine lv_lload hx hb dX0_circleSide_120 (lv_at hl 1 rfl) ?_
  refine lv_lmul hx hb dX0_circleSide_122 ?_
  refine rt_l (y := (lI ((gy v.1 a1 - gy v.1 a3) * (gx v.1 a2 - gx v.1 a3)))) (lI_mul (gy v.1 a1 - gy v.1 a3) (gx v.1 a2 - gx v.1 a3)) ?_
  refine lv_lsub hx hb dX0_circleSide_123 ?_
  refine rt_l (y := (lI (((gx v.1 a1 - gx v.1 a3) * (gy v.1 a2 - gy v.1 a3)) - ((gy v.1 a1 - gy v.1 a3) * (gx v.1 a2 - gx v.1 a3))))) (lI_sub ((gx v.1 a1 - gx v.1 a3) * (gy v.1 a2 - gy v.1 a3)) ((gy v.1 a1 - gy v.1 a3) * (gx v.1 a2 - gx v.1 a3))) ?_
  refine lv_lmul hx hb dX0_circleSide_124 ?_
  refine rt_l (y := (lI ((((gx v.1 a0 - gx v.1 a3) * (gx v.1 a0 - gx v.1 a3)) + ((gy v.1 a0 - gy v.1 a3) * (gy v.1 a0 - gy v.1 a3))) * (((gx v.1 a1 - gx v.1 a3) * (gy v.1 a2 - gy v.1 a3)) - ((gy v.1 a1 - gy v.1 a3) * (gx v.1 a2 - gx v.1 a3)))))) (lI_mul (((gx v.1 a0 - gx v.1 a3) * (gx v.1 a0 - gx v.1 a3)) + ((gy v.1 a0 - gy v.1 a3) * (gy v.1 a0 - gy v.1 a3))) (((gx v.1 a1 - gx v.1 a3) * (gy v.1 a2 - gy v.1 a3)) - ((gy v.1 a1 - gy v.1 a3) * (gx v.1 a2 - gx v.1 a3)))) ?_
  refine lv_lload hx hb dX0_circleSide_125 (lv_at hl 3 rfl) ?_
  refine lv_lload hx hb dX0_circleSide_127 (lv_at hl 3 rfl) ?_
  refine lv_lmul hx hb dX0_circleSide_129 ?_
  refine rt_l (y := (lI ((gx v.1 a1 - gx v.1 a3) * (gx v.1 a1 - gx v.1 a3)))) (lI_mul (gx v.1 a1 - gx v.1 a3) (gx v.1 a1 - gx v.1 a3)) ?_
  refine lv_lload hx hb dX0_circleSide_130 (lv_at hl 2 rfl) ?_
  refine lv_lload hx hb dX0_circleSide_132 (lv_at hl 2 rfl) ?_
  refine lv_lmul hx hb dX0_circleSide_134 ?_
  refine rt_l (y := (lI ((gy v.1 a1 - gy v.1 a3) * (gy v.1 a1 - gy v.1 a3)))) (lI_mul (gy v.1 a1 - gy v.1 a3) (gy v.1 a1 - gy v.1 a3)) ?_
  refine lv_ladd hx hb dX0_circleSide_135 ?_
  refine rt_l (y := (lI (((gx v.1 a1 - gx v.1 a3) * (gx v.1 a1 - gx v.1 a3)) + ((gy v.1 a1 - gy v.1 a3) * (gy v.1 a1 - gy v.1 a3))))) (lI_add ((gx v.1 a1 - gx v.1 a3) * (gx v.1 a1 - gx v.1 a3)) ((gy v.1 a1 - gy v.1 a3) * (gy v.1 a1 - gy v.1 a3))) ?_
  refine lv_lload hx hb dX0_circleSide_136 (lv_at hl 1 rfl) ?_
  refine lv_lload hx hb dX0_circleSide_138 (lv_at hl 4 rfl) ?_
  refine lv_lmul hx hb dX0_circleSide_140 ?_
  refine rt_l (y := (lI ((gx v.1 a2 - gx v.1 a3) * (gy v.1 a0 - gy v.1 a3)))) (lI_mul (gx v.1 a2 - gx v.1 a3) (gy v.1 a0 - gy v.1 a3)) ?_
  refine lv_lload hx hb dX0_circleSide_141 (lv_at hl 0 rfl) ?_
  refine lv_lload hx hb dX0_circleSide_143 (lv_at hl 5 rfl) ?_
  refine lv_lmul hx hb dX0_circleSide_145 ?_
  refine rt_l (y := (lI ((gy v.1 a2 - gy v.1 a3) * (gx v.1 a0 - gx v.1 a3)))) (lI_mul (gy v.1 a2 - gy v.1 a3) (gx v.1 a0 - gx v.1 a3)) ?_
  refine lv_lsub hx hb dX0_circleSide_146 ?_
  refine rt_l (y := (lI (((gx v.1 a2 - gx v.1 a3) * (gy v.1 a0 - gy v.1 a3)) - ((gy v.1 a2 - gy v.1 a3) * (gx v.1 a0 - gx v.1 a3))))) (lI_sub ((gx v.1 a2 - gx v.1 a3) * (gy v.1 a0 - gy v.1 a3)) ((gy v.1 a2 - gy v.1 a3) * (gx v.1 a0 - gx v.1 a3))) ?_
  refine lv_lmul hx hb dX0_circleSide_147 ?_
  refine rt_l (y := (lI ((((gx v.1 a1 - gx v.1 a3) * (gx v.1 a1 - gx v.1 a3)) + ((gy v.1 a1 - gy v.1 a3) * (gy v.1 a1 - gy v.1 a3))) * (((gx v.1 a2 - gx v.1 a3) * (gy v.1 a0 - gy v.1 a3)) - ((gy v.1 a2 - gy v.1 a3) * (gx v.1 a0 - gx v.1 a3)))))) (lI_mul (((gx v.1 a1 - gx v.1 a3) * (gx v.1 a1 - gx v.1 a3)) + ((gy v.1 a1 - gy v.1 a3) * (gy v.1 a1 - gy v.1 a3))) (((gx v.1 a2 - gx v.1 a3) * (gy v.1 a0 - gy v.1 a3)) - ((gy v.1 a2 - gy v.1 a3) * (gx v.1 a0 - gx v.1 a3)))) ?_
  refine lv_ladd hx hb dX0_circleSide_148 ?_
  refine rt_l (y := (lI (((((gx v.1 a0 - gx v.1 a3) * (gx v.1 a0 - gx v.1 a3)) + ((gy v.1 a0 - gy v.1 a3) * (gy v.1 a0 - gy v.1 a3))) * (((gx v.1 a1 - gx v.1 a3) * (gy v.1 a2 - gy v.1 a3)) - ((gy v.1 a1 - gy v.1 a3) * (gx v.1 a2 - gx v.1 a3)))) + ((((gx v.1 a1 - gx v.1 a3) * (gx v.1 a1 - gx v.1 a3)) + ((gy v.1 a1 - gy v.1 a3) * (gy v.1 a1 - gy v.1 a3))) * (((gx v.1 a2 - gx v.1 a3) * (gy v.1 a0 - gy v.1 a3)) - ((gy v.1 a2 - gy v.1 a3) * (gx v.1 a0 - gx v.1 a3))))))) (lI_add ((((gx v.1 a0 - gx v.1 a3) * (gx v.1 a0 - gx v.1 a3)) + ((gy v.1 a0 - gy v.1 a3) * (gy v.1 a0 - gy v.1 a3))) * (((gx v.1 a1 - gx v.1 a3) * (gy v.1 a2 - gy v.1 a3)) - ((gy v.1 a1 - gy v.1 a3) * (gx v.1 a2 - gx v.1 a3)))) ((((gx v.1 a1 - gx v.1 a3) * (gx v.1 a1 - gx v.1 a3)) + ((gy v.1 a1 - gy v.1 a3) * (gy v.1 a1 - gy v.1 a3))) * (((gx v.1 a2 - gx v.1 a3) * (gy v.1 a0 - gy v.1 a3)) - ((gy v.1 a2 - gy v.1 a3) * (gx v.1 a0 - gx v.1 a3))))) ?_
  refine lv_lload hx hb dX0_circleSide_149 (lv_at hl 1 rfl) ?_
  refine lv_lload hx hb dX0_circleSide_151 (lv_at hl 1 rfl) ?_
  refine lv_lmul hx hb dX0_circleSide_153 ?_
  refine rt_l (y := (lI ((gx v.1 a2 - gx v.1 a3) * (gx v.1 a2 - gx v.1 a3)))) (lI_mul (gx v.1 a2 - gx v.1 a3) (gx v.1 a2 - gx v.1 a3)) ?_
  refine lv_lload hx hb dX0_circleSide_154 (lv_at hl 0 rfl) ?_
  refine lv_lload hx hb dX0_circleSide_156 (lv_at hl 0 rfl) ?_
  refine lv_lmul hx hb dX0_circleSide_158 ?_
  refine rt_l (y := (lI ((gy v.1 a2 - gy v.1 a3) * (gy v.1 a2 - gy v.1 a3)))) (lI_mul (gy v.1 a2 - gy v.1 a3) (gy v.1 a2 - gy v.1 a3)) ?_
  refine lv_ladd hx hb dX0_circleSide_159 ?_
  refine rt_l (y := (lI (((gx v.1 a2 - gx v.1 a3) * (gx v.1 a2 - gx v.1 a3)) + ((gy v.1 a2 - gy v.1 a3) * (gy v.1 a2 - gy v.1 a3))))) (lI_add ((gx v.1 a2 - gx v.1 a3) * (gx v.1 a2 - gx v.1 a3)) ((gy v.1 a2 - gy v.1 a3) * (gy v.1 a2 - gy v.1 a3))) ?_
  refine lv_lload hx hb dX0_circleSide_160 (lv_at hl 5 rfl) ?_
  refine lv_lload hx hb dX0_circleSide_162 (lv_at hl 2 rfl) ?_
  refine lv_lmul hx hb dX0_circleSide_164 ?_
  refine rt_l (y := (lI ((gx v.1 a0 - gx v.1 a3) * (gy v.1 a1 - gy v.1 a3)))) (lI_mul (gx v.1 a0 - gx v.1 a3) (gy v.1 a1 - gy v.1 a3)) ?_
  refine lv_lload hx hb dX0_circleSide_165 (lv_at hl 4 rfl) ?_
  refine lv_lload hx hb dX0_circleSide_167 (lv_at hl 3 rfl) ?_
  refine lv_lmul hx hb dX0_circleSide_169 ?_
  refine rt_l (y := (lI ((gy v.1 a0 - gy v.1 a3) * (gx v.1 a1 - gx v.1 a3)))) (lI_mul (gy v.1 a0 - gy v.1 a3) (gx v.1 a1 - gx v.1 a3)) ?_
  refine lv_lsub hx hb dX0_circleSide_170 ?_
  refine rt_l (y := (lI (((gx v.1 a0 - gx v.1 a3) * (gy v.1 a1 - gy v.1 a3)) - ((gy v.1 a0 - gy v.1 a3) * (gx v.1 a1 - gx v.1 a3))))) (lI_sub ((gx v.1 a0 - gx v.1 a3) * (gy v.1 a1 - gy v.1 a3)) ((gy v.1 a0 - gy v.1 a3) * (gx v.1 a1 - gx v.1 a3))) ?_
  refine lv_lmul hx hb dX0_circleSide_171 ?_
  refine rt_l (y := (lI ((((gx v.1 a2 - gx v.1 a3) * (gx v.1 a2 - gx v.1 a3)) + ((gy v.1 a2 - gy v.1 a3) * (gy v.1 a2 - gy v.1 a3))) * (((gx v.1 a0 - gx v.1 a3) * (gy v.1 a1 - gy v.1 a3)) - ((gy v.1 a0 - gy v.1 a3) * (gx v.1 a1 - gx v.1 a3)))))) (lI_mul (((gx v.1 a2 - gx v.1 a3) * (gx v.1 a2 - gx v.1 a3)) + ((gy v.1 a2 - gy v.1 a3) * (gy v.1 a2 - gy v.1 a3))) (((gx v.1 a0 - gx v.1 a3) * (gy v.1 a1 - gy v.1 a3)) - ((gy v.1 a0 - gy v.1 a3) * (gx v.1 a1 - gx v.1 a3)))) ?_
  refine lv_ladd hx hb dX0_circleSide_172 ?_
  refine rt_l (y := (lI ((((((gx v.1 a0 - gx v.1 a3) * (gx v.1 a0 - gx v.1 a3)) + ((gy v.1 a0 - gy v.1 a3) * (gy v.1 a0 - gy v.1 a3))) * (((gx v.1 a1 - gx v.1 a3) * (gy v.1 a2 - gy v.1 a3)) - ((gy v.1 a1 - gy v.1 a3) * (gx v.1 a2 - gx v.1 a3)))) + ((((gx v.1 a1 - gx v.1 a3) * (gx v.1 a1 - gx v.1 a3)) + ((gy v.1 a1 - gy v.1 a3) * (gy v.1 a1 - gy v.1 a3))) * (((gx v.1 a2 - gx v.1 a3) * (gy v.1 a0 - gy v.1 a3)) - ((gy v.1 a2 - gy v.1 a3) * (gx v.1 a0 - gx v.1 a3))))) + ((((gx v.1 a2 - gx v.1 a3) * (gx v.1 a2 - gx v.1 a3)) + ((gy v.1 a2 - gy v.1 a3) * (gy v.1 a2 - gy v.1 a3))) * (((gx v.1 a0 - gx v.1 a3) * (gy v.1 a1 - gy v.1 a3)) - ((gy v.1 a0 - gy v.1 a3) * (gx v.1 a1 - gx v.1 a3))))))) (lI_add (((((gx v.1 a0 - gx v.1 a3) * (gx v.1 a0 - gx v.1 a3)) + ((gy v.1 a0 - gy v.1 a3) * (gy v.1 a0 - gy v.1 a3))) * (((gx v.1 a1 - gx v.1 a3) * (gy v.1 a2 - gy v.1 a3)) - ((gy v.1 a1 - gy v.1 a3) * (gx v.1 a2 - gx v.1 a3)))) + ((((gx v.1 a1 - gx v.1 a3) * (gx v.1 a1 - gx v.1 a3)) + ((gy v.1 a1 - gy v.1 a3) * (gy v.1 a1 - gy v.1 a3))) * (((gx v.1 a2 - gx v.1 a3) * (gy v.1 a0 - gy v.1 a3)) - ((gy v.1 a2 - gy v.1 a3) * (gx v.1 a0 - gx v.1 a3))))) ((((gx v.1 a2 - gx v.1 a3) * (gx v.1 a2 - gx v.1 a3)) + ((gy v.1 a2 - gy v.1 a3) * (gy v.1 a2 - gy v.1 a3))) * (((gx v.1 a0 - gx v.1 a3) * (gy v.1 a1 - gy v.1 a3)) - ((gy v.1 a0 - gy v.1 a3) * (gx v.1 a1 - gx v.1 a3))))) ?_
  exact ro_lret hx hb hr rfl dX0_circleSide_173 hlocks
set_option maxHeartbeats 4000000 in
set_option maxRecDepth 100000 in
theorem c_X2_isGoodEdge (l : Launch) (dC : Nat → ClassId) (dI : Nat → Nat → Nat) (cI cL cZ : ClassId) (a : Nat → Nat) (v : SV) (t j : Nat) (hv : okS v) (ht : t < 200) (hj : j < 3) : Met l yX2_isGoodEdge wsX2_isGoodEdge ({ frames := 2, cells := 0, slots := 0, locals := 51 }) (va_Pc [.ref (a 0), .int (nI (t)), .int (nI (j))] (ro_B (dC, dI) vwCl (wS cI cL a v) (tyS cI cL cZ))) (k2_QcV (.int (bI (goc v.1 (sTh v) (sTn v) t j)))) 0 0 (fun _ => False) := by
  refine ro_Met (cc := cX2_isGoodEdge) (maxL := 7) (ret := (some .boolean)) (by decide) rfl (Nat.le_of_ble_eq_true rfl) ?_
  intro pr en s m below meth co ls hx hb hml hr hlocks hown hts hP hK hl
  have hl : lv_has ls 7 [(0, .ref (a 0)), (1, .int (nI (t))), (2, .int (nI (j)))] := hl
  have hown : s.vm.findClass RX2 = some m.cls := hown
  have hvp : sPn v ≤ 60 ∧ sTn v ≤ 60 ∧ sTm v ≤ 200 := ⟨hv.2.1, hv.2.2.2.1, hv.2.2.2.2.1⟩
  refine lv_aload_n hx hb dX2_isGoodEdge_0 rfl (lv_at hl 0 rfl) ?_
  refine va_get (D := (dC, dI)) (ci := 2) (v := .ref (a 4)) (C := RX2) (T := TX2) (N := 6) hx hb hts (by decide +kernel) hown hK hP 0 rfl rfl 1 (by decide) (hts (.fieldLink RX2 19 "TriangleSheet" "triangles" "LTriangleSheet$Triangles;") (by decide +kernel)) (fun _ h9 => h9) rfl dX2_isGoodEdge_1 ?_
  refine lv_iload_n hx hb dX2_isGoodEdge_4 rfl (lv_at hl 1 rfl) ?_
  refine lv_iload_n hx hb dX2_isGoodEdge_5 rfl (lv_at hl 2 rfl) ?_
  refine ro_V (As := [.int (nI (t)), .int (nI (j))]) (rest := []) (q0 := 4) (ci := 1) hx hb hml hown hts (c_X1_neighbour l dC dI cI cL cZ a v t j hv (by omega) (by omega)) (cwV 2 hts gX2_isGoodEdge_X1_neighbour rfl rfl rfl (by decide +kernel) ⟨Nat.le_of_ble_eq_true rfl, Nat.le_of_ble_eq_true rfl⟩) hK hP rfl rfl rfl hl.1 rfl (Nat.le_of_ble_eq_true rfl) dX2_isGoodEdge_6 ⟨Nat.zero_le _, Nat.zero_le _⟩ ?_
  have ps_1 : ∀ k, nbr v.1 (sTh v) (sTn v) t j = some k → k < 2 ^ 31 := fun k h => by have := nbr_lt hv h; omega
  refine ocase (x := nbr v.1 (sTh v) (sTn v) t j) (fun ho_u => ?_) (fun u ho_u => ?_)
  · skip
    refine lv_istore_n (lv' := [(3, .int (iI (-1))), (0, .ref (a 0)), (1, .int (nI (t))), (2, .int (nI (j)))]) hx hb dX2_isGoodEdge_9 rfl hl (by decide) rfl (fun ls hl => ?_)
    refine lv_iload_n hx hb dX2_isGoodEdge_10 rfl (lv_at hl 0 rfl) ?_
    refine lv_iconst (v := iI (-1)) hx hb dX2_isGoodEdge_11 (by decide) ?_
    refine lv_icmp_ne (tgt := 17) hx hb dX2_isGoodEdge_12 (by decide) (fun c_2 => absurd rfl c_2) (fun c_2 => ?_)
    refine lv_iconst (v := nI (1)) hx hb dX2_isGoodEdge_15 (by decide) ?_
    exact ro_zret hx hb hr (by decide) (rb_1 (by rw [goc, ho_u])) dX2_isGoodEdge_16 hlocks
  · skip
    obtain ⟨i9, hi9, eu, hed9⟩ := nbr_some ho_u
    have hu9 := hv.2.2.1 i9
    rw [← eu] at hu9
    refine lv_istore_n (lv' := [(3, .int (nI (u))), (0, .ref (a 0)), (1, .int (nI (t))), (2, .int (nI (j)))]) hx hb dX2_isGoodEdge_9 rfl hl (by decide) rfl (fun ls hl => ?_)
    refine lv_iload_n hx hb dX2_isGoodEdge_10 rfl (lv_at hl 0 rfl) ?_
    refine lv_iconst (v := iI (-1)) hx hb dX2_isGoodEdge_11 (by decide) ?_
    refine lv_icmp_ne (tgt := 17) hx hb dX2_isGoodEdge_12 (by decide) (fun c_3 => ?_) (fun c_3 => absurd c_3 (ne_m1 (by omega)))
    refine lv_aload_n hx hb dX2_isGoodEdge_17 rfl (lv_at hl 1 rfl) ?_
    refine va_get (D := (dC, dI)) (ci := 2) (v := .ref (a 4)) (C := RX2) (T := TX2) (N := 6) hx hb hts (by decide +kernel) hown hK hP 0 rfl rfl 1 (by decide) (hts (.fieldLink RX2 19 "TriangleSheet" "triangles" "LTriangleSheet$Triangles;") (by decide +kernel)) (fun _ h9 => h9) rfl dX2_isGoodEdge_18 ?_
    refine lv_iload_n hx hb dX2_isGoodEdge_21 rfl (lv_at hl 2 rfl) ?_
    refine lv_iload_n hx hb dX2_isGoodEdge_22 rfl (lv_at hl 3 rfl) ?_
    refine ro_V (As := [.int (nI (t)), .int (nI (j))]) (rest := []) (q0 := 4) (ci := 1) hx hb hml hown hts (c_X1_cornerOf l dC dI cI cL cZ a v t j (by omega) (by omega)) (cwV 2 hts gX2_isGoodEdge_X1_cornerOf rfl rfl rfl (by decide +kernel) ⟨Nat.le_of_ble_eq_true rfl, Nat.le_of_ble_eq_true rfl⟩) hK hP rfl rfl rfl hl.1 rfl (Nat.le_of_ble_eq_true rfl) dX2_isGoodEdge_23 ⟨Nat.zero_le _, Nat.zero_le _⟩ ?_
    refine lv_istore (lv' := [(4, .int (nI (gc v.1 t j))), (3, .int (nI (u))), (0, .ref (a 0)), (1, .int (nI (t))), (2, .int (nI (j)))]) hx hb dX2_isGoodEdge_26 hl (by decide) rfl (fun ls hl => ?_)
    refine lv_aload_n hx hb dX2_isGoodEdge_28 rfl (lv_at hl 2 rfl) ?_
    refine va_get (D := (dC, dI)) (ci := 2) (v := .ref (a 4)) (C := RX2) (T := TX2) (N := 6) hx hb hts (by decide +kernel) hown hK hP 0 rfl rfl 1 (by decide) (hts (.fieldLink RX2 19 "TriangleSheet" "triangles" "LTriangleSheet$Triangles;") (by decide +kernel)) (fun _ h9 => h9) rfl dX2_isGoodEdge_29 ?_
    refine lv_iload_n hx hb dX2_isGoodEdge_32 rfl (lv_at hl 3 rfl) ?_
    refine lv_iload_n hx hb dX2_isGoodEdge_33 rfl (lv_at hl 4 rfl) ?_
    refine lv_iconst (v := nI (1)) hx hb dX2_isGoodEdge_34 (by decide) ?_
    refine lv_iadd hx hb dX2_isGoodEdge_35 ?_
    refine rt_i (y := (nI (j + 1))) (nn_add (j) (1)) ?_
    refine ro_V (As := [.int (nI (t)), .int (nI (j + 1))]) (rest := []) (q0 := 4) (ci := 1) hx hb hml hown hts (c_X1_cornerOf l dC dI cI cL cZ a v t (j + 1) (by omega) (by omega)) (cwV 2 hts gX2_isGoodEdge_X1_cornerOf rfl rfl rfl (by decide +kernel) ⟨Nat.le_of_ble_eq_true rfl, Nat.le_of_ble_eq_true rfl⟩) hK hP rfl rfl rfl hl.1 rfl (Nat.le_of_ble_eq_true rfl) dX2_isGoodEdge_36 ⟨Nat.zero_le _, Nat.zero_le _⟩ ?_
    refine lv_istore (lv' := [(5, .int (nI (gc v.1 t (j + 1)))), (4, .int (nI (gc v.1 t j))), (3, .int (nI (u))), (0, .ref (a 0)), (1, .int (nI (t))), (2, .int (nI (j)))]) hx hb dX2_isGoodEdge_39 hl (by decide) rfl (fun ls hl => ?_)
    refine lv_aload_n hx hb dX2_isGoodEdge_41 rfl (lv_at hl 3 rfl) ?_
    refine va_get (D := (dC, dI)) (ci := 2) (v := .ref (a 4)) (C := RX2) (T := TX2) (N := 6) hx hb hts (by decide +kernel) hown hK hP 0 rfl rfl 1 (by decide) (hts (.fieldLink RX2 19 "TriangleSheet" "triangles" "LTriangleSheet$Triangles;") (by decide +kernel)) (fun _ h9 => h9) rfl dX2_isGoodEdge_42 ?_
    refine lv_iload_n hx hb dX2_isGoodEdge_45 rfl (lv_at hl 4 rfl) ?_
    refine lv_iload_n hx hb dX2_isGoodEdge_46 rfl (lv_at hl 5 rfl) ?_
    refine lv_iconst (v := nI (2)) hx hb dX2_isGoodEdge_47 (by decide) ?_
    refine lv_iadd hx hb dX2_isGoodEdge_48 ?_
    refine rt_i (y := (nI (j + 2))) (nn_add (j) (2)) ?_
    refine ro_V (As := [.int (nI (t)), .int (nI (j + 2))]) (rest := []) (q0 := 4) (ci := 1) hx hb hml hown hts (c_X1_cornerOf l dC dI cI cL cZ a v t (j + 2) (by omega) (by omega)) (cwV 2 hts gX2_isGoodEdge_X1_cornerOf rfl rfl rfl (by decide +kernel) ⟨Nat.le_of_ble_eq_true rfl, Nat.le_of_ble_eq_true rfl⟩) hK hP rfl rfl rfl hl.1 rfl (Nat.le_of_ble_eq_true rfl) dX2_isGoodEdge_49 ⟨Nat.zero_le _, Nat.zero_le _⟩ ?_
    refine lv_istore (lv' := [(6, .int (nI (gc v.1 t (j + 2)))), (5, .int (nI (gc v.1 t (j + 1)))), (4, .int (nI (gc v.1 t j))), (3, .int (nI (u))), (0, .ref (a 0)), (1, .int (nI (t))), (2, .int (nI (j)))]) hx hb dX2_isGoodEdge_52 hl (by decide) rfl (fun ls hl => ?_)
    refine lv_aload_n hx hb dX2_isGoodEdge_54 rfl (lv_at hl 4 rfl) ?_
    refine va_get (D := (dC, dI)) (ci := 2) (v := .ref (a 1)) (C := RX2) (T := TX2) (N := 6) hx hb hts (by decide +kernel) hown hK hP 0 rfl rfl 0 (by decide) (hts (.fieldLink RX2 10 "TriangleSheet" "points" "LTriangleSheet$Points;") (by decide +kernel)) (fun _ h9 => h9) rfl dX2_isGoodEdge_55 ?_
    refine lv_iload hx hb dX2_isGoodEdge_58 (lv_at hl 2 rfl) ?_
    refine lv_iload hx hb dX2_isGoodEdge_60 (lv_at hl 1 rfl) ?_
    refine lv_iload hx hb dX2_isGoodEdge_62 (lv_at hl 0 rfl) ?_
    refine lv_aload_n hx hb dX2_isGoodEdge_64 rfl (lv_at hl 4 rfl) ?_
    refine va_get (D := (dC, dI)) (ci := 2) (v := .ref (a 4)) (C := RX2) (T := TX2) (N := 6) hx hb hts (by decide +kernel) hown hK hP 0 rfl rfl 1 (by decide) (hts (.fieldLink RX2 19 "TriangleSheet" "triangles" "LTriangleSheet$Triangles;") (by decide +kernel)) (fun _ h9 => h9) rfl dX2_isGoodEdge_65 ?_
    refine lv_iload_n hx hb dX2_isGoodEdge_68 rfl (lv_at hl 3 rfl) ?_
    refine lv_iload hx hb dX2_isGoodEdge_69 (lv_at hl 2 rfl) ?_
    refine lv_iload hx hb dX2_isGoodEdge_71 (lv_at hl 1 rfl) ?_
    refine ro_V (As := [.int (nI (u)), .int (nI (gc v.1 t j)), .int (nI (gc v.1 t (j + 1)))]) (rest := [.int (nI (gc v.1 t (j + 2))), .int (nI (gc v.1 t (j + 1))), .int (nI (gc v.1 t j)), .ref (a 1)]) (q0 := 4) (ci := 1) hx hb hml hown hts (c_X1_thirdCorner l dC dI cI cL cZ a v u (gc v.1 t j) (gc v.1 t (j + 1)) (oth v.1 u (gc v.1 t (j + 1)) (gc v.1 t j)) (by omega) (oth_sum hed9)) (cwV 3 hts gX2_isGoodEdge_X1_thirdCorner rfl rfl rfl (by decide +kernel) ⟨Nat.le_of_ble_eq_true rfl, Nat.le_of_ble_eq_true rfl⟩) hK hP rfl rfl rfl hl.1 rfl (Nat.le_of_ble_eq_true rfl) dX2_isGoodEdge_73 ⟨Nat.zero_le _, Nat.zero_le _⟩ ?_
    refine ro_V (As := [.int (nI (gc v.1 t j)), .int (nI (gc v.1 t (j + 1))), .int (nI (gc v.1 t (j + 2))), .int (nI ((oth v.1 u (gc v.1 t (j + 1)) (gc v.1 t j))))]) (rest := []) (q0 := 1) (ci := 0) hx hb hml hown hts (c_X0_circleSide l dC dI cI cL cZ a v (gc v.1 t j) (gc v.1 t (j + 1)) (gc v.1 t (j + 2)) ((oth v.1 u (gc v.1 t (j + 1)) (gc v.1 t j))) hv (gc_lt hv.1) (gc_lt hv.1) (gc_lt hv.1) (oth_lt hv.1)) (cwV 4 hts gX2_isGoodEdge_X0_circleSide rfl rfl rfl (by decide +kernel) ⟨Nat.le_of_ble_eq_true rfl, Nat.le_of_ble_eq_true rfl⟩) hK hP rfl rfl rfl hl.1 rfl (Nat.le_of_ble_eq_true rfl) dX2_isGoodEdge_76 ⟨Nat.zero_le _, Nat.zero_le _⟩ ?_
    have ps_4 : lOk (cir v.1 (gc v.1 t j) (gc v.1 t (j + 1)) (gc v.1 t (j + 2)) ((oth v.1 u (gc v.1 t (j + 1)) (gc v.1 t j)))) := cir_lok hv.1
    refine lv_lconst (v := lI 0) hx hb dX2_isGoodEdge_79 (by decide) ?_
    refine W.lcmp hx hb dX2_isGoodEdge_80 ?_
    refine lv_if_gt (tgt := 88) hx hb dX2_isGoodEdge_81 (by decide) (fun c_5 => ?_) (fun c_5 => ?_)
    · skip
      have c_5 : 0 < (cir v.1 (gc v.1 t j) (gc v.1 t (j + 1)) (gc v.1 t (j + 2)) ((oth v.1 u (gc v.1 t (j + 1)) (gc v.1 t j)))) := (lc_gt (a := cir v.1 (gc v.1 t j) (gc v.1 t (j + 1)) (gc v.1 t (j + 2)) ((oth v.1 u (gc v.1 t (j + 1)) (gc v.1 t j)))) (b := 0) (by assumption) lOk_0).mp c_5
      refine lv_iconst (v := nI (0)) hx hb dX2_isGoodEdge_88 (by decide) ?_
      exact ro_zret hx hb hr (by decide) (rb_0 (by rw [goc, ho_u]; simp; omega)) dX2_isGoodEdge_89 hlocks
    · skip
      have c_5 : ¬ (0 < (cir v.1 (gc v.1 t j) (gc v.1 t (j + 1)) (gc v.1 t (j + 2)) ((oth v.1 u (gc v.1 t (j + 1)) (gc v.1 t j))))) := fun hq9 => c_5 ((lc_gt (a := cir v.1 (gc v.1 t j) (gc v.1 t (j + 1)) (gc v.1 t (j + 2)) ((oth v.1 u (gc v.1 t (j + 1)) (gc v.1 t j)))) (b := 0) (by assumption) lOk_0).mpr hq9)
      refine lv_iconst (v := nI (1)) hx hb dX2_isGoodEdge_84 (by decide) ?_
      refine lv_goto (tgt := 89) hx hb dX2_isGoodEdge_85 (by decide) ?_
      exact ro_zret hx hb hr (by decide) (rb_1 (by rw [goc, ho_u]; simp; omega)) dX2_isGoodEdge_89 hlocks
set_option maxHeartbeats 4000000 in
set_option maxRecDepth 100000 in
theorem c_X2_who (l : Launch) (dC : Nat → ClassId) (dI : Nat → Nat → Nat) (cI cL cZ : ClassId) (a : Nat → Nat) (v : SV) (x y : Int32) (hv : okS v) : Met l yX2_who wsX2_who ({ frames := 5, cells := 0, slots := 0, locals := 112 }) (va_Pc [.ref (a 0), .int (x), .int (y)] (ro_B (dC, dI) vwCl (wS cI cL a v) (tyS cI cL cZ))) (k2_QcV (.int (oI (whoC v x y)))) 0 0 (fun _ => False) := by
  refine ro_Met (cc := cX2_who) (maxL := 5) (ret := (some .int)) (by decide) rfl (Nat.le_of_ble_eq_true rfl) ?_
  intro pr en s m below meth co ls hx hb hml hr hlocks hown hts hP hK hl
  have hl : lv_has ls 5 [(0, .ref (a 0)), (1, .int (x)), (2, .int (y))] := hl
  have hown : s.vm.findClass RX2 = some m.cls := hown
  have hvp : sPn v ≤ 60 ∧ sTn v ≤ 60 ∧ sTm v ≤ 200 := ⟨hv.2.1, hv.2.2.2.1, hv.2.2.2.2.1⟩
  refine lv_iload_n hx hb dX2_who_0 rfl (lv_at hl 1 rfl) ?_
  refine lv_iload_n hx hb dX2_who_1 rfl (lv_at hl 2 rfl) ?_
  refine ro_S (As := [.int (x), .int (y)]) (rest := []) hx hb hml hown hts (c_X2_isPixel l dC dI  x y ) (va_cwS 2 hts gX2_who_X2_isPixel rfl rfl rfl (by decide +kernel) ⟨Nat.le_of_ble_eq_true rfl, Nat.le_of_ble_eq_true rfl⟩) (hK.sub [] rfl) (hP.sub [] rfl) rfl hl.1 rfl (Nat.le_of_ble_eq_true rfl) dX2_who_2 ⟨Nat.zero_le _, Nat.zero_le _⟩ ?_
  refine lv_if_ne (tgt := 10) hx hb dX2_who_5 (by decide) (fun c_1 => ?_) (fun c_1 => ?_)
  · skip
    have c_1 : (inB x 32 && inB y 32) = true := bI_t c_1
    obtain ⟨⟨x1, hx1, rfl⟩, ⟨y1, hy1, rfl⟩⟩ := inB2 (by decide) c_1
    refine lv_iconst (v := nI (0)) hx hb dX2_who_10 (by decide) ?_
    refine lv_istore_n (lv' := [(3, .int (nI (0))), (0, .ref (a 0)), (1, .int (nI (x1))), (2, .int (nI (y1)))]) hx hb dX2_who_11 rfl hl (by decide) rfl (fun ls hl => ?_)
    refine lp (σ := Nat) (LV := fun n => [(0, .ref (a 0)), (1, .int (nI (x1))), (2, .int (nI (y1))), (3, .int (nI (n)))]) (I := fun k n => n + k = sTn v ∧ fnd (fun n => cov v.1 (sTh v n) x1 y1) (sTn v) 0 = fnd (fun n => cov v.1 (sTh v n) x1 y1) k n) (fun k n ls hI_k hl ih_k => ?_) (sTn v) (0) ls ⟨by omega, rfl⟩ (lv_sub hl [1, 2, 3, 0] rfl)
    obtain ⟨hk, hi⟩ := hI_k
    refine lv_iload_n hx hb dX2_who_12 rfl (lv_at hl 3 rfl) ?_
    refine lv_aload_n hx hb dX2_who_13 rfl (lv_at hl 0 rfl) ?_
    refine va_get (D := (dC, dI)) (ci := 2) (v := .ref (a 4)) (C := RX2) (T := TX2) (N := 6) hx hb hts (by decide +kernel) hown hK hP 0 rfl rfl 1 (by decide) (hts (.fieldLink RX2 19 "TriangleSheet" "triangles" "LTriangleSheet$Triangles;") (by decide +kernel)) (fun _ h9 => h9) rfl dX2_who_14 ?_
    refine ro_V (As := []) (rest := [.int (nI (n))]) (q0 := 4) (ci := 1) hx hb hml hown hts (c_X1_thereCount l dC dI cI cL cZ a v  ) (cwV 0 hts gX2_who_X1_thereCount rfl rfl rfl (by decide +kernel) ⟨Nat.le_of_ble_eq_true rfl, Nat.le_of_ble_eq_true rfl⟩) hK hP rfl rfl rfl hl.1 rfl (Nat.le_of_ble_eq_true rfl) dX2_who_17 ⟨Nat.zero_le _, Nat.zero_le _⟩ ?_
    refine lv_icmp_ge (tgt := 53) hx hb dX2_who_20 (by decide) (fun c_2 => ?_) (fun c_2 => ?_)
    · skip
      have c_2 : sTn v ≤ n := (nI_leI (a := sTn v) (b := n) (by omega) (by omega)).mp c_2
      refine lv_iconst (v := iI (-1)) hx hb dX2_who_53 (by decide) ?_
      exact ro_iret hx hb hr (rO (by rw [whoC, if_pos c_1, nI_clamp (show x1 < 2 ^ 31 by omega), nI_clamp (show y1 < 2 ^ 31 by omega), hi, show k = 0 by omega]; rfl)) dX2_who_54 hlocks
    · skip
      have c_2 : ¬ (sTn v ≤ n) := fun hq9 => c_2 ((nI_leI (a := sTn v) (b := n) (by omega) (by omega)).mpr hq9)
      refine lv_aload_n hx hb dX2_who_23 rfl (lv_at hl 0 rfl) ?_
      refine va_get (D := (dC, dI)) (ci := 2) (v := .ref (a 4)) (C := RX2) (T := TX2) (N := 6) hx hb hts (by decide +kernel) hown hK hP 0 rfl rfl 1 (by decide) (hts (.fieldLink RX2 19 "TriangleSheet" "triangles" "LTriangleSheet$Triangles;") (by decide +kernel)) (fun _ h9 => h9) rfl dX2_who_24 ?_
      refine lv_iload_n hx hb dX2_who_27 rfl (lv_at hl 3 rfl) ?_
      refine ro_V (As := [.int (nI (n))]) (rest := []) (q0 := 4) (ci := 1) hx hb hml hown hts (c_X1_numberAt l dC dI cI cL cZ a v n (by omega)) (cwV 1 hts gX2_who_X1_numberAt rfl rfl rfl (by decide +kernel) ⟨Nat.le_of_ble_eq_true rfl, Nat.le_of_ble_eq_true rfl⟩) hK hP rfl rfl rfl hl.1 rfl (Nat.le_of_ble_eq_true rfl) dX2_who_28 ⟨Nat.zero_le _, Nat.zero_le _⟩ ?_
      refine lv_istore (lv' := [(4, .int (nI (sTh v n))), (0, .ref (a 0)), (1, .int (nI (x1))), (2, .int (nI (y1))), (3, .int (nI (n)))]) hx hb dX2_who_31 hl (by decide) rfl (fun ls hl => ?_)
      refine lv_aload_n hx hb dX2_who_33 rfl (lv_at hl 1 rfl) ?_
      refine lv_iload hx hb dX2_who_34 (lv_at hl 0 rfl) ?_
      refine lv_iload_n hx hb dX2_who_36 rfl (lv_at hl 2 rfl) ?_
      refine lv_iload_n hx hb dX2_who_37 rfl (lv_at hl 3 rfl) ?_
      refine ro_V (As := [.int (nI (sTh v n)), .int (nI (x1)), .int (nI (y1))]) (rest := []) (q0 := 0) (ci := 2) hx hb hml hown hts (c_X2_coversPixel l dC dI cI cL cZ a v (sTh v n) x1 y1 hv (hv.2.2.1 _) (by omega) (by omega)) (cwV 3 hts gX2_who_X2_coversPixel rfl rfl rfl (by decide +kernel) ⟨Nat.le_of_ble_eq_true rfl, Nat.le_of_ble_eq_true rfl⟩) hK hP rfl rfl rfl hl.1 rfl (Nat.le_of_ble_eq_true rfl) dX2_who_38 ⟨Nat.zero_le _, Nat.zero_le _⟩ ?_
      refine lv_if_eq (tgt := 47) hx hb dX2_who_41 (by decide) (fun c_3 => ?_) (fun c_3 => ?_)
      · skip
        have c_3 : (cov v.1 (sTh v n) x1 y1) = false := bI_f c_3
        refine lv_iinc (v := nI (n + 1)) (lv' := [(3, .int (nI (n + 1))), (4, .int (nI (sTh v n))), (0, .ref (a 0)), (1, .int (nI (x1))), (2, .int (nI (y1)))]) hx hb dX2_who_47 hl (k := 4) rfl (nI_1 (n)) (by decide) rfl (fun ls hl => ?_)
        refine lv_goto (tgt := 12) hx hb dX2_who_50 (by decide) ?_
        exact ih_k (k - 1) (n + 1) ls (by omega) ⟨by omega, hi.trans (fnd_miss (by omega) (by assumption))⟩ (lv_sub hl [2, 3, 4, 0] rfl)
      · skip
        have c_3 : (cov v.1 (sTh v n) x1 y1) = true := bI_t c_3
        refine lv_iload hx hb dX2_who_44 (lv_at hl 0 rfl) ?_
        exact ro_iret hx hb hr (rO (by rw [whoC, if_pos c_1, nI_clamp (show x1 < 2 ^ 31 by omega), nI_clamp (show y1 < 2 ^ 31 by omega), hi, fnd_hit (by omega) (by assumption)]; rfl)) dX2_who_46 hlocks
  · skip
    have c_1 : (inB x 32 && inB y 32) = false := bI_f c_1
    refine lv_iconst (v := iI (-1)) hx hb dX2_who_8 (by decide) ?_
    exact ro_iret hx hb hr (rO (by rw [whoC, if_neg (by simp [c_1])]; rfl)) dX2_who_9 hlocks
set_option maxHeartbeats 4000000 in
set_option maxRecDepth 100000 in
theorem c_X2_covers (l : Launch) (dC : Nat → ClassId) (dI : Nat → Nat → Nat) (cI cL cZ : ClassId) (a : Nat → Nat) (v : SV) (x y : Int32) (hv : okS v) : Met l yX2_covers wsX2_covers ({ frames := 5, cells := 0, slots := 0, locals := 112 }) (va_Pc [.ref (a 0), .int (x), .int (y)] (ro_B (dC, dI) vwCl (wS cI cL a v) (tyS cI cL cZ))) (k2_QcV (.int (nI (covC v x y)))) 0 0 (fun _ => False) := by
  refine ro_Met (cc := cX2_covers) (maxL := 5) (ret := (some .int)) (by decide) rfl (Nat.le_of_ble_eq_true rfl) ?_
  intro pr en s m below meth co ls hx hb hml hr hlocks hown hts hP hK hl
  have hl : lv_has ls 5 [(0, .ref (a 0)), (1, .int (x)), (2, .int (y))] := hl
  have hown : s.vm.findClass RX2 = some m.cls := hown
  have hvp : sPn v ≤ 60 ∧ sTn v ≤ 60 ∧ sTm v ≤ 200 := ⟨hv.2.1, hv.2.2.2.1, hv.2.2.2.2.1⟩
  refine lv_iload_n hx hb dX2_covers_0 rfl (lv_at hl 1 rfl) ?_
  refine lv_iload_n hx hb dX2_covers_1 rfl (lv_at hl 2 rfl) ?_
  refine ro_S (As := [.int (x), .int (y)]) (rest := []) hx hb hml hown hts (c_X2_isPixel l dC dI  x y ) (va_cwS 2 hts gX2_covers_X2_isPixel rfl rfl rfl (by decide +kernel) ⟨Nat.le_of_ble_eq_true rfl, Nat.le_of_ble_eq_true rfl⟩) (hK.sub [] rfl) (hP.sub [] rfl) rfl hl.1 rfl (Nat.le_of_ble_eq_true rfl) dX2_covers_2 ⟨Nat.zero_le _, Nat.zero_le _⟩ ?_
  refine lv_if_ne (tgt := 10) hx hb dX2_covers_5 (by decide) (fun c_1 => ?_) (fun c_1 => ?_)
  · skip
    have c_1 : (inB x 32 && inB y 32) = true := bI_t c_1
    obtain ⟨⟨x1, hx1, rfl⟩, ⟨y1, hy1, rfl⟩⟩ := inB2 (by decide) c_1
    refine lv_iconst (v := nI (0)) hx hb dX2_covers_10 (by decide) ?_
    refine lv_istore_n (lv' := [(3, .int (nI (0))), (0, .ref (a 0)), (1, .int (nI (x1))), (2, .int (nI (y1)))]) hx hb dX2_covers_11 rfl hl (by decide) rfl (fun ls hl => ?_)
    refine lv_iconst (v := nI (0)) hx hb dX2_covers_12 (by decide) ?_
    refine lv_istore (lv' := [(4, .int (nI (0))), (3, .int (nI (0))), (0, .ref (a 0)), (1, .int (nI (x1))), (2, .int (nI (y1)))]) hx hb dX2_covers_13 hl (by decide) rfl (fun ls hl => ?_)
    refine lp (σ := Nat × Nat) (LV := fun (n, sm) => [(0, .ref (a 0)), (1, .int (nI (x1))), (2, .int (nI (y1))), (3, .int (nI (sm))), (4, .int (nI (n)))]) (I := fun k (n, sm) => n + k = sTn v ∧ cnt (fun n => cov v.1 (sTh v n) x1 y1) (sTn v) 0 = sm + cnt (fun n => cov v.1 (sTh v n) x1 y1) k n) (fun k (n, sm) ls hI_k hl ih_k => ?_) (sTn v) (0, 0) ls ⟨by omega, by omega⟩ (lv_sub hl [2, 3, 4, 1, 0] rfl)
    obtain ⟨hk, hi⟩ := hI_k
    refine lv_iload hx hb dX2_covers_15 (lv_at hl 4 rfl) ?_
    refine lv_aload_n hx hb dX2_covers_17 rfl (lv_at hl 0 rfl) ?_
    refine va_get (D := (dC, dI)) (ci := 2) (v := .ref (a 4)) (C := RX2) (T := TX2) (N := 6) hx hb hts (by decide +kernel) hown hK hP 0 rfl rfl 1 (by decide) (hts (.fieldLink RX2 19 "TriangleSheet" "triangles" "LTriangleSheet$Triangles;") (by decide +kernel)) (fun _ h9 => h9) rfl dX2_covers_18 ?_
    refine ro_V (As := []) (rest := [.int (nI (n))]) (q0 := 4) (ci := 1) hx hb hml hown hts (c_X1_thereCount l dC dI cI cL cZ a v  ) (cwV 0 hts gX2_covers_X1_thereCount rfl rfl rfl (by decide +kernel) ⟨Nat.le_of_ble_eq_true rfl, Nat.le_of_ble_eq_true rfl⟩) hK hP rfl rfl rfl hl.1 rfl (Nat.le_of_ble_eq_true rfl) dX2_covers_21 ⟨Nat.zero_le _, Nat.zero_le _⟩ ?_
    refine lv_icmp_ge (tgt := 54) hx hb dX2_covers_24 (by decide) (fun c_2 => ?_) (fun c_2 => ?_)
    · skip
      have c_2 : sTn v ≤ n := (nI_leI (a := sTn v) (b := n) (by omega) (by omega)).mp c_2
      refine lv_iload_n hx hb dX2_covers_54 rfl (lv_at hl 3 rfl) ?_
      exact ro_iret hx hb hr (rn (by rw [covC, if_pos c_1, nI_clamp (show x1 < 2 ^ 31 by omega), nI_clamp (show y1 < 2 ^ 31 by omega), hi, show k = 0 by omega]; simp [cnt])) dX2_covers_55 hlocks
    · skip
      have c_2 : ¬ (sTn v ≤ n) := fun hq9 => c_2 ((nI_leI (a := sTn v) (b := n) (by omega) (by omega)).mpr hq9)
      refine lv_aload_n hx hb dX2_covers_27 rfl (lv_at hl 0 rfl) ?_
      refine lv_aload_n hx hb dX2_covers_28 rfl (lv_at hl 0 rfl) ?_
      refine va_get (D := (dC, dI)) (ci := 2) (v := .ref (a 4)) (C := RX2) (T := TX2) (N := 6) hx hb hts (by decide +kernel) hown hK hP 0 rfl rfl 1 (by decide) (hts (.fieldLink RX2 19 "TriangleSheet" "triangles" "LTriangleSheet$Triangles;") (by decide +kernel)) (fun _ h9 => h9) rfl dX2_covers_29 ?_
      refine lv_iload hx hb dX2_covers_32 (lv_at hl 4 rfl) ?_
      refine ro_V (As := [.int (nI (n))]) (rest := [.ref (a 0)]) (q0 := 4) (ci := 1) hx hb hml hown hts (c_X1_numberAt l dC dI cI cL cZ a v n (by omega)) (cwV 1 hts gX2_covers_X1_numberAt rfl rfl rfl (by decide +kernel) ⟨Nat.le_of_ble_eq_true rfl, Nat.le_of_ble_eq_true rfl⟩) hK hP rfl rfl rfl hl.1 rfl (Nat.le_of_ble_eq_true rfl) dX2_covers_34 ⟨Nat.zero_le _, Nat.zero_le _⟩ ?_
      refine lv_iload_n hx hb dX2_covers_37 rfl (lv_at hl 1 rfl) ?_
      refine lv_iload_n hx hb dX2_covers_38 rfl (lv_at hl 2 rfl) ?_
      refine ro_V (As := [.int (nI (sTh v n)), .int (nI (x1)), .int (nI (y1))]) (rest := []) (q0 := 0) (ci := 2) hx hb hml hown hts (c_X2_coversPixel l dC dI cI cL cZ a v (sTh v n) x1 y1 hv (hv.2.2.1 _) (by omega) (by omega)) (cwV 3 hts gX2_covers_X2_coversPixel rfl rfl rfl (by decide +kernel) ⟨Nat.le_of_ble_eq_true rfl, Nat.le_of_ble_eq_true rfl⟩) hK hP rfl rfl rfl hl.1 rfl (Nat.le_of_ble_eq_true rfl) dX2_covers_39 ⟨Nat.zero_le _, Nat.zero_le _⟩ ?_
      refine lv_if_eq (tgt := 48) hx hb dX2_covers_42 (by decide) (fun c_3 => ?_) (fun c_3 => ?_)
      · skip
        have c_3 : (cov v.1 (sTh v n) x1 y1) = false := bI_f c_3
        refine lv_iinc (v := nI (n + 1)) (lv' := [(4, .int (nI (n + 1))), (0, .ref (a 0)), (1, .int (nI (x1))), (2, .int (nI (y1))), (3, .int (nI (sm)))]) hx hb dX2_covers_48 hl (k := 4) rfl (nI_1 (n)) (by decide) rfl (fun ls hl => ?_)
        refine lv_goto (tgt := 15) hx hb dX2_covers_51 (by decide) ?_
        exact ih_k (k - 1) (n + 1, sm) ls (by omega) ⟨by omega, by rw [hi, cnt_s (by omega)]; simp [c_1, c_2, c_3]; try omega⟩ (lv_sub hl [1, 2, 3, 4, 0] rfl)
      · skip
        have c_3 : (cov v.1 (sTh v n) x1 y1) = true := bI_t c_3
        refine lv_iinc (v := nI (sm + 1)) (lv' := [(3, .int (nI (sm + 1))), (0, .ref (a 0)), (1, .int (nI (x1))), (2, .int (nI (y1))), (4, .int (nI (n)))]) hx hb dX2_covers_45 hl (k := 3) rfl (nI_1 (sm)) (by decide) rfl (fun ls hl => ?_)
        refine lv_iinc (v := nI (n + 1)) (lv' := [(4, .int (nI (n + 1))), (3, .int (nI (sm + 1))), (0, .ref (a 0)), (1, .int (nI (x1))), (2, .int (nI (y1)))]) hx hb dX2_covers_48 hl (k := 4) rfl (nI_1 (n)) (by decide) rfl (fun ls hl => ?_)
        refine lv_goto (tgt := 15) hx hb dX2_covers_51 (by decide) ?_
        exact ih_k (k - 1) (n + 1, sm + 1) ls (by omega) ⟨by omega, by rw [hi, cnt_s (by omega)]; simp [c_1, c_2, c_3]; try omega⟩ (lv_sub hl [2, 3, 4, 1, 0] rfl)
  · skip
    have c_1 : (inB x 32 && inB y 32) = false := bI_f c_1
    refine lv_iconst (v := nI (0)) hx hb dX2_covers_8 (by decide) ?_
    exact ro_iret hx hb hr (rn (by rw [covC, if_neg (by simp [c_1])])) dX2_covers_9 hlocks
set_option maxHeartbeats 4000000 in
set_option maxRecDepth 100000 in
theorem c_X2_locate (l : Launch) (dC : Nat → ClassId) (dI : Nat → Nat → Nat) (cI cL cZ : ClassId) (a : Nat → Nat) (v : SV) (x y : Int32) (hv : okS v) : Met l yX2_locate wsX2_locate ({ frames := 4, cells := 0, slots := 0, locals := 89 }) (va_Pc [.ref (a 0), .int (x), .int (y)] (ro_B (dC, dI) vwCl (wS cI cL a v) (tyS cI cL cZ))) (k2_QcV (.int (oI (locC v x y)))) 0 0 (fun _ => False) := by
  refine ro_Met (cc := cX2_locate) (maxL := 5) (ret := (some .int)) (by decide) rfl (Nat.le_of_ble_eq_true rfl) ?_
  intro pr en s m below meth co ls hx hb hml hr hlocks hown hts hP hK hl
  have hl : lv_has ls 5 [(0, .ref (a 0)), (1, .int (x)), (2, .int (y))] := hl
  have hown : s.vm.findClass RX2 = some m.cls := hown
  have hvp : sPn v ≤ 60 ∧ sTn v ≤ 60 ∧ sTm v ≤ 200 := ⟨hv.2.1, hv.2.2.2.1, hv.2.2.2.2.1⟩
  refine lv_iload_n hx hb dX2_locate_0 rfl (lv_at hl 1 rfl) ?_
  refine lv_iload_n hx hb dX2_locate_1 rfl (lv_at hl 2 rfl) ?_
  refine ro_S (As := [.int (x), .int (y)]) (rest := []) hx hb hml hown hts (c_X2_isPlace l dC dI  x y ) (va_cwS 2 hts gX2_locate_X2_isPlace rfl rfl rfl (by decide +kernel) ⟨Nat.le_of_ble_eq_true rfl, Nat.le_of_ble_eq_true rfl⟩) (hK.sub [] rfl) (hP.sub [] rfl) rfl hl.1 rfl (Nat.le_of_ble_eq_true rfl) dX2_locate_2 ⟨Nat.zero_le _, Nat.zero_le _⟩ ?_
  refine lv_if_ne (tgt := 10) hx hb dX2_locate_5 (by decide) (fun c_1 => ?_) (fun c_1 => ?_)
  · skip
    have c_1 : (inB x 512 && inB y 512) = true := bI_t c_1
    obtain ⟨⟨x1, hx1, rfl⟩, ⟨y1, hy1, rfl⟩⟩ := inB2 (by decide) c_1
    refine lv_iconst (v := nI (0)) hx hb dX2_locate_10 (by decide) ?_
    refine lv_istore_n (lv' := [(3, .int (nI (0))), (0, .ref (a 0)), (1, .int (nI (x1))), (2, .int (nI (y1)))]) hx hb dX2_locate_11 rfl hl (by decide) rfl (fun ls hl => ?_)
    refine lp (σ := Nat) (LV := fun n => [(0, .ref (a 0)), (1, .int (nI (x1))), (2, .int (nI (y1))), (3, .int (nI (n)))]) (I := fun k n => n + k = sTn v ∧ fnd (fun n => rgt v.1 (sTh v n) && has v.1 (sTh v n) (x1 : Int) (y1 : Int)) (sTn v) 0 = fnd (fun n => rgt v.1 (sTh v n) && has v.1 (sTh v n) (x1 : Int) (y1 : Int)) k n) (fun k n ls hI_k hl ih_k => ?_) (sTn v) (0) ls ⟨by omega, rfl⟩ (lv_sub hl [1, 2, 3, 0] rfl)
    obtain ⟨hk, hi⟩ := hI_k
    refine lv_iload_n hx hb dX2_locate_12 rfl (lv_at hl 3 rfl) ?_
    refine lv_aload_n hx hb dX2_locate_13 rfl (lv_at hl 0 rfl) ?_
    refine va_get (D := (dC, dI)) (ci := 2) (v := .ref (a 4)) (C := RX2) (T := TX2) (N := 6) hx hb hts (by decide +kernel) hown hK hP 0 rfl rfl 1 (by decide) (hts (.fieldLink RX2 19 "TriangleSheet" "triangles" "LTriangleSheet$Triangles;") (by decide +kernel)) (fun _ h9 => h9) rfl dX2_locate_14 ?_
    refine ro_V (As := []) (rest := [.int (nI (n))]) (q0 := 4) (ci := 1) hx hb hml hown hts (c_X1_thereCount l dC dI cI cL cZ a v  ) (cwV 0 hts gX2_locate_X1_thereCount rfl rfl rfl (by decide +kernel) ⟨Nat.le_of_ble_eq_true rfl, Nat.le_of_ble_eq_true rfl⟩) hK hP rfl rfl rfl hl.1 rfl (Nat.le_of_ble_eq_true rfl) dX2_locate_17 ⟨Nat.zero_le _, Nat.zero_le _⟩ ?_
    refine lv_icmp_ge (tgt := 62) hx hb dX2_locate_20 (by decide) (fun c_2 => ?_) (fun c_2 => ?_)
    · skip
      have c_2 : sTn v ≤ n := (nI_leI (a := sTn v) (b := n) (by omega) (by omega)).mp c_2
      refine lv_iconst (v := iI (-1)) hx hb dX2_locate_62 (by decide) ?_
      exact ro_iret hx hb hr (rO (by rw [locC, if_pos c_1, nI_toInt (show x1 < 2 ^ 31 by omega), nI_toInt (show y1 < 2 ^ 31 by omega), hi, show k = 0 by omega]; rfl)) dX2_locate_63 hlocks
    · skip
      have c_2 : ¬ (sTn v ≤ n) := fun hq9 => c_2 ((nI_leI (a := sTn v) (b := n) (by omega) (by omega)).mpr hq9)
      refine lv_aload_n hx hb dX2_locate_23 rfl (lv_at hl 0 rfl) ?_
      refine va_get (D := (dC, dI)) (ci := 2) (v := .ref (a 4)) (C := RX2) (T := TX2) (N := 6) hx hb hts (by decide +kernel) hown hK hP 0 rfl rfl 1 (by decide) (hts (.fieldLink RX2 19 "TriangleSheet" "triangles" "LTriangleSheet$Triangles;") (by decide +kernel)) (fun _ h9 => h9) rfl dX2_locate_24 ?_
      refine lv_iload_n hx hb dX2_locate_27 rfl (lv_at hl 3 rfl) ?_
      refine ro_V (As := [.int (nI (n))]) (rest := []) (q0 := 4) (ci := 1) hx hb hml hown hts (c_X1_numberAt l dC dI cI cL cZ a v n (by omega)) (cwV 1 hts gX2_locate_X1_numberAt rfl rfl rfl (by decide +kernel) ⟨Nat.le_of_ble_eq_true rfl, Nat.le_of_ble_eq_true rfl⟩) hK hP rfl rfl rfl hl.1 rfl (Nat.le_of_ble_eq_true rfl) dX2_locate_28 ⟨Nat.zero_le _, Nat.zero_le _⟩ ?_
      refine lv_istore (lv' := [(4, .int (nI (sTh v n))), (0, .ref (a 0)), (1, .int (nI (x1))), (2, .int (nI (y1))), (3, .int (nI (n)))]) hx hb dX2_locate_31 hl (by decide) rfl (fun ls hl => ?_)
      refine lv_aload_n hx hb dX2_locate_33 rfl (lv_at hl 1 rfl) ?_
      refine lv_iload hx hb dX2_locate_34 (lv_at hl 0 rfl) ?_
      refine ro_V (As := [.int (nI (sTh v n))]) (rest := []) (q0 := 0) (ci := 2) hx hb hml hown hts (c_X2_isRight l dC dI cI cL cZ a v (sTh v n) hv (hv.2.2.1 _)) (cwV 1 hts gX2_locate_X2_isRight rfl rfl rfl (by decide +kernel) ⟨Nat.le_of_ble_eq_true rfl, Nat.le_of_ble_eq_true rfl⟩) hK hP rfl rfl rfl hl.1 rfl (Nat.le_of_ble_eq_true rfl) dX2_locate_36 ⟨Nat.zero_le _, Nat.zero_le _⟩ ?_
      refine lv_if_eq (tgt := 56) hx hb dX2_locate_39 (by decide) (fun c_3 => ?_) (fun c_3 => ?_)
      · skip
        have c_3 : (rgt v.1 (sTh v n)) = false := bI_f c_3
        refine lv_iinc (v := nI (n + 1)) (lv' := [(3, .int (nI (n + 1))), (4, .int (nI (sTh v n))), (0, .ref (a 0)), (1, .int (nI (x1))), (2, .int (nI (y1)))]) hx hb dX2_locate_56 hl (k := 4) rfl (nI_1 (n)) (by decide) rfl (fun ls hl => ?_)
        refine lv_goto (tgt := 12) hx hb dX2_locate_59 (by decide) ?_
        exact ih_k (k - 1) (n + 1) ls (by omega) ⟨by omega, hi.trans (fnd_miss (by omega) (by simp [c_1, c_2, c_3]))⟩ (lv_sub hl [2, 3, 4, 0] rfl)
      · skip
        have c_3 : (rgt v.1 (sTh v n)) = true := bI_t c_3
        refine lv_aload_n hx hb dX2_locate_42 rfl (lv_at hl 1 rfl) ?_
        refine lv_iload hx hb dX2_locate_43 (lv_at hl 0 rfl) ?_
        refine lv_iload_n hx hb dX2_locate_45 rfl (lv_at hl 2 rfl) ?_
        refine lv_iload_n hx hb dX2_locate_46 rfl (lv_at hl 3 rfl) ?_
        refine ro_V (As := [.int (nI (sTh v n)), .int (nI (x1)), .int (nI (y1))]) (rest := []) (q0 := 0) (ci := 2) hx hb hml hown hts (c_X2_hasPlace l dC dI cI cL cZ a v (sTh v n) x1 y1 hv (hv.2.2.1 _) (by omega) (by omega)) (cwV 3 hts gX2_locate_X2_hasPlace rfl rfl rfl (by decide +kernel) ⟨Nat.le_of_ble_eq_true rfl, Nat.le_of_ble_eq_true rfl⟩) hK hP rfl rfl rfl hl.1 rfl (Nat.le_of_ble_eq_true rfl) dX2_locate_47 ⟨Nat.zero_le _, Nat.zero_le _⟩ ?_
        refine lv_if_eq (tgt := 56) hx hb dX2_locate_50 (by decide) (fun c_4 => ?_) (fun c_4 => ?_)
        · skip
          have c_4 : (has v.1 (sTh v n) (x1 : Int) (y1 : Int)) = false := bI_f c_4
          refine lv_iinc (v := nI (n + 1)) (lv' := [(3, .int (nI (n + 1))), (4, .int (nI (sTh v n))), (0, .ref (a 0)), (1, .int (nI (x1))), (2, .int (nI (y1)))]) hx hb dX2_locate_56 hl (k := 4) rfl (nI_1 (n)) (by decide) rfl (fun ls hl => ?_)
          refine lv_goto (tgt := 12) hx hb dX2_locate_59 (by decide) ?_
          exact ih_k (k - 1) (n + 1) ls (by omega) ⟨by omega, hi.trans (fnd_miss (by omega) (by simp [c_1, c_2, c_3, c_4]))⟩ (lv_sub hl [2, 3, 4, 0] rfl)
        · skip
          have c_4 : (has v.1 (sTh v n) (x1 : Int) (y1 : Int)) = true := bI_t c_4
          refine lv_iload hx hb dX2_locate_53 (lv_at hl 0 rfl) ?_
          exact ro_iret hx hb hr (rO (by rw [locC, if_pos c_1, nI_toInt (show x1 < 2 ^ 31 by omega), nI_toInt (show y1 < 2 ^ 31 by omega), hi, fnd_hit (by omega) (by simp [c_1, c_2, c_3, c_4])]; rfl)) dX2_locate_55 hlocks
  · skip
    have c_1 : (inB x 512 && inB y 512) = false := bI_f c_1
    refine lv_iconst (v := iI (-1)) hx hb dX2_locate_8 (by decide) ?_
    exact ro_iret hx hb hr (rO (by rw [locC, if_neg (by simp [c_1])]; rfl)) dX2_locate_9 hlocks
set_option maxHeartbeats 4000000 in
set_option maxRecDepth 100000 in
theorem c_X2_beside (l : Launch) (dC : Nat → ClassId) (dI : Nat → Nat → Nat) (cI cL cZ : ClassId) (a : Nat → Nat) (v : SV) (t j : Int32) (hv : okS v) : Met l yX2_beside wsX2_beside ({ frames := 2, cells := 0, slots := 0, locals := 51 }) (va_Pc [.ref (a 0), .int (t), .int (j)] (ro_B (dC, dI) vwCl (wS cI cL a v) (tyS cI cL cZ))) (k2_QcV (.int (oI (besC v t j)))) 0 0 (fun _ => False) := by
  refine ro_Met (cc := cX2_beside) (maxL := 3) (ret := (some .int)) (by decide) rfl (Nat.le_of_ble_eq_true rfl) ?_
  intro pr en s m below meth co ls hx hb hml hr hlocks hown hts hP hK hl
  have hl : lv_has ls 3 [(0, .ref (a 0)), (1, .int (t)), (2, .int (j))] := hl
  have hown : s.vm.findClass RX2 = some m.cls := hown
  have hvp : sPn v ≤ 60 ∧ sTn v ≤ 60 ∧ sTm v ≤ 200 := ⟨hv.2.1, hv.2.2.2.1, hv.2.2.2.2.1⟩
  refine lv_aload_n hx hb dX2_beside_0 rfl (lv_at hl 0 rfl) ?_
  refine lv_iload_n hx hb dX2_beside_1 rfl (lv_at hl 1 rfl) ?_
  refine lv_iload_n hx hb dX2_beside_2 rfl (lv_at hl 2 rfl) ?_
  refine ro_V (As := [.int (t), .int (j)]) (rest := []) (q0 := 0) (ci := 2) hx hb hml hown hts (c_X2_isEdge l dC dI cI cL cZ a v t j hv) (cwV 2 hts gX2_beside_X2_isEdge rfl rfl rfl (by decide +kernel) ⟨Nat.le_of_ble_eq_true rfl, Nat.le_of_ble_eq_true rfl⟩) hK hP rfl rfl rfl hl.1 rfl (Nat.le_of_ble_eq_true rfl) dX2_beside_3 ⟨Nat.zero_le _, Nat.zero_le _⟩ ?_
  refine lv_if_eq (tgt := 21) hx hb dX2_beside_6 (by decide) (fun c_1 => ?_) (fun c_1 => ?_)
  · skip
    have c_1 : (inB j 3 && thB (sTh v) (sTn v) t) = false := bI_f c_1
    refine lv_iconst (v := iI (-1)) hx hb dX2_beside_21 (by decide) ?_
    exact ro_iret hx hb hr (rO (by rw [besC, if_neg (by simp [edg, c_1])]; rfl)) dX2_beside_22 hlocks
  · skip
    have c_1 : (inB j 3 && thB (sTh v) (sTn v) t) = true := bI_t c_1
    obtain ⟨⟨j1, hj1, rfl⟩, ⟨i1, hi1, rfl⟩⟩ := edg_of c_1
    have ht1 := hv.2.2.1 i1
    refine lv_aload_n hx hb dX2_beside_9 rfl (lv_at hl 0 rfl) ?_
    refine va_get (D := (dC, dI)) (ci := 2) (v := .ref (a 4)) (C := RX2) (T := TX2) (N := 6) hx hb hts (by decide +kernel) hown hK hP 0 rfl rfl 1 (by decide) (hts (.fieldLink RX2 19 "TriangleSheet" "triangles" "LTriangleSheet$Triangles;") (by decide +kernel)) (fun _ h9 => h9) rfl dX2_beside_10 ?_
    refine lv_iload_n hx hb dX2_beside_13 rfl (lv_at hl 1 rfl) ?_
    refine lv_iload_n hx hb dX2_beside_14 rfl (lv_at hl 2 rfl) ?_
    refine ro_V (As := [.int (nI (sTh v i1)), .int (nI (j1))]) (rest := []) (q0 := 4) (ci := 1) hx hb hml hown hts (c_X1_neighbour l dC dI cI cL cZ a v (sTh v i1) j1 hv (by omega) (by omega)) (cwV 2 hts gX2_beside_X1_neighbour rfl rfl rfl (by decide +kernel) ⟨Nat.le_of_ble_eq_true rfl, Nat.le_of_ble_eq_true rfl⟩) hK hP rfl rfl rfl hl.1 rfl (Nat.le_of_ble_eq_true rfl) dX2_beside_15 ⟨Nat.zero_le _, Nat.zero_le _⟩ ?_
    have ps_2 : ∀ k, nbr v.1 (sTh v) (sTn v) (sTh v i1) j1 = some k → k < 2 ^ 31 := fun k h => by have := nbr_lt hv h; omega
    refine lv_goto (tgt := 22) hx hb dX2_beside_18 (by decide) ?_
    exact ro_iret hx hb hr (rO (by rw [besC, if_pos (show edg v (nI (sTh v i1)) (nI j1) = true from c_1), nI_clamp (show sTh v i1 < 2 ^ 31 by omega), nI_clamp (show j1 < 2 ^ 31 by omega)])) dX2_beside_22 hlocks
set_option maxHeartbeats 4000000 in
set_option maxRecDepth 100000 in
theorem c_X2_isGood (l : Launch) (dC : Nat → ClassId) (dI : Nat → Nat → Nat) (cI cL cZ : ClassId) (a : Nat → Nat) (v : SV) (t j : Int32) (hv : okS v) : Met l yX2_isGood wsX2_isGood ({ frames := 3, cells := 0, slots := 0, locals := 77 }) (va_Pc [.ref (a 0), .int (t), .int (j)] (ro_B (dC, dI) vwCl (wS cI cL a v) (tyS cI cL cZ))) (k2_QcV (.int (bI (gooC v t j)))) 0 0 (fun _ => False) := by
  refine ro_Met (cc := cX2_isGood) (maxL := 3) (ret := (some .boolean)) (by decide) rfl (Nat.le_of_ble_eq_true rfl) ?_
  intro pr en s m below meth co ls hx hb hml hr hlocks hown hts hP hK hl
  have hl : lv_has ls 3 [(0, .ref (a 0)), (1, .int (t)), (2, .int (j))] := hl
  have hown : s.vm.findClass RX2 = some m.cls := hown
  have hvp : sPn v ≤ 60 ∧ sTn v ≤ 60 ∧ sTm v ≤ 200 := ⟨hv.2.1, hv.2.2.2.1, hv.2.2.2.2.1⟩
  refine lv_aload_n hx hb dX2_isGood_0 rfl (lv_at hl 0 rfl) ?_
  refine lv_iload_n hx hb dX2_isGood_1 rfl (lv_at hl 1 rfl) ?_
  refine lv_iload_n hx hb dX2_isGood_2 rfl (lv_at hl 2 rfl) ?_
  refine ro_V (As := [.int (t), .int (j)]) (rest := []) (q0 := 0) (ci := 2) hx hb hml hown hts (c_X2_isEdge l dC dI cI cL cZ a v t j hv) (cwV 2 hts gX2_isGood_X2_isEdge rfl rfl rfl (by decide +kernel) ⟨Nat.le_of_ble_eq_true rfl, Nat.le_of_ble_eq_true rfl⟩) hK hP rfl rfl rfl hl.1 rfl (Nat.le_of_ble_eq_true rfl) dX2_isGood_3 ⟨Nat.zero_le _, Nat.zero_le _⟩ ?_
  refine lv_if_eq (tgt := 22) hx hb dX2_isGood_6 (by decide) (fun c_1 => ?_) (fun c_1 => ?_)
  · skip
    have c_1 : (inB j 3 && thB (sTh v) (sTn v) t) = false := bI_f c_1
    refine lv_iconst (v := nI (0)) hx hb dX2_isGood_22 (by decide) ?_
    exact ro_zret hx hb hr (by decide) (rb_0 (by first | (simp [gooC, edg, c_1]; done) | (rw [gooC, edg, nI_clamp (show sTh v i1 < 2 ^ 31 by omega), nI_clamp (show j1 < 2 ^ 31 by omega)]; simp [c_1]))) dX2_isGood_23 hlocks
  · skip
    have c_1 : (inB j 3 && thB (sTh v) (sTn v) t) = true := bI_t c_1
    obtain ⟨⟨j1, hj1, rfl⟩, ⟨i1, hi1, rfl⟩⟩ := edg_of c_1
    have ht1 := hv.2.2.1 i1
    refine lv_aload_n hx hb dX2_isGood_9 rfl (lv_at hl 0 rfl) ?_
    refine lv_iload_n hx hb dX2_isGood_10 rfl (lv_at hl 1 rfl) ?_
    refine lv_iload_n hx hb dX2_isGood_11 rfl (lv_at hl 2 rfl) ?_
    refine ro_V (As := [.int (nI (sTh v i1)), .int (nI (j1))]) (rest := []) (q0 := 0) (ci := 2) hx hb hml hown hts (c_X2_isGoodEdge l dC dI cI cL cZ a v (sTh v i1) j1 hv (by omega) (by omega)) (cwV 2 hts gX2_isGood_X2_isGoodEdge rfl rfl rfl (by decide +kernel) ⟨Nat.le_of_ble_eq_true rfl, Nat.le_of_ble_eq_true rfl⟩) hK hP rfl rfl rfl hl.1 rfl (Nat.le_of_ble_eq_true rfl) dX2_isGood_12 ⟨Nat.zero_le _, Nat.zero_le _⟩ ?_
    refine lv_if_eq (tgt := 22) hx hb dX2_isGood_15 (by decide) (fun c_2 => ?_) (fun c_2 => ?_)
    · skip
      have c_2 : (goc v.1 (sTh v) (sTn v) (sTh v i1) j1) = false := bI_f c_2
      refine lv_iconst (v := nI (0)) hx hb dX2_isGood_22 (by decide) ?_
      exact ro_zret hx hb hr (by decide) (rb_0 (by first | (simp [gooC, edg, c_1, c_2]; done) | (rw [gooC, edg, nI_clamp (show sTh v i1 < 2 ^ 31 by omega), nI_clamp (show j1 < 2 ^ 31 by omega)]; simp [c_1, c_2]))) dX2_isGood_23 hlocks
    · skip
      have c_2 : (goc v.1 (sTh v) (sTn v) (sTh v i1) j1) = true := bI_t c_2
      refine lv_iconst (v := nI (1)) hx hb dX2_isGood_18 (by decide) ?_
      refine lv_goto (tgt := 23) hx hb dX2_isGood_19 (by decide) ?_
      exact ro_zret hx hb hr (by decide) (rb_1 (by rw [gooC, edg, nI_clamp (show sTh v i1 < 2 ^ 31 by omega), nI_clamp (show j1 < 2 ^ 31 by omega)]; simp [c_1, c_2])) dX2_isGood_23 hlocks
set_option maxHeartbeats 4000000 in
set_option maxRecDepth 100000 in
theorem c_X2_corner (l : Launch) (dC : Nat → ClassId) (dI : Nat → Nat → Nat) (cI cL cZ : ClassId) (a : Nat → Nat) (v : SV) (t j : Int32) (hv : okS v) : Met l yX2_corner wsX2_corner ({ frames := 2, cells := 0, slots := 0, locals := 44 }) (va_Pc [.ref (a 0), .int (t), .int (j)] (ro_B (dC, dI) vwCl (wS cI cL a v) (tyS cI cL cZ))) (k2_QcV (.int (oI (corC v t j)))) 0 0 (fun _ => False) := by
  refine ro_Met (cc := cX2_corner) (maxL := 3) (ret := (some .int)) (by decide) rfl (Nat.le_of_ble_eq_true rfl) ?_
  intro pr en s m below meth co ls hx hb hml hr hlocks hown hts hP hK hl
  have hl : lv_has ls 3 [(0, .ref (a 0)), (1, .int (t)), (2, .int (j))] := hl
  have hown : s.vm.findClass RX2 = some m.cls := hown
  have hvp : sPn v ≤ 60 ∧ sTn v ≤ 60 ∧ sTm v ≤ 200 := ⟨hv.2.1, hv.2.2.2.1, hv.2.2.2.2.1⟩
  refine lv_aload_n hx hb dX2_corner_0 rfl (lv_at hl 0 rfl) ?_
  refine lv_iload_n hx hb dX2_corner_1 rfl (lv_at hl 1 rfl) ?_
  refine lv_iload_n hx hb dX2_corner_2 rfl (lv_at hl 2 rfl) ?_
  refine ro_V (As := [.int (t), .int (j)]) (rest := []) (q0 := 0) (ci := 2) hx hb hml hown hts (c_X2_isEdge l dC dI cI cL cZ a v t j hv) (cwV 2 hts gX2_corner_X2_isEdge rfl rfl rfl (by decide +kernel) ⟨Nat.le_of_ble_eq_true rfl, Nat.le_of_ble_eq_true rfl⟩) hK hP rfl rfl rfl hl.1 rfl (Nat.le_of_ble_eq_true rfl) dX2_corner_3 ⟨Nat.zero_le _, Nat.zero_le _⟩ ?_
  refine lv_if_eq (tgt := 21) hx hb dX2_corner_6 (by decide) (fun c_1 => ?_) (fun c_1 => ?_)
  · skip
    have c_1 : (inB j 3 && thB (sTh v) (sTn v) t) = false := bI_f c_1
    refine lv_iconst (v := iI (-1)) hx hb dX2_corner_21 (by decide) ?_
    exact ro_iret hx hb hr (rO (by rw [corC, if_neg (by simp [edg, c_1])]; rfl)) dX2_corner_22 hlocks
  · skip
    have c_1 : (inB j 3 && thB (sTh v) (sTn v) t) = true := bI_t c_1
    obtain ⟨⟨j1, hj1, rfl⟩, ⟨i1, hi1, rfl⟩⟩ := edg_of c_1
    have ht1 := hv.2.2.1 i1
    refine lv_aload_n hx hb dX2_corner_9 rfl (lv_at hl 0 rfl) ?_
    refine va_get (D := (dC, dI)) (ci := 2) (v := .ref (a 4)) (C := RX2) (T := TX2) (N := 6) hx hb hts (by decide +kernel) hown hK hP 0 rfl rfl 1 (by decide) (hts (.fieldLink RX2 19 "TriangleSheet" "triangles" "LTriangleSheet$Triangles;") (by decide +kernel)) (fun _ h9 => h9) rfl dX2_corner_10 ?_
    refine lv_iload_n hx hb dX2_corner_13 rfl (lv_at hl 1 rfl) ?_
    refine lv_iload_n hx hb dX2_corner_14 rfl (lv_at hl 2 rfl) ?_
    refine ro_V (As := [.int (nI (sTh v i1)), .int (nI (j1))]) (rest := []) (q0 := 4) (ci := 1) hx hb hml hown hts (c_X1_cornerOf l dC dI cI cL cZ a v (sTh v i1) j1 (by omega) (by omega)) (cwV 2 hts gX2_corner_X1_cornerOf rfl rfl rfl (by decide +kernel) ⟨Nat.le_of_ble_eq_true rfl, Nat.le_of_ble_eq_true rfl⟩) hK hP rfl rfl rfl hl.1 rfl (Nat.le_of_ble_eq_true rfl) dX2_corner_15 ⟨Nat.zero_le _, Nat.zero_le _⟩ ?_
    refine lv_goto (tgt := 22) hx hb dX2_corner_18 (by decide) ?_
    exact ro_iret hx hb hr (rO (by rw [corC, if_pos (show edg v (nI (sTh v i1)) (nI j1) = true from c_1), nI_clamp (show sTh v i1 < 2 ^ 31 by omega), nI_clamp (show j1 < 2 ^ 31 by omega)]; rfl)) dX2_corner_22 hlocks
set_option maxHeartbeats 4000000 in
set_option maxRecDepth 100000 in
theorem c_X2_culprit (l : Launch) (dC : Nat → ClassId) (dI : Nat → Nat → Nat) (cI cL cZ : ClassId) (a : Nat → Nat) (v : SV) (x : Int32)  : Met l yX2_culprit wsX2_culprit ({ frames := 0, cells := 0, slots := 0, locals := 0 }) (va_Pc [.ref (a 0), .int (x)] (ro_B (dC, dI) vwCl (wS cI cL a v) (tyS cI cL cZ))) (k2_QcV (.int (culC v x))) 0 0 (fun _ => False) := by
  refine ro_Met (cc := cX2_culprit) (maxL := 2) (ret := (some .int)) (by decide) rfl (Nat.le_of_ble_eq_true rfl) ?_
  intro pr en s m below meth co ls hx hb hml hr hlocks hown hts hP hK hl
  have hl : lv_has ls 2 [(0, .ref (a 0)), (1, .int (x))] := hl
  have hown : s.vm.findClass RX2 = some m.cls := hown
  refine lv_iload_n hx hb dX2_culprit_0 rfl (lv_at hl 1 rfl) ?_
  by_cases sw_1 : x = 0
  · skip
    refine lv_lookup (off := 27) (tgt := 28) hx hb dX2_culprit_1 (by decide) (by rw [sw_1] <;> rfl) (by decide) ?_
    refine lv_aload_n hx hb dX2_culprit_28 rfl (lv_at hl 0 rfl) ?_
    refine va_get (D := (dC, dI)) (ci := 2) (v := .int (sFa v)) (C := RX2) (T := TX2) (N := 6) hx hb hts (by decide +kernel) hown hK hP 0 rfl rfl 4 (by decide) (hts (.fieldLink RX2 31 "TriangleSheet" "faulty" "I") (by decide +kernel)) (fun _ h9 => h9) rfl dX2_culprit_29 ?_
    exact ro_iret hx hb hr (congrArg Value.int (by simp [culC, sw_1])) dX2_culprit_32 hlocks
  · skip
    by_cases sw_2 : x = 1
    · skip
      refine lv_lookup (off := 32) (tgt := 33) hx hb dX2_culprit_1 (by decide) (by rw [sw_2] <;> rfl) (by decide) ?_
      refine lv_aload_n hx hb dX2_culprit_33 rfl (lv_at hl 0 rfl) ?_
      refine va_get (D := (dC, dI)) (ci := 2) (v := .int (sFb v)) (C := RX2) (T := TX2) (N := 6) hx hb hts (by decide +kernel) hown hK hP 0 rfl rfl 5 (by decide) (hts (.fieldLink RX2 35 "TriangleSheet" "faultyWith" "I") (by decide +kernel)) (fun _ h9 => h9) rfl dX2_culprit_34 ?_
      exact ro_iret hx hb hr (congrArg Value.int (by simp [culC, sw_1, sw_2])) dX2_culprit_37 hlocks
    · skip
      refine lv_lookup (off := 37) (tgt := 38) hx hb dX2_culprit_1 (by decide) ((lv_osw sw_1 (by decide)).trans ((lv_osw sw_2 (by decide)).trans rfl)) (by decide) ?_
      refine lv_iconst (v := iI (-1)) hx hb dX2_culprit_38 (by decide) ?_
      exact ro_iret hx hb hr (congrArg Value.int (by simp [culC, sw_1, sw_2])) dX2_culprit_39 hlocks
set_option maxHeartbeats 4000000 in
set_option maxRecDepth 100000 in
theorem c_X2_countLonelyEdges (l : Launch) (dC : Nat → ClassId) (dI : Nat → Nat → Nat) (cI cL cZ : ClassId) (a : Nat → Nat) (v : SV)  (hv : okS v) : Met l yX2_countLonelyEdges wsX2_countLonelyEdges ({ frames := 2, cells := 0, slots := 0, locals := 51 }) (va_Pc [.ref (a 0)] (ro_B (dC, dI) vwCl (wS cI cL a v) (tyS cI cL cZ))) (k2_QcV (.int (nI (lonC v)))) 0 0 (fun _ => False) := by
  refine ro_Met (cc := cX2_countLonelyEdges) (maxL := 4) (ret := (some .int)) (by decide) rfl (Nat.le_of_ble_eq_true rfl) ?_
  intro pr en s m below meth co ls hx hb hml hr hlocks hown hts hP hK hl
  have hl : lv_has ls 4 [(0, .ref (a 0))] := hl
  have hown : s.vm.findClass RX2 = some m.cls := hown
  have hvp : sPn v ≤ 60 ∧ sTn v ≤ 60 ∧ sTm v ≤ 200 := ⟨hv.2.1, hv.2.2.2.1, hv.2.2.2.2.1⟩
  refine lv_iconst (v := nI (0)) hx hb dX2_countLonelyEdges_0 (by decide) ?_
  refine lv_istore_n (lv' := [(1, .int (nI (0))), (0, .ref (a 0))]) hx hb dX2_countLonelyEdges_1 rfl hl (by decide) rfl (fun ls hl => ?_)
  refine lv_iconst (v := nI (0)) hx hb dX2_countLonelyEdges_2 (by decide) ?_
  refine lv_istore_n (lv' := [(2, .int (nI (0))), (1, .int (nI (0))), (0, .ref (a 0))]) hx hb dX2_countLonelyEdges_3 rfl hl (by decide) rfl (fun ls hl => ?_)
  refine lp (σ := Nat × Nat) (LV := fun (n, sm) => [(0, .ref (a 0)), (1, .int (nI (sm))), (2, .int (nI (n)))]) (I := fun k (n, sm) => n + k = sTn v ∧ lonC v = sm + smN (fun n => cnt (fun k => decide (nbr v.1 (sTh v) (sTn v) (sTh v n) k = none)) 3 0) k n) (fun k (n, sm) ls hI_k hl ih_k => ?_) (sTn v) (0, 0) ls ⟨by omega, by simp [lonC]⟩ (lv_sub hl [2, 1, 0] rfl)
  obtain ⟨hk, hi⟩ := hI_k
  refine lv_iload_n hx hb dX2_countLonelyEdges_4 rfl (lv_at hl 2 rfl) ?_
  refine lv_aload_n hx hb dX2_countLonelyEdges_5 rfl (lv_at hl 0 rfl) ?_
  refine va_get (D := (dC, dI)) (ci := 2) (v := .ref (a 4)) (C := RX2) (T := TX2) (N := 6) hx hb hts (by decide +kernel) hown hK hP 0 rfl rfl 1 (by decide) (hts (.fieldLink RX2 19 "TriangleSheet" "triangles" "LTriangleSheet$Triangles;") (by decide +kernel)) (fun _ h9 => h9) rfl dX2_countLonelyEdges_6 ?_
  refine ro_V (As := []) (rest := [.int (nI (n))]) (q0 := 4) (ci := 1) hx hb hml hown hts (c_X1_thereCount l dC dI cI cL cZ a v  ) (cwV 0 hts gX2_countLonelyEdges_X1_thereCount rfl rfl rfl (by decide +kernel) ⟨Nat.le_of_ble_eq_true rfl, Nat.le_of_ble_eq_true rfl⟩) hK hP rfl rfl rfl hl.1 rfl (Nat.le_of_ble_eq_true rfl) dX2_countLonelyEdges_9 ⟨Nat.zero_le _, Nat.zero_le _⟩ ?_
  refine lv_icmp_ge (tgt := 57) hx hb dX2_countLonelyEdges_12 (by decide) (fun c_1 => ?_) (fun c_1 => ?_)
  · skip
    have c_1 : sTn v ≤ n := (nI_leI (a := sTn v) (b := n) (by omega) (by omega)).mp c_1
    refine lv_iload_n hx hb dX2_countLonelyEdges_57 rfl (lv_at hl 1 rfl) ?_
    exact ro_iret hx hb hr (rn (by rw [hi, show k = 0 by omega]; simp [smN])) dX2_countLonelyEdges_58 hlocks
  · skip
    have c_1 : ¬ (sTn v ≤ n) := fun hq9 => c_1 ((nI_leI (a := sTn v) (b := n) (by omega) (by omega)).mpr hq9)
    refine lv_iconst (v := nI (0)) hx hb dX2_countLonelyEdges_15 (by decide) ?_
    refine lv_istore_n (lv' := [(3, .int (nI (0))), (0, .ref (a 0)), (1, .int (nI (sm))), (2, .int (nI (n)))]) hx hb dX2_countLonelyEdges_16 rfl hl (by decide) rfl (fun ls hl => ?_)
    refine lp (σ := Nat × Nat) (LV := fun (m2, s2) => [(0, .ref (a 0)), (1, .int (nI (s2))), (2, .int (nI (n))), (3, .int (nI (m2)))]) (I := fun k2 (m2, s2) => m2 + k2 = 3 ∧ sm + cnt (fun k => decide (nbr v.1 (sTh v) (sTn v) (sTh v n) k = none)) 3 0 = s2 + cnt (fun k => decide (nbr v.1 (sTh v) (sTn v) (sTh v n) k = none)) k2 m2) (fun k2 (m2, s2) ls hI_k2 hl ih_k2 => ?_) (3) (0, sm) ls ⟨by omega, rfl⟩ (lv_sub hl [1, 2, 3, 0] rfl)
    obtain ⟨hk2, hi2⟩ := hI_k2
    refine lv_iload_n hx hb dX2_countLonelyEdges_17 rfl (lv_at hl 3 rfl) ?_
    refine lv_iconst (v := nI (3)) hx hb dX2_countLonelyEdges_18 (by decide) ?_
    refine lv_icmp_ge (tgt := 51) hx hb dX2_countLonelyEdges_19 (by decide) (fun c_2 => ?_) (fun c_2 => ?_)
    · skip
      have c_2 : 3 ≤ m2 := (nI_leI (a := 3) (b := m2) (by omega) (by omega)).mp c_2
      refine lv_iinc (v := nI (n + 1)) (lv' := [(2, .int (nI (n + 1))), (0, .ref (a 0)), (1, .int (nI (s2))), (3, .int (nI (m2)))]) hx hb dX2_countLonelyEdges_51 hl (k := 2) rfl (nI_1 (n)) (by decide) rfl (fun ls hl => ?_)
      refine lv_goto (tgt := 4) hx hb dX2_countLonelyEdges_54 (by decide) ?_
      exact ih_k (k - 1) (n + 1, s2) ls (by omega) ⟨by omega, by rw [hi, smN_s (by omega)]; have e9 : k2 = 0 := by { omega }; rw [e9, cnt_0] at hi2; omega⟩ (lv_sub hl [1, 2, 0] rfl)
    · skip
      have c_2 : ¬ (3 ≤ m2) := fun hq9 => c_2 ((nI_leI (a := 3) (b := m2) (by omega) (by omega)).mpr hq9)
      refine lv_aload_n hx hb dX2_countLonelyEdges_22 rfl (lv_at hl 0 rfl) ?_
      refine va_get (D := (dC, dI)) (ci := 2) (v := .ref (a 4)) (C := RX2) (T := TX2) (N := 6) hx hb hts (by decide +kernel) hown hK hP 0 rfl rfl 1 (by decide) (hts (.fieldLink RX2 19 "TriangleSheet" "triangles" "LTriangleSheet$Triangles;") (by decide +kernel)) (fun _ h9 => h9) rfl dX2_countLonelyEdges_23 ?_
      refine lv_aload_n hx hb dX2_countLonelyEdges_26 rfl (lv_at hl 0 rfl) ?_
      refine va_get (D := (dC, dI)) (ci := 2) (v := .ref (a 4)) (C := RX2) (T := TX2) (N := 6) hx hb hts (by decide +kernel) hown hK hP 0 rfl rfl 1 (by decide) (hts (.fieldLink RX2 19 "TriangleSheet" "triangles" "LTriangleSheet$Triangles;") (by decide +kernel)) (fun _ h9 => h9) rfl dX2_countLonelyEdges_27 ?_
      refine lv_iload_n hx hb dX2_countLonelyEdges_30 rfl (lv_at hl 2 rfl) ?_
      refine ro_V (As := [.int (nI (n))]) (rest := [.ref (a 4)]) (q0 := 4) (ci := 1) hx hb hml hown hts (c_X1_numberAt l dC dI cI cL cZ a v n (by omega)) (cwV 1 hts gX2_countLonelyEdges_X1_numberAt rfl rfl rfl (by decide +kernel) ⟨Nat.le_of_ble_eq_true rfl, Nat.le_of_ble_eq_true rfl⟩) hK hP rfl rfl rfl hl.1 rfl (Nat.le_of_ble_eq_true rfl) dX2_countLonelyEdges_31 ⟨Nat.zero_le _, Nat.zero_le _⟩ ?_
      refine lv_iload_n hx hb dX2_countLonelyEdges_34 rfl (lv_at hl 3 rfl) ?_
      refine ro_V (As := [.int (nI (sTh v n)), .int (nI (m2))]) (rest := []) (q0 := 4) (ci := 1) hx hb hml hown hts (c_X1_neighbour l dC dI cI cL cZ a v (sTh v n) m2 hv (hv.2.2.1 _) (by omega)) (cwV 2 hts gX2_countLonelyEdges_X1_neighbour rfl rfl rfl (by decide +kernel) ⟨Nat.le_of_ble_eq_true rfl, Nat.le_of_ble_eq_true rfl⟩) hK hP rfl rfl rfl hl.1 rfl (Nat.le_of_ble_eq_true rfl) dX2_countLonelyEdges_35 ⟨Nat.zero_le _, Nat.zero_le _⟩ ?_
      have ps_3 : ∀ k, nbr v.1 (sTh v) (sTn v) (sTh v n) m2 = some k → k < 2 ^ 31 := fun k h => by have := nbr_lt hv h; omega
      refine lv_iconst (v := iI (-1)) hx hb dX2_countLonelyEdges_38 (by decide) ?_
      refine lv_icmp_ne (tgt := 45) hx hb dX2_countLonelyEdges_39 (by decide) (fun c_4 => ?_) (fun c_4 => ?_)
      · skip
        have c_4 : ¬ (nbr v.1 (sTh v) (sTn v) (sTh v n) m2) = none := fun hq9 => c_4 ((oI_m1 (by assumption)).mpr hq9)
        refine lv_iinc (v := nI (m2 + 1)) (lv' := [(3, .int (nI (m2 + 1))), (0, .ref (a 0)), (1, .int (nI (s2))), (2, .int (nI (n)))]) hx hb dX2_countLonelyEdges_45 hl (k := 3) rfl (nI_1 (m2)) (by decide) rfl (fun ls hl => ?_)
        refine lv_goto (tgt := 17) hx hb dX2_countLonelyEdges_48 (by decide) ?_
        exact ih_k2 (k2 - 1) (m2 + 1, s2) ls (by omega) ⟨by omega, by rw [hi2, cnt_s (by omega)]; simp [c_1, c_2, c_4]; try omega⟩ (lv_sub hl [1, 2, 3, 0] rfl)
      · skip
        have c_4 : (nbr v.1 (sTh v) (sTn v) (sTh v n) m2) = none := (oI_m1 (by assumption)).mp c_4
        refine lv_iinc (v := nI (s2 + 1)) (lv' := [(1, .int (nI (s2 + 1))), (0, .ref (a 0)), (2, .int (nI (n))), (3, .int (nI (m2)))]) hx hb dX2_countLonelyEdges_42 hl (k := 1) rfl (nI_1 (s2)) (by decide) rfl (fun ls hl => ?_)
        refine lv_iinc (v := nI (m2 + 1)) (lv' := [(3, .int (nI (m2 + 1))), (1, .int (nI (s2 + 1))), (0, .ref (a 0)), (2, .int (nI (n)))]) hx hb dX2_countLonelyEdges_45 hl (k := 3) rfl (nI_1 (m2)) (by decide) rfl (fun ls hl => ?_)
        refine lv_goto (tgt := 17) hx hb dX2_countLonelyEdges_48 (by decide) ?_
        exact ih_k2 (k2 - 1) (m2 + 1, s2 + 1) ls (by omega) ⟨by omega, by rw [hi2, cnt_s (by omega)]; simp [c_1, c_2, c_4]; try omega⟩ (lv_sub hl [2, 1, 3, 0] rfl)
set_option maxHeartbeats 4000000 in
set_option maxRecDepth 100000 in
theorem c_X2_countBadEdges (l : Launch) (dC : Nat → ClassId) (dI : Nat → Nat → Nat) (cI cL cZ : ClassId) (a : Nat → Nat) (v : SV)  (hv : okS v) : Met l yX2_countBadEdges wsX2_countBadEdges ({ frames := 3, cells := 0, slots := 0, locals := 77 }) (va_Pc [.ref (a 0)] (ro_B (dC, dI) vwCl (wS cI cL a v) (tyS cI cL cZ))) (k2_QcV (.int (nI (badC v)))) 0 0 (fun _ => False) := by
  refine ro_Met (cc := cX2_countBadEdges) (maxL := 4) (ret := (some .int)) (by decide) rfl (Nat.le_of_ble_eq_true rfl) ?_
  intro pr en s m below meth co ls hx hb hml hr hlocks hown hts hP hK hl
  have hl : lv_has ls 4 [(0, .ref (a 0))] := hl
  have hown : s.vm.findClass RX2 = some m.cls := hown
  have hvp : sPn v ≤ 60 ∧ sTn v ≤ 60 ∧ sTm v ≤ 200 := ⟨hv.2.1, hv.2.2.2.1, hv.2.2.2.2.1⟩
  refine lv_iconst (v := nI (0)) hx hb dX2_countBadEdges_0 (by decide) ?_
  refine lv_istore_n (lv' := [(1, .int (nI (0))), (0, .ref (a 0))]) hx hb dX2_countBadEdges_1 rfl hl (by decide) rfl (fun ls hl => ?_)
  refine lv_iconst (v := nI (0)) hx hb dX2_countBadEdges_2 (by decide) ?_
  refine lv_istore_n (lv' := [(2, .int (nI (0))), (1, .int (nI (0))), (0, .ref (a 0))]) hx hb dX2_countBadEdges_3 rfl hl (by decide) rfl (fun ls hl => ?_)
  refine lp (σ := Nat × Nat) (LV := fun (n, sm) => [(0, .ref (a 0)), (1, .int (nI (sm))), (2, .int (nI (n)))]) (I := fun k (n, sm) => n + k = sTn v ∧ badC v = sm + smN (fun n => cnt (fun k => !goc v.1 (sTh v) (sTn v) (sTh v n) k) 3 0) k n) (fun k (n, sm) ls hI_k hl ih_k => ?_) (sTn v) (0, 0) ls ⟨by omega, by simp [badC]⟩ (lv_sub hl [2, 1, 0] rfl)
  obtain ⟨hk, hi⟩ := hI_k
  refine lv_iload_n hx hb dX2_countBadEdges_4 rfl (lv_at hl 2 rfl) ?_
  refine lv_aload_n hx hb dX2_countBadEdges_5 rfl (lv_at hl 0 rfl) ?_
  refine va_get (D := (dC, dI)) (ci := 2) (v := .ref (a 4)) (C := RX2) (T := TX2) (N := 6) hx hb hts (by decide +kernel) hown hK hP 0 rfl rfl 1 (by decide) (hts (.fieldLink RX2 19 "TriangleSheet" "triangles" "LTriangleSheet$Triangles;") (by decide +kernel)) (fun _ h9 => h9) rfl dX2_countBadEdges_6 ?_
  refine ro_V (As := []) (rest := [.int (nI (n))]) (q0 := 4) (ci := 1) hx hb hml hown hts (c_X1_thereCount l dC dI cI cL cZ a v  ) (cwV 0 hts gX2_countBadEdges_X1_thereCount rfl rfl rfl (by decide +kernel) ⟨Nat.le_of_ble_eq_true rfl, Nat.le_of_ble_eq_true rfl⟩) hK hP rfl rfl rfl hl.1 rfl (Nat.le_of_ble_eq_true rfl) dX2_countBadEdges_9 ⟨Nat.zero_le _, Nat.zero_le _⟩ ?_
  refine lv_icmp_ge (tgt := 53) hx hb dX2_countBadEdges_12 (by decide) (fun c_1 => ?_) (fun c_1 => ?_)
  · skip
    have c_1 : sTn v ≤ n := (nI_leI (a := sTn v) (b := n) (by omega) (by omega)).mp c_1
    refine lv_iload_n hx hb dX2_countBadEdges_53 rfl (lv_at hl 1 rfl) ?_
    exact ro_iret hx hb hr (rn (by rw [hi, show k = 0 by omega]; simp [smN])) dX2_countBadEdges_54 hlocks
  · skip
    have c_1 : ¬ (sTn v ≤ n) := fun hq9 => c_1 ((nI_leI (a := sTn v) (b := n) (by omega) (by omega)).mpr hq9)
    refine lv_iconst (v := nI (0)) hx hb dX2_countBadEdges_15 (by decide) ?_
    refine lv_istore_n (lv' := [(3, .int (nI (0))), (0, .ref (a 0)), (1, .int (nI (sm))), (2, .int (nI (n)))]) hx hb dX2_countBadEdges_16 rfl hl (by decide) rfl (fun ls hl => ?_)
    refine lp (σ := Nat × Nat) (LV := fun (m2, s2) => [(0, .ref (a 0)), (1, .int (nI (s2))), (2, .int (nI (n))), (3, .int (nI (m2)))]) (I := fun k2 (m2, s2) => m2 + k2 = 3 ∧ sm + cnt (fun k => !goc v.1 (sTh v) (sTn v) (sTh v n) k) 3 0 = s2 + cnt (fun k => !goc v.1 (sTh v) (sTn v) (sTh v n) k) k2 m2) (fun k2 (m2, s2) ls hI_k2 hl ih_k2 => ?_) (3) (0, sm) ls ⟨by omega, rfl⟩ (lv_sub hl [1, 2, 3, 0] rfl)
    obtain ⟨hk2, hi2⟩ := hI_k2
    refine lv_iload_n hx hb dX2_countBadEdges_17 rfl (lv_at hl 3 rfl) ?_
    refine lv_iconst (v := nI (3)) hx hb dX2_countBadEdges_18 (by decide) ?_
    refine lv_icmp_ge (tgt := 47) hx hb dX2_countBadEdges_19 (by decide) (fun c_2 => ?_) (fun c_2 => ?_)
    · skip
      have c_2 : 3 ≤ m2 := (nI_leI (a := 3) (b := m2) (by omega) (by omega)).mp c_2
      refine lv_iinc (v := nI (n + 1)) (lv' := [(2, .int (nI (n + 1))), (0, .ref (a 0)), (1, .int (nI (s2))), (3, .int (nI (m2)))]) hx hb dX2_countBadEdges_47 hl (k := 2) rfl (nI_1 (n)) (by decide) rfl (fun ls hl => ?_)
      refine lv_goto (tgt := 4) hx hb dX2_countBadEdges_50 (by decide) ?_
      exact ih_k (k - 1) (n + 1, s2) ls (by omega) ⟨by omega, by rw [hi, smN_s (by omega)]; have e9 : k2 = 0 := by { omega }; rw [e9, cnt_0] at hi2; omega⟩ (lv_sub hl [1, 2, 0] rfl)
    · skip
      have c_2 : ¬ (3 ≤ m2) := fun hq9 => c_2 ((nI_leI (a := 3) (b := m2) (by omega) (by omega)).mpr hq9)
      refine lv_aload_n hx hb dX2_countBadEdges_22 rfl (lv_at hl 0 rfl) ?_
      refine lv_aload_n hx hb dX2_countBadEdges_23 rfl (lv_at hl 0 rfl) ?_
      refine va_get (D := (dC, dI)) (ci := 2) (v := .ref (a 4)) (C := RX2) (T := TX2) (N := 6) hx hb hts (by decide +kernel) hown hK hP 0 rfl rfl 1 (by decide) (hts (.fieldLink RX2 19 "TriangleSheet" "triangles" "LTriangleSheet$Triangles;") (by decide +kernel)) (fun _ h9 => h9) rfl dX2_countBadEdges_24 ?_
      refine lv_iload_n hx hb dX2_countBadEdges_27 rfl (lv_at hl 2 rfl) ?_
      refine ro_V (As := [.int (nI (n))]) (rest := [.ref (a 0)]) (q0 := 4) (ci := 1) hx hb hml hown hts (c_X1_numberAt l dC dI cI cL cZ a v n (by omega)) (cwV 1 hts gX2_countBadEdges_X1_numberAt rfl rfl rfl (by decide +kernel) ⟨Nat.le_of_ble_eq_true rfl, Nat.le_of_ble_eq_true rfl⟩) hK hP rfl rfl rfl hl.1 rfl (Nat.le_of_ble_eq_true rfl) dX2_countBadEdges_28 ⟨Nat.zero_le _, Nat.zero_le _⟩ ?_
      refine lv_iload_n hx hb dX2_countBadEdges_31 rfl (lv_at hl 3 rfl) ?_
      refine ro_V (As := [.int (nI (sTh v n)), .int (nI (m2))]) (rest := []) (q0 := 0) (ci := 2) hx hb hml hown hts (c_X2_isGoodEdge l dC dI cI cL cZ a v (sTh v n) m2 hv (hv.2.2.1 _) (by omega)) (cwV 2 hts gX2_countBadEdges_X2_isGoodEdge rfl rfl rfl (by decide +kernel) ⟨Nat.le_of_ble_eq_true rfl, Nat.le_of_ble_eq_true rfl⟩) hK hP rfl rfl rfl hl.1 rfl (Nat.le_of_ble_eq_true rfl) dX2_countBadEdges_32 ⟨Nat.zero_le _, Nat.zero_le _⟩ ?_
      refine lv_if_ne (tgt := 41) hx hb dX2_countBadEdges_35 (by decide) (fun c_3 => ?_) (fun c_3 => ?_)
      · skip
        have c_3 : (goc v.1 (sTh v) (sTn v) (sTh v n) m2) = true := bI_t c_3
        refine lv_iinc (v := nI (m2 + 1)) (lv' := [(3, .int (nI (m2 + 1))), (0, .ref (a 0)), (1, .int (nI (s2))), (2, .int (nI (n)))]) hx hb dX2_countBadEdges_41 hl (k := 3) rfl (nI_1 (m2)) (by decide) rfl (fun ls hl => ?_)
        refine lv_goto (tgt := 17) hx hb dX2_countBadEdges_44 (by decide) ?_
        exact ih_k2 (k2 - 1) (m2 + 1, s2) ls (by omega) ⟨by omega, by rw [hi2, cnt_s (by omega)]; simp [c_1, c_2, c_3]; try omega⟩ (lv_sub hl [1, 2, 3, 0] rfl)
      · skip
        have c_3 : (goc v.1 (sTh v) (sTn v) (sTh v n) m2) = false := bI_f c_3
        refine lv_iinc (v := nI (s2 + 1)) (lv' := [(1, .int (nI (s2 + 1))), (0, .ref (a 0)), (2, .int (nI (n))), (3, .int (nI (m2)))]) hx hb dX2_countBadEdges_38 hl (k := 1) rfl (nI_1 (s2)) (by decide) rfl (fun ls hl => ?_)
        refine lv_iinc (v := nI (m2 + 1)) (lv' := [(3, .int (nI (m2 + 1))), (1, .int (nI (s2 + 1))), (0, .ref (a 0)), (2, .int (nI (n)))]) hx hb dX2_countBadEdges_41 hl (k := 3) rfl (nI_1 (m2)) (by decide) rfl (fun ls hl => ?_)
        refine lv_goto (tgt := 17) hx hb dX2_countBadEdges_44 (by decide) ?_
        exact ih_k2 (k2 - 1) (m2 + 1, s2 + 1) ls (by omega) ⟨by omega, by rw [hi2, cnt_s (by omega)]; simp [c_1, c_2, c_3]; try omega⟩ (lv_sub hl [2, 1, 3, 0] rfl)
set_option maxHeartbeats 4000000 in
set_option maxRecDepth 100000 in
theorem c_X2_sumOfTurns (l : Launch) (dC : Nat → ClassId) (dI : Nat → Nat → Nat) (cI cL cZ : ClassId) (a : Nat → Nat) (v : SV)  (hv : okS v) : Met l yX2_sumOfTurns wsX2_sumOfTurns ({ frames := 3, cells := 0, slots := 0, locals := 68 }) (va_Pc [.ref (a 0)] (ro_B (dC, dI) vwCl (wS cI cL a v) (tyS cI cL cZ))) (k2_QcV (.long (lI (sotC v)))) 0 0 (fun _ => False) := by
  refine ro_Met (cc := cX2_sumOfTurns) (maxL := 4) (ret := (some .long)) (by decide) rfl (Nat.le_of_ble_eq_true rfl) ?_
  intro pr en s m below meth co ls hx hb hml hr hlocks hown hts hP hK hl
  have hl : lv_has ls 4 [(0, .ref (a 0))] := hl
  have hown : s.vm.findClass RX2 = some m.cls := hown
  have hvp : sPn v ≤ 60 ∧ sTn v ≤ 60 ∧ sTm v ≤ 200 := ⟨hv.2.1, hv.2.2.2.1, hv.2.2.2.2.1⟩
  refine lv_lconst (v := lI 0) hx hb dX2_sumOfTurns_0 (by decide) ?_
  refine lv_lstore_n (lv' := [(1, .long (lI (0))), (0, .ref (a 0))]) hx hb dX2_sumOfTurns_1 rfl hl (by decide) rfl (fun ls hl => ?_)
  refine lv_iconst (v := nI (0)) hx hb dX2_sumOfTurns_2 (by decide) ?_
  refine lv_istore_n (lv' := [(3, .int (nI (0))), (1, .long (lI (0))), (0, .ref (a 0))]) hx hb dX2_sumOfTurns_3 rfl hl (by decide) rfl (fun ls hl => ?_)
  refine lp (σ := Nat × Int) (LV := fun (n, sm) => [(0, .ref (a 0)), (1, .long (lI (sm))), (3, .int (nI (n)))]) (I := fun k (n, sm) => n + k = sTn v ∧ sotC v = sm + smZ (fun i => max (((0 : Nat)) : Int) (twi v.1 (sTh v i))) k n) (fun k (n, sm) ls hI_k hl ih_k => ?_) (sTn v) (0, 0) ls ⟨by omega, by simp [sotC]⟩ (lv_sub hl [2, 1, 0] rfl)
  obtain ⟨hk, hi⟩ := hI_k
  refine lv_iload_n hx hb dX2_sumOfTurns_4 rfl (lv_at hl 2 rfl) ?_
  refine lv_aload_n hx hb dX2_sumOfTurns_5 rfl (lv_at hl 0 rfl) ?_
  refine va_get (D := (dC, dI)) (ci := 2) (v := .ref (a 4)) (C := RX2) (T := TX2) (N := 6) hx hb hts (by decide +kernel) hown hK hP 0 rfl rfl 1 (by decide) (hts (.fieldLink RX2 19 "TriangleSheet" "triangles" "LTriangleSheet$Triangles;") (by decide +kernel)) (fun _ h9 => h9) rfl dX2_sumOfTurns_6 ?_
  refine ro_V (As := []) (rest := [.int (nI (n))]) (q0 := 4) (ci := 1) hx hb hml hown hts (c_X1_thereCount l dC dI cI cL cZ a v  ) (cwV 0 hts gX2_sumOfTurns_X1_thereCount rfl rfl rfl (by decide +kernel) ⟨Nat.le_of_ble_eq_true rfl, Nat.le_of_ble_eq_true rfl⟩) hK hP rfl rfl rfl hl.1 rfl (Nat.le_of_ble_eq_true rfl) dX2_sumOfTurns_9 ⟨Nat.zero_le _, Nat.zero_le _⟩ ?_
  refine lv_icmp_ge (tgt := 41) hx hb dX2_sumOfTurns_12 (by decide) (fun c_1 => ?_) (fun c_1 => ?_)
  · skip
    have c_1 : sTn v ≤ n := (nI_leI (a := sTn v) (b := n) (by omega) (by omega)).mp c_1
    refine lv_lload_n hx hb dX2_sumOfTurns_41 rfl (lv_at hl 1 rfl) ?_
    exact ro_lret hx hb hr (congrArg (fun q => Value.long (lI q)) (by rw [hi, show k = 0 by omega]; simp [smZ])) dX2_sumOfTurns_42 hlocks
  · skip
    have c_1 : ¬ (sTn v ≤ n) := fun hq9 => c_1 ((nI_leI (a := sTn v) (b := n) (by omega) (by omega)).mpr hq9)
    refine lv_lload_n hx hb dX2_sumOfTurns_15 rfl (lv_at hl 1 rfl) ?_
    refine lv_iconst (v := nI (0)) hx hb dX2_sumOfTurns_16 (by decide) ?_
    refine lv_aload_n hx hb dX2_sumOfTurns_17 rfl (lv_at hl 0 rfl) ?_
    refine lv_aload_n hx hb dX2_sumOfTurns_18 rfl (lv_at hl 0 rfl) ?_
    refine va_get (D := (dC, dI)) (ci := 2) (v := .ref (a 4)) (C := RX2) (T := TX2) (N := 6) hx hb hts (by decide +kernel) hown hK hP 0 rfl rfl 1 (by decide) (hts (.fieldLink RX2 19 "TriangleSheet" "triangles" "LTriangleSheet$Triangles;") (by decide +kernel)) (fun _ h9 => h9) rfl dX2_sumOfTurns_19 ?_
    refine lv_iload_n hx hb dX2_sumOfTurns_22 rfl (lv_at hl 2 rfl) ?_
    refine ro_V (As := [.int (nI (n))]) (rest := [.ref (a 0), .int (nI (0)), .long (lI (sm))]) (q0 := 4) (ci := 1) hx hb hml hown hts (c_X1_numberAt l dC dI cI cL cZ a v n (by omega)) (cwV 1 hts gX2_sumOfTurns_X1_numberAt rfl rfl rfl (by decide +kernel) ⟨Nat.le_of_ble_eq_true rfl, Nat.le_of_ble_eq_true rfl⟩) hK hP rfl rfl rfl hl.1 rfl (Nat.le_of_ble_eq_true rfl) dX2_sumOfTurns_23 ⟨Nat.zero_le _, Nat.zero_le _⟩ ?_
    refine ro_V (As := [.int (nI (sTh v n))]) (rest := [.int (nI (0)), .long (lI (sm))]) (q0 := 0) (ci := 2) hx hb hml hown hts (c_X2_turnOf l dC dI cI cL cZ a v (sTh v n) hv (hv.2.2.1 _)) (cwV 1 hts gX2_sumOfTurns_X2_turnOf rfl rfl rfl (by decide +kernel) ⟨Nat.le_of_ble_eq_true rfl, Nat.le_of_ble_eq_true rfl⟩) hK hP rfl rfl rfl hl.1 rfl (Nat.le_of_ble_eq_true rfl) dX2_sumOfTurns_26 ⟨Nat.zero_le _, Nat.zero_le _⟩ ?_
    have ps_2 : zOk (twi v.1 (sTh v n)) := tof_ok hv.1
    refine va_mmax hx hb (hml.trans hl.1.symm) hown (hts (.methodLink RX2 239 Lib.Math.max.name) (by decide +kernel)) (hts (.static Lib.Math.max.name) (by decide +kernel)) (hts (.initialized "java/lang/Math") (by decide +kernel)) (hts (.code Lib.Math.max.name Lib.Math.max.code 2 (some .int)) (by decide +kernel)) (Nat.le_of_ble_eq_true rfl) (Nat.le_of_ble_eq_true rfl) (Nat.zero_le _) (Nat.zero_le _) dX2_sumOfTurns_29 ?_
    refine rt_i (y := (iI (max (((0 : Nat) : Int)) (twi v.1 (sTh v n))))) (mmax_0z (by assumption)) ?_
    refine lv_i2l (v := lI (max (((0 : Nat) : Int)) (twi v.1 (sTh v n)))) hx hb dX2_sumOfTurns_32 (zI_l (max0_ok (by assumption))) ?_
    refine lv_ladd hx hb dX2_sumOfTurns_33 ?_
    refine rt_l (y := (lI ((sm) + (max (((0 : Nat) : Int)) (twi v.1 (sTh v n)))))) (lI_add (sm) (max (((0 : Nat) : Int)) (twi v.1 (sTh v n)))) ?_
    refine lv_lstore_n (lv' := [(1, .long (lI ((sm) + (max (((0 : Nat) : Int)) (twi v.1 (sTh v n)))))), (0, .ref (a 0)), (3, .int (nI (n)))]) hx hb dX2_sumOfTurns_34 rfl hl (by decide) rfl (fun ls hl => ?_)
    refine lv_iinc (v := nI (n + 1)) (lv' := [(3, .int (nI (n + 1))), (1, .long (lI ((sm) + (max (((0 : Nat) : Int)) (twi v.1 (sTh v n)))))), (0, .ref (a 0))]) hx hb dX2_sumOfTurns_35 hl (k := 2) rfl (nI_1 (n)) (by decide) rfl (fun ls hl => ?_)
    refine lv_goto (tgt := 4) hx hb dX2_sumOfTurns_38 (by decide) ?_
    exact ih_k (k - 1) (n + 1, (sm) + (max (((0 : Nat) : Int)) (twi v.1 (sTh v n)))) ls (by omega) ⟨by omega, by rw [hi, smZ_s (by omega)]; omega⟩ (lv_sub hl [2, 1, 0] rfl)
