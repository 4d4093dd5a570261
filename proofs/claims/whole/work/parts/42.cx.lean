theorem atX2_point_46 : ∀ w ∈ (vx_atS RX2 46 "java/lang/IllegalArgumentException" xt_nm).filter goodWord, w ∈ wsX2_point := by
  intro w hw
  simp only [wsX2_point, List.mem_cons, List.mem_append]
  first | exact Or.inr (Or.inr hw) | exact Or.inr (Or.inl (Or.inr hw)) | exact Or.inr (Or.inl (Or.inl (Or.inr hw)))
theorem atX2_point_56 : ∀ w ∈ (vx_atS RX2 56 "java/lang/IllegalStateException" xt_nm).filter goodWord, w ∈ wsX2_point := by
  intro w hw
  simp only [wsX2_point, List.mem_cons, List.mem_append]
  first | exact Or.inr (Or.inr hw) | exact Or.inr (Or.inl (Or.inr hw)) | exact Or.inr (Or.inl (Or.inl (Or.inr hw)))
theorem atX2_move_69 : ∀ w ∈ (vx_atS RX2 69 "java/lang/IndexOutOfBoundsException" xt_nm).filter goodWord, w ∈ wsX2_move := by
  intro w hw
  simp only [wsX2_move, List.mem_cons, List.mem_append]
  first | exact Or.inr (Or.inr hw) | exact Or.inr (Or.inl (Or.inr hw)) | exact Or.inr (Or.inl (Or.inl (Or.inr hw)))
theorem atX2_move_46 : ∀ w ∈ (vx_atS RX2 46 "java/lang/IllegalArgumentException" xt_nm).filter goodWord, w ∈ wsX2_move := by
  intro w hw
  simp only [wsX2_move, List.mem_cons, List.mem_append]
  first | exact Or.inr (Or.inr hw) | exact Or.inr (Or.inl (Or.inr hw)) | exact Or.inr (Or.inl (Or.inl (Or.inr hw)))
theorem atX2_move_56 : ∀ w ∈ (vx_atS RX2 56 "java/lang/IllegalStateException" xt_nm).filter goodWord, w ∈ wsX2_move := by
  intro w hw
  simp only [wsX2_move, List.mem_cons, List.mem_append]
  first | exact Or.inr (Or.inr hw) | exact Or.inr (Or.inl (Or.inr hw)) | exact Or.inr (Or.inl (Or.inl (Or.inr hw)))
theorem atX2_triangle_69 : ∀ w ∈ (vx_atS RX2 69 "java/lang/IndexOutOfBoundsException" xt_nm).filter goodWord, w ∈ wsX2_triangle := by
  intro w hw
  simp only [wsX2_triangle, List.mem_cons, List.mem_append]
  first | exact Or.inr (Or.inr hw) | exact Or.inr (Or.inl (Or.inr hw)) | exact Or.inr (Or.inl (Or.inl (Or.inr hw)))
theorem atX2_triangle_46 : ∀ w ∈ (vx_atS RX2 46 "java/lang/IllegalArgumentException" xt_nm).filter goodWord, w ∈ wsX2_triangle := by
  intro w hw
  simp only [wsX2_triangle, List.mem_cons, List.mem_append]
  first | exact Or.inr (Or.inr hw) | exact Or.inr (Or.inl (Or.inr hw)) | exact Or.inr (Or.inl (Or.inl (Or.inr hw)))
theorem atX2_triangle_56 : ∀ w ∈ (vx_atS RX2 56 "java/lang/IllegalStateException" xt_nm).filter goodWord, w ∈ wsX2_triangle := by
  intro w hw
  simp only [wsX2_triangle, List.mem_cons, List.mem_append]
  first | exact Or.inr (Or.inr hw) | exact Or.inr (Or.inl (Or.inr hw)) | exact Or.inr (Or.inl (Or.inl (Or.inr hw)))
theorem atX2_take_69 : ∀ w ∈ (vx_atS RX2 69 "java/lang/IndexOutOfBoundsException" xt_nm).filter goodWord, w ∈ wsX2_take := by
  intro w hw
  simp only [wsX2_take, List.mem_cons, List.mem_append]
  first | exact Or.inr (Or.inr hw) | exact Or.inr (Or.inl (Or.inr hw)) | exact Or.inr (Or.inl (Or.inl (Or.inr hw)))
theorem atX2_part_69 : ∀ w ∈ (vx_atS RX2 69 "java/lang/IndexOutOfBoundsException" xt_nm).filter goodWord, w ∈ wsX2_part := by
  intro w hw
  simp only [wsX2_part, List.mem_cons, List.mem_append]
  first | exact Or.inr (Or.inr hw) | exact Or.inr (Or.inl (Or.inr hw)) | exact Or.inr (Or.inl (Or.inl (Or.inr hw)))
theorem atX2_part_46 : ∀ w ∈ (vx_atS RX2 46 "java/lang/IllegalArgumentException" xt_nm).filter goodWord, w ∈ wsX2_part := by
  intro w hw
  simp only [wsX2_part, List.mem_cons, List.mem_append]
  first | exact Or.inr (Or.inr hw) | exact Or.inr (Or.inl (Or.inr hw)) | exact Or.inr (Or.inl (Or.inl (Or.inr hw)))
theorem atX2_part_56 : ∀ w ∈ (vx_atS RX2 56 "java/lang/IllegalStateException" xt_nm).filter goodWord, w ∈ wsX2_part := by
  intro w hw
  simp only [wsX2_part, List.mem_cons, List.mem_append]
  first | exact Or.inr (Or.inr hw) | exact Or.inr (Or.inl (Or.inr hw)) | exact Or.inr (Or.inl (Or.inl (Or.inr hw)))
theorem atX2_turn_69 : ∀ w ∈ (vx_atS RX2 69 "java/lang/IndexOutOfBoundsException" xt_nm).filter goodWord, w ∈ wsX2_turn := by
  intro w hw
  simp only [wsX2_turn, List.mem_cons, List.mem_append]
  first | exact Or.inr (Or.inr hw) | exact Or.inr (Or.inl (Or.inr hw)) | exact Or.inr (Or.inl (Or.inl (Or.inr hw)))
theorem atX2_improve_46 : ∀ w ∈ (vx_atS RX2 46 "java/lang/IllegalArgumentException" xt_nm).filter goodWord, w ∈ wsX2_improve := by
  intro w hw
  simp only [wsX2_improve, List.mem_cons, List.mem_append]
  first | exact Or.inr (Or.inr hw) | exact Or.inr (Or.inl (Or.inr hw)) | exact Or.inr (Or.inl (Or.inl (Or.inr hw)))
set_option maxHeartbeats 4000000 in
set_option maxRecDepth 100000 in
theorem c_X2_point_x1 (l : Launch) (hst : l.stackTraces = false) (dC : Nat → ClassId) (dI : Nat → Nat → Nat) (cI cL cZ : ClassId) (a : Nat → Nat) (v : SV) (x y : Int32) (hv : okS v) (hc : (inB x 512 && inB y 512) = false) : vx_Met l yX2_point wsX2_point ({ frames := 6, cells := 1, slots := 6, locals := 82 }) (va_Pc [.ref (a 0), .int (x), .int (y)] (xt_B (dC, dI) vwCl (wS cI cL a v) (tyS cI cL cZ))) xt_N (xt_X "java/lang/IllegalArgumentException") 1 6 (fun _ => False) := by
  refine xt_Met (cc := cX2_point) (maxL := 3) (ret := (some .int)) (by decide) rfl (Nat.le_of_ble_eq_true rfl) ?_
  intro pr en s m below meth co ls hx hb hml hr hlocks hown hts hP hK hl hex hE
  have hl : lv_has ls 3 [(0, .ref (a 0)), (1, .int (x)), (2, .int (y))] := hl
  have hown : s.vm.findClass RX2 = some m.cls := hown
  have hvp : sPn v ≤ 60 ∧ sTn v ≤ 60 ∧ sTm v ≤ 200 := ⟨hv.2.1, hv.2.2.2.1, hv.2.2.2.2.1⟩
  refine lv_iload_n hx hb dX2_point_0 rfl (lv_at hl 1 rfl) ?_
  refine lv_iload_n hx hb dX2_point_1 rfl (lv_at hl 2 rfl) ?_
  refine ro_S (As := [.int (x), .int (y)]) (rest := []) hx hb hml hown hts (c_X2_isPlace l dC dI  x y ) (va_cwS 2 hts gX2_point_X2_isPlace rfl rfl rfl (by decide +kernel) ⟨Nat.le_of_ble_eq_true rfl, Nat.le_of_ble_eq_true rfl⟩) (hK.sub [] rfl) (hP.sub [] rfl) rfl hl.1 rfl (Nat.le_of_ble_eq_true rfl) dX2_point_2 ⟨Nat.zero_le _, Nat.zero_le _⟩ ?_
  refine lv_if_ne (tgt := 18) hx hb dX2_point_5 (by decide) (fun c_1 => ?_) (fun c_1 => ?_)
  · skip
    have c_1 : (inB x 512 && inB y 512) = true := bI_t c_1
    exact absurd c_1 (by rw [hc]; decide)
  · skip
    have c_1 : (inB x 512 && inB y 512) = false := bI_f c_1
    exact xt_throw (ik := 42) (is := 44) (text := "no such place") hx hb (hml.trans hl.1.symm) hst hown hts (Or.inl ⟨rfl, rfl⟩) (by decide +kernel) (by decide +kernel) atX2_point_46 hE (by decide +kernel) hex dX2_point_8 dX2_point_11 dX2_point_12 dX2_point_14 dX2_point_17 (Nat.le_of_ble_eq_true rfl) (Nat.le_of_ble_eq_true rfl) (Nat.le_of_ble_eq_true rfl) (Nat.le_of_ble_eq_true rfl) hlocks
set_option maxHeartbeats 4000000 in
set_option maxRecDepth 100000 in
theorem c_X2_point_x2 (l : Launch) (hst : l.stackTraces = false) (dC : Nat → ClassId) (dI : Nat → Nat → Nat) (cI cL cZ : ClassId) (a : Nat → Nat) (v : SV) (x y : Int32) (hv : okS v) (hp : (inB x 512 && inB y 512) = true) (hc : (decide (sPn v < 60) && decide (pAt v.1 (sPn v) x y = none)) = false) : vx_Met l yX2_point wsX2_point ({ frames := 6, cells := 1, slots := 6, locals := 82 }) (va_Pc [.ref (a 0), .int (x), .int (y)] (xt_B (dC, dI) vwCl (wS cI cL a v) (tyS cI cL cZ))) xt_N (xt_X "java/lang/IllegalStateException") 1 6 (fun _ => False) := by
  refine xt_Met (cc := cX2_point) (maxL := 3) (ret := (some .int)) (by decide) rfl (Nat.le_of_ble_eq_true rfl) ?_
  intro pr en s m below meth co ls hx hb hml hr hlocks hown hts hP hK hl hex hE
  have hl : lv_has ls 3 [(0, .ref (a 0)), (1, .int (x)), (2, .int (y))] := hl
  have hown : s.vm.findClass RX2 = some m.cls := hown
  have hvp : sPn v ≤ 60 ∧ sTn v ≤ 60 ∧ sTm v ≤ 200 := ⟨hv.2.1, hv.2.2.2.1, hv.2.2.2.2.1⟩
  refine lv_iload_n hx hb dX2_point_0 rfl (lv_at hl 1 rfl) ?_
  refine lv_iload_n hx hb dX2_point_1 rfl (lv_at hl 2 rfl) ?_
  refine ro_S (As := [.int (x), .int (y)]) (rest := []) hx hb hml hown hts (c_X2_isPlace l dC dI  x y ) (va_cwS 2 hts gX2_point_X2_isPlace rfl rfl rfl (by decide +kernel) ⟨Nat.le_of_ble_eq_true rfl, Nat.le_of_ble_eq_true rfl⟩) (hK.sub [] rfl) (hP.sub [] rfl) rfl hl.1 rfl (Nat.le_of_ble_eq_true rfl) dX2_point_2 ⟨Nat.zero_le _, Nat.zero_le _⟩ ?_
  refine lv_if_ne (tgt := 18) hx hb dX2_point_5 (by decide) (fun c_1 => ?_) (fun c_1 => ?_)
  · skip
    have c_1 : (inB x 512 && inB y 512) = true := bI_t c_1
    refine lv_aload_n hx hb dX2_point_18 rfl (lv_at hl 0 rfl) ?_
    refine va_get (D := (dC, dI)) (ci := 2) (v := .ref (a 1)) (C := RX2) (T := TX2) (N := 6) hx hb hts (by decide +kernel) hown hK hP 0 rfl rfl 0 (by decide) (hts (.fieldLink RX2 10 "TriangleSheet" "points" "LTriangleSheet$Points;") (by decide +kernel)) (fun _ h9 => h9) rfl dX2_point_19 ?_
    refine lv_iload_n hx hb dX2_point_22 rfl (lv_at hl 1 rfl) ?_
    refine lv_iload_n hx hb dX2_point_23 rfl (lv_at hl 2 rfl) ?_
    refine ro_V (As := [.int (x), .int (y)]) (rest := []) (q0 := 1) (ci := 0) hx hb hml hown hts (c_X0_canAdd l dC dI cI cL cZ a v x y hv) (cwV 2 hts gX2_point_X0_canAdd rfl rfl rfl (by decide +kernel) ⟨Nat.le_of_ble_eq_true rfl, Nat.le_of_ble_eq_true rfl⟩) hK hP rfl rfl rfl hl.1 rfl (Nat.le_of_ble_eq_true rfl) dX2_point_24 ⟨Nat.zero_le _, Nat.zero_le _⟩ ?_
    refine lv_if_ne (tgt := 40) hx hb dX2_point_27 (by decide) (fun c_2 => ?_) (fun c_2 => ?_)
    · skip
      have c_2 : (decide (sPn v < 60) && decide (pAt v.1 (sPn v) x y = none)) = true := bI_t c_2
      exact absurd c_2 (by rw [hc]; decide)
    · skip
      have c_2 : (decide (sPn v < 60) && decide (pAt v.1 (sPn v) x y = none)) = false := bI_f c_2
      exact xt_throw (ik := 52) (is := 54) (text := "a point is there, or all have come") hx hb (hml.trans hl.1.symm) hst hown hts (Or.inr (Or.inl ⟨rfl, rfl⟩)) (by decide +kernel) (by decide +kernel) atX2_point_56 hE (by decide +kernel) hex dX2_point_30 dX2_point_33 dX2_point_34 dX2_point_36 dX2_point_39 (Nat.le_of_ble_eq_true rfl) (Nat.le_of_ble_eq_true rfl) (Nat.le_of_ble_eq_true rfl) (Nat.le_of_ble_eq_true rfl) hlocks
  · skip
    have c_1 : (inB x 512 && inB y 512) = false := bI_f c_1
    exact absurd c_1 (by rw [hp]; decide)
set_option maxHeartbeats 4000000 in
set_option maxRecDepth 100000 in
theorem c_X2_move_x1 (l : Launch) (hst : l.stackTraces = false) (dC : Nat → ClassId) (dI : Nat → Nat → Nat) (cI cL cZ : ClassId) (a : Nat → Nat) (v : SV) (q x y : Int32) (hv : okS v) (hc : inB q (sPn v) = false) : vx_Met l yX2_move wsX2_move ({ frames := 6, cells := 1, slots := 6, locals := 82 }) (va_Pc [.ref (a 0), .int (q), .int (x), .int (y)] (xt_B (dC, dI) vwCl (wS cI cL a v) (tyS cI cL cZ))) xt_N (xt_X "java/lang/IndexOutOfBoundsException") 1 6 (fun _ => False) := by
  refine xt_Met (cc := cX2_move) (maxL := 5) (ret := none) (by decide) rfl (Nat.le_of_ble_eq_true rfl) ?_
  intro pr en s m below meth co ls hx hb hml hr hlocks hown hts hP hK hl hex hE
  have hl : lv_has ls 5 [(0, .ref (a 0)), (1, .int (q)), (2, .int (x)), (3, .int (y))] := hl
  have hown : s.vm.findClass RX2 = some m.cls := hown
  have hvp : sPn v ≤ 60 ∧ sTn v ≤ 60 ∧ sTm v ≤ 200 := ⟨hv.2.1, hv.2.2.2.1, hv.2.2.2.2.1⟩
  refine lv_aload_n hx hb dX2_move_0 rfl (lv_at hl 0 rfl) ?_
  refine va_get (D := (dC, dI)) (ci := 2) (v := .ref (a 1)) (C := RX2) (T := TX2) (N := 6) hx hb hts (by decide +kernel) hown hK hP 0 rfl rfl 0 (by decide) (hts (.fieldLink RX2 10 "TriangleSheet" "points" "LTriangleSheet$Points;") (by decide +kernel)) (fun _ h9 => h9) rfl dX2_move_1 ?_
  refine lv_iload_n hx hb dX2_move_4 rfl (lv_at hl 1 rfl) ?_
  refine ro_V (As := [.int (q)]) (rest := []) (q0 := 1) (ci := 0) hx hb hml hown hts (c_X0_isPoint l dC dI cI cL cZ a v q hv) (cwV 1 hts gX2_move_X0_isPoint rfl rfl rfl (by decide +kernel) ⟨Nat.le_of_ble_eq_true rfl, Nat.le_of_ble_eq_true rfl⟩) hK hP rfl rfl rfl hl.1 rfl (Nat.le_of_ble_eq_true rfl) dX2_move_5 ⟨Nat.zero_le _, Nat.zero_le _⟩ ?_
  refine lv_if_ne (tgt := 21) hx hb dX2_move_8 (by decide) (fun c_1 => ?_) (fun c_1 => ?_)
  · skip
    have c_1 : (inB q (sPn v)) = true := bI_t c_1
    exact absurd c_1 (by rw [hc]; decide)
  · skip
    have c_1 : (inB q (sPn v)) = false := bI_f c_1
    exact xt_throw (ik := 65) (is := 67) (text := "no such point") hx hb (hml.trans hl.1.symm) hst hown hts (Or.inr (Or.inr ⟨rfl, rfl⟩)) (by decide +kernel) (by decide +kernel) atX2_move_69 hE (by decide +kernel) hex dX2_move_11 dX2_move_14 dX2_move_15 dX2_move_17 dX2_move_20 (Nat.le_of_ble_eq_true rfl) (Nat.le_of_ble_eq_true rfl) (Nat.le_of_ble_eq_true rfl) (Nat.le_of_ble_eq_true rfl) hlocks
set_option maxHeartbeats 4000000 in
set_option maxRecDepth 100000 in
theorem c_X2_move_x2 (l : Launch) (hst : l.stackTraces = false) (dC : Nat → ClassId) (dI : Nat → Nat → Nat) (cI cL cZ : ClassId) (a : Nat → Nat) (v : SV) (q x y : Int32) (hv : okS v) (hq : inB q (sPn v) = true) (hc : (inB x 512 && inB y 512) = false) : vx_Met l yX2_move wsX2_move ({ frames := 6, cells := 1, slots := 6, locals := 82 }) (va_Pc [.ref (a 0), .int (q), .int (x), .int (y)] (xt_B (dC, dI) vwCl (wS cI cL a v) (tyS cI cL cZ))) xt_N (xt_X "java/lang/IllegalArgumentException") 1 6 (fun _ => False) := by
  refine xt_Met (cc := cX2_move) (maxL := 5) (ret := none) (by decide) rfl (Nat.le_of_ble_eq_true rfl) ?_
  intro pr en s m below meth co ls hx hb hml hr hlocks hown hts hP hK hl hex hE
  have hl : lv_has ls 5 [(0, .ref (a 0)), (1, .int (q)), (2, .int (x)), (3, .int (y))] := hl
  have hown : s.vm.findClass RX2 = some m.cls := hown
  have hvp : sPn v ≤ 60 ∧ sTn v ≤ 60 ∧ sTm v ≤ 200 := ⟨hv.2.1, hv.2.2.2.1, hv.2.2.2.2.1⟩
  refine lv_aload_n hx hb dX2_move_0 rfl (lv_at hl 0 rfl) ?_
  refine va_get (D := (dC, dI)) (ci := 2) (v := .ref (a 1)) (C := RX2) (T := TX2) (N := 6) hx hb hts (by decide +kernel) hown hK hP 0 rfl rfl 0 (by decide) (hts (.fieldLink RX2 10 "TriangleSheet" "points" "LTriangleSheet$Points;") (by decide +kernel)) (fun _ h9 => h9) rfl dX2_move_1 ?_
  refine lv_iload_n hx hb dX2_move_4 rfl (lv_at hl 1 rfl) ?_
  refine ro_V (As := [.int (q)]) (rest := []) (q0 := 1) (ci := 0) hx hb hml hown hts (c_X0_isPoint l dC dI cI cL cZ a v q hv) (cwV 1 hts gX2_move_X0_isPoint rfl rfl rfl (by decide +kernel) ⟨Nat.le_of_ble_eq_true rfl, Nat.le_of_ble_eq_true rfl⟩) hK hP rfl rfl rfl hl.1 rfl (Nat.le_of_ble_eq_true rfl) dX2_move_5 ⟨Nat.zero_le _, Nat.zero_le _⟩ ?_
  refine lv_if_ne (tgt := 21) hx hb dX2_move_8 (by decide) (fun c_1 => ?_) (fun c_1 => ?_)
  · skip
    have c_1 : (inB q (sPn v)) = true := bI_t c_1
    refine lv_iload_n hx hb dX2_move_21 rfl (lv_at hl 2 rfl) ?_
    refine lv_iload_n hx hb dX2_move_22 rfl (lv_at hl 3 rfl) ?_
    refine ro_S (As := [.int (x), .int (y)]) (rest := []) hx hb hml hown hts (c_X2_isPlace l dC dI  x y ) (va_cwS 2 hts gX2_move_X2_isPlace rfl rfl rfl (by decide +kernel) ⟨Nat.le_of_ble_eq_true rfl, Nat.le_of_ble_eq_true rfl⟩) (hK.sub [] rfl) (hP.sub [] rfl) rfl hl.1 rfl (Nat.le_of_ble_eq_true rfl) dX2_move_23 ⟨Nat.zero_le _, Nat.zero_le _⟩ ?_
    refine lv_if_ne (tgt := 39) hx hb dX2_move_26 (by decide) (fun c_2 => ?_) (fun c_2 => ?_)
    · skip
      have c_2 : (inB x 512 && inB y 512) = true := bI_t c_2
      exact absurd c_2 (by rw [hc]; decide)
    · skip
      have c_2 : (inB x 512 && inB y 512) = false := bI_f c_2
      exact xt_throw (ik := 42) (is := 44) (text := "no such place") hx hb (hml.trans hl.1.symm) hst hown hts (Or.inl ⟨rfl, rfl⟩) (by decide +kernel) (by decide +kernel) atX2_move_46 hE (by decide +kernel) hex dX2_move_29 dX2_move_32 dX2_move_33 dX2_move_35 dX2_move_38 (Nat.le_of_ble_eq_true rfl) (Nat.le_of_ble_eq_true rfl) (Nat.le_of_ble_eq_true rfl) (Nat.le_of_ble_eq_true rfl) hlocks
  · skip
    have c_1 : (inB q (sPn v)) = false := bI_f c_1
    exact absurd c_1 (by rw [hq]; decide)
set_option maxHeartbeats 4000000 in
set_option maxRecDepth 100000 in
theorem c_X2_move_x3 (l : Launch) (hst : l.stackTraces = false) (dC : Nat → ClassId) (dI : Nat → Nat → Nat) (cI cL cZ : ClassId) (a : Nat → Nat) (v : SV) (q u : Nat) (x y : Int32) (hv : okS v) (hq : q < sPn v) (hp : (inB x 512 && inB y 512) = true) (hc : pAt v.1 (sPn v) x y = some u) (hd : u ≠ q) : vx_Met l yX2_move wsX2_move ({ frames := 6, cells := 1, slots := 6, locals := 82 }) (va_Pc [.ref (a 0), .int (nI (q)), .int (x), .int (y)] (xt_B (dC, dI) vwCl (wS cI cL a v) (tyS cI cL cZ))) xt_N (xt_X "java/lang/IllegalStateException") 1 6 (fun _ => False) := by
  refine xt_Met (cc := cX2_move) (maxL := 5) (ret := none) (by decide) rfl (Nat.le_of_ble_eq_true rfl) ?_
  intro pr en s m below meth co ls hx hb hml hr hlocks hown hts hP hK hl hex hE
  have hl : lv_has ls 5 [(0, .ref (a 0)), (1, .int (nI (q))), (2, .int (x)), (3, .int (y))] := hl
  have hown : s.vm.findClass RX2 = some m.cls := hown
  have hvp : sPn v ≤ 60 ∧ sTn v ≤ 60 ∧ sTm v ≤ 200 := ⟨hv.2.1, hv.2.2.2.1, hv.2.2.2.2.1⟩
  refine lv_aload_n hx hb dX2_move_0 rfl (lv_at hl 0 rfl) ?_
  refine va_get (D := (dC, dI)) (ci := 2) (v := .ref (a 1)) (C := RX2) (T := TX2) (N := 6) hx hb hts (by decide +kernel) hown hK hP 0 rfl rfl 0 (by decide) (hts (.fieldLink RX2 10 "TriangleSheet" "points" "LTriangleSheet$Points;") (by decide +kernel)) (fun _ h9 => h9) rfl dX2_move_1 ?_
  refine lv_iload_n hx hb dX2_move_4 rfl (lv_at hl 1 rfl) ?_
  refine ro_V (As := [.int (nI (q))]) (rest := []) (q0 := 1) (ci := 0) hx hb hml hown hts (c_X0_isPoint l dC dI cI cL cZ a v (nI (q)) hv) (cwV 1 hts gX2_move_X0_isPoint rfl rfl rfl (by decide +kernel) ⟨Nat.le_of_ble_eq_true rfl, Nat.le_of_ble_eq_true rfl⟩) hK hP rfl rfl rfl hl.1 rfl (Nat.le_of_ble_eq_true rfl) dX2_move_5 ⟨Nat.zero_le _, Nat.zero_le _⟩ ?_
  refine lv_if_ne (tgt := 21) hx hb dX2_move_8 (by decide) (fun c_1 => ?_) (fun c_1 => ?_)
  · skip
    have c_1 : (inB (nI (q)) (sPn v)) = true := bI_t c_1
    refine lv_iload_n hx hb dX2_move_21 rfl (lv_at hl 2 rfl) ?_
    refine lv_iload_n hx hb dX2_move_22 rfl (lv_at hl 3 rfl) ?_
    refine ro_S (As := [.int (x), .int (y)]) (rest := []) hx hb hml hown hts (c_X2_isPlace l dC dI  x y ) (va_cwS 2 hts gX2_move_X2_isPlace rfl rfl rfl (by decide +kernel) ⟨Nat.le_of_ble_eq_true rfl, Nat.le_of_ble_eq_true rfl⟩) (hK.sub [] rfl) (hP.sub [] rfl) rfl hl.1 rfl (Nat.le_of_ble_eq_true rfl) dX2_move_23 ⟨Nat.zero_le _, Nat.zero_le _⟩ ?_
    refine lv_if_ne (tgt := 39) hx hb dX2_move_26 (by decide) (fun c_2 => ?_) (fun c_2 => ?_)
    · skip
      have c_2 : (inB x 512 && inB y 512) = true := bI_t c_2
      refine lv_aload_n hx hb dX2_move_39 rfl (lv_at hl 0 rfl) ?_
      refine va_get (D := (dC, dI)) (ci := 2) (v := .ref (a 1)) (C := RX2) (T := TX2) (N := 6) hx hb hts (by decide +kernel) hown hK hP 0 rfl rfl 0 (by decide) (hts (.fieldLink RX2 10 "TriangleSheet" "points" "LTriangleSheet$Points;") (by decide +kernel)) (fun _ h9 => h9) rfl dX2_move_40 ?_
      refine lv_iload_n hx hb dX2_move_43 rfl (lv_at hl 2 rfl) ?_
      refine lv_iload_n hx hb dX2_move_44 rfl (lv_at hl 3 rfl) ?_
      refine ro_V (As := [.int (x), .int (y)]) (rest := []) (q0 := 1) (ci := 0) hx hb hml hown hts (c_X0_pointAt l dC dI cI cL cZ a v x y hv) (cwV 2 hts gX2_move_X0_pointAt rfl rfl rfl (by decide +kernel) ⟨Nat.le_of_ble_eq_true rfl, Nat.le_of_ble_eq_true rfl⟩) hK hP rfl rfl rfl hl.1 rfl (Nat.le_of_ble_eq_true rfl) dX2_move_45 ⟨Nat.zero_le _, Nat.zero_le _⟩ ?_
      have ps_3 : ∀ k, pAt v.1 (sPn v) x y = some k → k < 2 ^ 31 := fun k h => by have := pAt_lt h; omega
      refine ocase (x := pAt v.1 (sPn v) x y) (fun ho_k => ?_) (fun k ho_k => ?_)
      · skip
        refine lv_istore (lv' := [(4, .int (iI (-1))), (0, .ref (a 0)), (1, .int (nI (q))), (2, .int (x)), (3, .int (y))]) hx hb dX2_move_48 hl (by decide) rfl (fun ls hl => ?_)
        refine lv_iload hx hb dX2_move_50 (lv_at hl 0 rfl) ?_
        refine lv_iconst (v := iI (-1)) hx hb dX2_move_52 (by decide) ?_
        refine lv_icmp_eq (tgt := 72) hx hb dX2_move_53 (by decide) (fun c_4 => ?_) (fun c_4 => absurd rfl c_4)
        exact absurd (ho_k.symm.trans hc) (by simp)
      · skip
        have hk9 := pAt_lt ho_k
        have hku : k = u := Option.some.inj (ho_k.symm.trans hc)
        refine lv_istore (lv' := [(4, .int (nI (k))), (0, .ref (a 0)), (1, .int (nI (q))), (2, .int (x)), (3, .int (y))]) hx hb dX2_move_48 hl (by decide) rfl (fun ls hl => ?_)
        refine lv_iload hx hb dX2_move_50 (lv_at hl 0 rfl) ?_
        refine lv_iconst (v := iI (-1)) hx hb dX2_move_52 (by decide) ?_
        refine lv_icmp_eq (tgt := 72) hx hb dX2_move_53 (by decide) (fun c_5 => absurd c_5 (ne_m1 (by omega))) (fun c_5 => ?_)
        refine lv_iload hx hb dX2_move_56 (lv_at hl 0 rfl) ?_
        refine lv_iload_n hx hb dX2_move_58 rfl (lv_at hl 2 rfl) ?_
        refine lv_icmp_eq (tgt := 72) hx hb dX2_move_59 (by decide) (fun c_6 => ?_) (fun c_6 => ?_)
        · skip
          have c_6 : k = q := (nI_eq (a := k) (b := q) (by omega) (by omega)).mp c_6
          exact absurd (hku.symm.trans c_6) hd
        · skip
          have c_6 : ¬ (k = q) := fun hq9 => c_6 ((nI_eq (a := k) (b := q) (by omega) (by omega)).mpr hq9)
          exact xt_throw (ik := 52) (is := 73) (text := "another point is there") hx hb (hml.trans hl.1.symm) hst hown hts (Or.inr (Or.inl ⟨rfl, rfl⟩)) (by decide +kernel) (by decide +kernel) atX2_move_56 hE (by decide +kernel) hex dX2_move_62 dX2_move_65 dX2_move_66 dX2_move_68 dX2_move_71 (Nat.le_of_ble_eq_true rfl) (Nat.le_of_ble_eq_true rfl) (Nat.le_of_ble_eq_true rfl) (Nat.le_of_ble_eq_true rfl) hlocks
    · skip
      have c_2 : (inB x 512 && inB y 512) = false := bI_f c_2
      exact absurd c_2 (by rw [hp]; decide)
  · skip
    have c_1 : (inB (nI (q)) (sPn v)) = false := bI_f c_1
    exact absurd c_1 (by rw [inB_nI (by omega)]; simp; omega)
set_option maxHeartbeats 4000000 in
set_option maxRecDepth 100000 in
theorem c_X2_triangle_x1 (l : Launch) (hst : l.stackTraces = false) (dC : Nat → ClassId) (dI : Nat → Nat → Nat) (cI cL cZ : ClassId) (a : Nat → Nat) (v : SV) (i j q : Int32) (hv : okS v) (hc : (inB i (sPn v) && (inB j (sPn v) && inB q (sPn v))) = false) : vx_Met l yX2_triangle wsX2_triangle ({ frames := 6, cells := 1, slots := 6, locals := 82 }) (va_Pc [.ref (a 0), .int (i), .int (j), .int (q)] (xt_B (dC, dI) vwCl (wS cI cL a v) (tyS cI cL cZ))) xt_N (xt_X "java/lang/IndexOutOfBoundsException") 1 6 (fun _ => False) := by
  refine xt_Met (cc := cX2_triangle) (maxL := 4) (ret := (some .int)) (by decide) rfl (Nat.le_of_ble_eq_true rfl) ?_
  intro pr en s m below meth co ls hx hb hml hr hlocks hown hts hP hK hl hex hE
  have hl : lv_has ls 4 [(0, .ref (a 0)), (1, .int (i)), (2, .int (j)), (3, .int (q))] := hl
  have hown : s.vm.findClass RX2 = some m.cls := hown
  have hvp : sPn v ≤ 60 ∧ sTn v ≤ 60 ∧ sTm v ≤ 200 := ⟨hv.2.1, hv.2.2.2.1, hv.2.2.2.2.1⟩
  refine lv_aload_n hx hb dX2_triangle_0 rfl (lv_at hl 0 rfl) ?_
  refine va_get (D := (dC, dI)) (ci := 2) (v := .ref (a 1)) (C := RX2) (T := TX2) (N := 6) hx hb hts (by decide +kernel) hown hK hP 0 rfl rfl 0 (by decide) (hts (.fieldLink RX2 10 "TriangleSheet" "points" "LTriangleSheet$Points;") (by decide +kernel)) (fun _ h9 => h9) rfl dX2_triangle_1 ?_
  refine lv_iload_n hx hb dX2_triangle_4 rfl (lv_at hl 1 rfl) ?_
  refine ro_V (As := [.int (i)]) (rest := []) (q0 := 1) (ci := 0) hx hb hml hown hts (c_X0_isPoint l dC dI cI cL cZ a v i hv) (cwV 1 hts gX2_triangle_X0_isPoint rfl rfl rfl (by decide +kernel) ⟨Nat.le_of_ble_eq_true rfl, Nat.le_of_ble_eq_true rfl⟩) hK hP rfl rfl rfl hl.1 rfl (Nat.le_of_ble_eq_true rfl) dX2_triangle_5 ⟨Nat.zero_le _, Nat.zero_le _⟩ ?_
  refine lv_if_eq (tgt := 33) hx hb dX2_triangle_8 (by decide) (fun c_1 => ?_) (fun c_1 => ?_)
  · skip
    have c_1 : (inB i (sPn v)) = false := bI_f c_1
    exact xt_throw (ik := 65) (is := 79) (text := "no such points") hx hb (hml.trans hl.1.symm) hst hown hts (Or.inr (Or.inr ⟨rfl, rfl⟩)) (by decide +kernel) (by decide +kernel) atX2_triangle_69 hE (by decide +kernel) hex dX2_triangle_33 dX2_triangle_36 dX2_triangle_37 dX2_triangle_39 dX2_triangle_42 (Nat.le_of_ble_eq_true rfl) (Nat.le_of_ble_eq_true rfl) (Nat.le_of_ble_eq_true rfl) (Nat.le_of_ble_eq_true rfl) hlocks
  · skip
    have c_1 : (inB i (sPn v)) = true := bI_t c_1
    refine lv_aload_n hx hb dX2_triangle_11 rfl (lv_at hl 0 rfl) ?_
    refine va_get (D := (dC, dI)) (ci := 2) (v := .ref (a 1)) (C := RX2) (T := TX2) (N := 6) hx hb hts (by decide +kernel) hown hK hP 0 rfl rfl 0 (by decide) (hts (.fieldLink RX2 10 "TriangleSheet" "points" "LTriangleSheet$Points;") (by decide +kernel)) (fun _ h9 => h9) rfl dX2_triangle_12 ?_
    refine lv_iload_n hx hb dX2_triangle_15 rfl (lv_at hl 2 rfl) ?_
    refine ro_V (As := [.int (j)]) (rest := []) (q0 := 1) (ci := 0) hx hb hml hown hts (c_X0_isPoint l dC dI cI cL cZ a v j hv) (cwV 1 hts gX2_triangle_X0_isPoint rfl rfl rfl (by decide +kernel) ⟨Nat.le_of_ble_eq_true rfl, Nat.le_of_ble_eq_true rfl⟩) hK hP rfl rfl rfl hl.1 rfl (Nat.le_of_ble_eq_true rfl) dX2_triangle_16 ⟨Nat.zero_le _, Nat.zero_le _⟩ ?_
    refine lv_if_eq (tgt := 33) hx hb dX2_triangle_19 (by decide) (fun c_2 => ?_) (fun c_2 => ?_)
    · skip
      have c_2 : (inB j (sPn v)) = false := bI_f c_2
      exact xt_throw (ik := 65) (is := 79) (text := "no such points") hx hb (hml.trans hl.1.symm) hst hown hts (Or.inr (Or.inr ⟨rfl, rfl⟩)) (by decide +kernel) (by decide +kernel) atX2_triangle_69 hE (by decide +kernel) hex dX2_triangle_33 dX2_triangle_36 dX2_triangle_37 dX2_triangle_39 dX2_triangle_42 (Nat.le_of_ble_eq_true rfl) (Nat.le_of_ble_eq_true rfl) (Nat.le_of_ble_eq_true rfl) (Nat.le_of_ble_eq_true rfl) hlocks
    · skip
      have c_2 : (inB j (sPn v)) = true := bI_t c_2
      refine lv_aload_n hx hb dX2_triangle_22 rfl (lv_at hl 0 rfl) ?_
      refine va_get (D := (dC, dI)) (ci := 2) (v := .ref (a 1)) (C := RX2) (T := TX2) (N := 6) hx hb hts (by decide +kernel) hown hK hP 0 rfl rfl 0 (by decide) (hts (.fieldLink RX2 10 "TriangleSheet" "points" "LTriangleSheet$Points;") (by decide +kernel)) (fun _ h9 => h9) rfl dX2_triangle_23 ?_
      refine lv_iload_n hx hb dX2_triangle_26 rfl (lv_at hl 3 rfl) ?_
      refine ro_V (As := [.int (q)]) (rest := []) (q0 := 1) (ci := 0) hx hb hml hown hts (c_X0_isPoint l dC dI cI cL cZ a v q hv) (cwV 1 hts gX2_triangle_X0_isPoint rfl rfl rfl (by decide +kernel) ⟨Nat.le_of_ble_eq_true rfl, Nat.le_of_ble_eq_true rfl⟩) hK hP rfl rfl rfl hl.1 rfl (Nat.le_of_ble_eq_true rfl) dX2_triangle_27 ⟨Nat.zero_le _, Nat.zero_le _⟩ ?_
      refine lv_if_ne (tgt := 43) hx hb dX2_triangle_30 (by decide) (fun c_3 => ?_) (fun c_3 => ?_)
      · skip
        have c_3 : (inB q (sPn v)) = true := bI_t c_3
        exact absurd hc (by simp [c_1, c_2, c_3])
      · skip
        have c_3 : (inB q (sPn v)) = false := bI_f c_3
        exact xt_throw (ik := 65) (is := 79) (text := "no such points") hx hb (hml.trans hl.1.symm) hst hown hts (Or.inr (Or.inr ⟨rfl, rfl⟩)) (by decide +kernel) (by decide +kernel) atX2_triangle_69 hE (by decide +kernel) hex dX2_triangle_33 dX2_triangle_36 dX2_triangle_37 dX2_triangle_39 dX2_triangle_42 (Nat.le_of_ble_eq_true rfl) (Nat.le_of_ble_eq_true rfl) (Nat.le_of_ble_eq_true rfl) (Nat.le_of_ble_eq_true rfl) hlocks
set_option maxHeartbeats 4000000 in
set_option maxRecDepth 100000 in
theorem c_X2_triangle_x2 (l : Launch) (hst : l.stackTraces = false) (dC : Nat → ClassId) (dI : Nat → Nat → Nat) (cI cL cZ : ClassId) (a : Nat → Nat) (v : SV) (i j q : Nat) (hv : okS v) (hi : i < sPn v) (hj : j < sPn v) (hq : q < sPn v) (hc : ¬ (i ≠ j ∧ j ≠ q ∧ i ≠ q)) : vx_Met l yX2_triangle wsX2_triangle ({ frames := 6, cells := 1, slots := 6, locals := 82 }) (va_Pc [.ref (a 0), .int (nI (i)), .int (nI (j)), .int (nI (q))] (xt_B (dC, dI) vwCl (wS cI cL a v) (tyS cI cL cZ))) xt_N (xt_X "java/lang/IllegalArgumentException") 1 6 (fun _ => False) := by
  refine xt_Met (cc := cX2_triangle) (maxL := 4) (ret := (some .int)) (by decide) rfl (Nat.le_of_ble_eq_true rfl) ?_
  intro pr en s m below meth co ls hx hb hml hr hlocks hown hts hP hK hl hex hE
  have hl : lv_has ls 4 [(0, .ref (a 0)), (1, .int (nI (i))), (2, .int (nI (j))), (3, .int (nI (q)))] := hl
  have hown : s.vm.findClass RX2 = some m.cls := hown
  have hvp : sPn v ≤ 60 ∧ sTn v ≤ 60 ∧ sTm v ≤ 200 := ⟨hv.2.1, hv.2.2.2.1, hv.2.2.2.2.1⟩
  refine lv_aload_n hx hb dX2_triangle_0 rfl (lv_at hl 0 rfl) ?_
  refine va_get (D := (dC, dI)) (ci := 2) (v := .ref (a 1)) (C := RX2) (T := TX2) (N := 6) hx hb hts (by decide +kernel) hown hK hP 0 rfl rfl 0 (by decide) (hts (.fieldLink RX2 10 "TriangleSheet" "points" "LTriangleSheet$Points;") (by decide +kernel)) (fun _ h9 => h9) rfl dX2_triangle_1 ?_
  refine lv_iload_n hx hb dX2_triangle_4 rfl (lv_at hl 1 rfl) ?_
  refine ro_V (As := [.int (nI (i))]) (rest := []) (q0 := 1) (ci := 0) hx hb hml hown hts (c_X0_isPoint l dC dI cI cL cZ a v (nI (i)) hv) (cwV 1 hts gX2_triangle_X0_isPoint rfl rfl rfl (by decide +kernel) ⟨Nat.le_of_ble_eq_true rfl, Nat.le_of_ble_eq_true rfl⟩) hK hP rfl rfl rfl hl.1 rfl (Nat.le_of_ble_eq_true rfl) dX2_triangle_5 ⟨Nat.zero_le _, Nat.zero_le _⟩ ?_
  refine lv_if_eq (tgt := 33) hx hb dX2_triangle_8 (by decide) (fun c_1 => ?_) (fun c_1 => ?_)
  · skip
    have c_1 : (inB (nI (i)) (sPn v)) = false := bI_f c_1
    exact absurd c_1 (by rw [inB_nI (by omega)]; simp; omega)
  · skip
    have c_1 : (inB (nI (i)) (sPn v)) = true := bI_t c_1
    refine lv_aload_n hx hb dX2_triangle_11 rfl (lv_at hl 0 rfl) ?_
    refine va_get (D := (dC, dI)) (ci := 2) (v := .ref (a 1)) (C := RX2) (T := TX2) (N := 6) hx hb hts (by decide +kernel) hown hK hP 0 rfl rfl 0 (by decide) (hts (.fieldLink RX2 10 "TriangleSheet" "points" "LTriangleSheet$Points;") (by decide +kernel)) (fun _ h9 => h9) rfl dX2_triangle_12 ?_
    refine lv_iload_n hx hb dX2_triangle_15 rfl (lv_at hl 2 rfl) ?_
    refine ro_V (As := [.int (nI (j))]) (rest := []) (q0 := 1) (ci := 0) hx hb hml hown hts (c_X0_isPoint l dC dI cI cL cZ a v (nI (j)) hv) (cwV 1 hts gX2_triangle_X0_isPoint rfl rfl rfl (by decide +kernel) ⟨Nat.le_of_ble_eq_true rfl, Nat.le_of_ble_eq_true rfl⟩) hK hP rfl rfl rfl hl.1 rfl (Nat.le_of_ble_eq_true rfl) dX2_triangle_16 ⟨Nat.zero_le _, Nat.zero_le _⟩ ?_
    refine lv_if_eq (tgt := 33) hx hb dX2_triangle_19 (by decide) (fun c_2 => ?_) (fun c_2 => ?_)
    · skip
      have c_2 : (inB (nI (j)) (sPn v)) = false := bI_f c_2
      exact absurd c_2 (by rw [inB_nI (by omega)]; simp; omega)
    · skip
      have c_2 : (inB (nI (j)) (sPn v)) = true := bI_t c_2
      refine lv_aload_n hx hb dX2_triangle_22 rfl (lv_at hl 0 rfl) ?_
      refine va_get (D := (dC, dI)) (ci := 2) (v := .ref (a 1)) (C := RX2) (T := TX2) (N := 6) hx hb hts (by decide +kernel) hown hK hP 0 rfl rfl 0 (by decide) (hts (.fieldLink RX2 10 "TriangleSheet" "points" "LTriangleSheet$Points;") (by decide +kernel)) (fun _ h9 => h9) rfl dX2_triangle_23 ?_
      refine lv_iload_n hx hb dX2_triangle_26 rfl (lv_at hl 3 rfl) ?_
      refine ro_V (As := [.int (nI (q))]) (rest := []) (q0 := 1) (ci := 0) hx hb hml hown hts (c_X0_isPoint l dC dI cI cL cZ a v (nI (q)) hv) (cwV 1 hts gX2_triangle_X0_isPoint rfl rfl rfl (by decide +kernel) ⟨Nat.le_of_ble_eq_true rfl, Nat.le_of_ble_eq_true rfl⟩) hK hP rfl rfl rfl hl.1 rfl (Nat.le_of_ble_eq_true rfl) dX2_triangle_27 ⟨Nat.zero_le _, Nat.zero_le _⟩ ?_
      refine lv_if_ne (tgt := 43) hx hb dX2_triangle_30 (by decide) (fun c_3 => ?_) (fun c_3 => ?_)
      · skip
        have c_3 : (inB (nI (q)) (sPn v)) = true := bI_t c_3
        refine lv_iload_n hx hb dX2_triangle_43 rfl (lv_at hl 1 rfl) ?_
        refine lv_iload_n hx hb dX2_triangle_44 rfl (lv_at hl 2 rfl) ?_
        refine lv_icmp_eq (tgt := 58) hx hb dX2_triangle_45 (by decide) (fun c_4 => ?_) (fun c_4 => ?_)
        · skip
          have c_4 : i = j := (nI_eq (a := i) (b := j) (by omega) (by omega)).mp c_4
          exact xt_throw (ik := 42) (is := 81) (text := "two points are one") hx hb (hml.trans hl.1.symm) hst hown hts (Or.inl ⟨rfl, rfl⟩) (by decide +kernel) (by decide +kernel) atX2_triangle_46 hE (by decide +kernel) hex dX2_triangle_58 dX2_triangle_61 dX2_triangle_62 dX2_triangle_64 dX2_triangle_67 (Nat.le_of_ble_eq_true rfl) (Nat.le_of_ble_eq_true rfl) (Nat.le_of_ble_eq_true rfl) (Nat.le_of_ble_eq_true rfl) hlocks
        · skip
          have c_4 : ¬ (i = j) := fun hq9 => c_4 ((nI_eq (a := i) (b := j) (by omega) (by omega)).mpr hq9)
          refine lv_iload_n hx hb dX2_triangle_48 rfl (lv_at hl 2 rfl) ?_
          refine lv_iload_n hx hb dX2_triangle_49 rfl (lv_at hl 3 rfl) ?_
          refine lv_icmp_eq (tgt := 58) hx hb dX2_triangle_50 (by decide) (fun c_5 => ?_) (fun c_5 => ?_)
          · skip
            have c_5 : j = q := (nI_eq (a := j) (b := q) (by omega) (by omega)).mp c_5
            exact xt_throw (ik := 42) (is := 81) (text := "two points are one") hx hb (hml.trans hl.1.symm) hst hown hts (Or.inl ⟨rfl, rfl⟩) (by decide +kernel) (by decide +kernel) atX2_triangle_46 hE (by decide +kernel) hex dX2_triangle_58 dX2_triangle_61 dX2_triangle_62 dX2_triangle_64 dX2_triangle_67 (Nat.le_of_ble_eq_true rfl) (Nat.le_of_ble_eq_true rfl) (Nat.le_of_ble_eq_true rfl) (Nat.le_of_ble_eq_true rfl) hlocks
          · skip
            have c_5 : ¬ (j = q) := fun hq9 => c_5 ((nI_eq (a := j) (b := q) (by omega) (by omega)).mpr hq9)
            refine lv_iload_n hx hb dX2_triangle_53 rfl (lv_at hl 3 rfl) ?_
            refine lv_iload_n hx hb dX2_triangle_54 rfl (lv_at hl 1 rfl) ?_
            refine lv_icmp_ne (tgt := 68) hx hb dX2_triangle_55 (by decide) (fun c_6 => ?_) (fun c_6 => ?_)
            · skip
              have c_6 : ¬ (q = i) := fun hq9 => c_6 ((nI_eq (a := q) (b := i) (by omega) (by omega)).mpr hq9)
              omega
            · skip
              have c_6 : q = i := (nI_eq (a := q) (b := i) (by omega) (by omega)).mp c_6
              exact xt_throw (ik := 42) (is := 81) (text := "two points are one") hx hb (hml.trans hl.1.symm) hst hown hts (Or.inl ⟨rfl, rfl⟩) (by decide +kernel) (by decide +kernel) atX2_triangle_46 hE (by decide +kernel) hex dX2_triangle_58 dX2_triangle_61 dX2_triangle_62 dX2_triangle_64 dX2_triangle_67 (Nat.le_of_ble_eq_true rfl) (Nat.le_of_ble_eq_true rfl) (Nat.le_of_ble_eq_true rfl) (Nat.le_of_ble_eq_true rfl) hlocks
      · skip
        have c_3 : (inB (nI (q)) (sPn v)) = false := bI_f c_3
        exact absurd c_3 (by rw [inB_nI (by omega)]; simp; omega)
set_option maxHeartbeats 4000000 in
set_option maxRecDepth 100000 in
theorem c_X2_triangle_x3 (l : Launch) (hst : l.stackTraces = false) (dC : Nat → ClassId) (dI : Nat → Nat → Nat) (cI cL cZ : ClassId) (a : Nat → Nat) (v : SV) (i j q : Nat) (hv : okS v) (hi : i < sPn v) (hj : j < sPn v) (hq : q < sPn v) (hc : i ≠ j ∧ j ≠ q ∧ i ≠ q) (hd : ¬ (sTn v < 60 ∧ sTm v < 200)) : vx_Met l yX2_triangle wsX2_triangle ({ frames := 6, cells := 1, slots := 6, locals := 82 }) (va_Pc [.ref (a 0), .int (nI (i)), .int (nI (j)), .int (nI (q))] (xt_B (dC, dI) vwCl (wS cI cL a v) (tyS cI cL cZ))) xt_N (xt_X "java/lang/IllegalStateException") 1 6 (fun _ => False) := by
  refine xt_Met (cc := cX2_triangle) (maxL := 4) (ret := (some .int)) (by decide) rfl (Nat.le_of_ble_eq_true rfl) ?_
  intro pr en s m below meth co ls hx hb hml hr hlocks hown hts hP hK hl hex hE
  have hl : lv_has ls 4 [(0, .ref (a 0)), (1, .int (nI (i))), (2, .int (nI (j))), (3, .int (nI (q)))] := hl
  have hown : s.vm.findClass RX2 = some m.cls := hown
  have hvp : sPn v ≤ 60 ∧ sTn v ≤ 60 ∧ sTm v ≤ 200 := ⟨hv.2.1, hv.2.2.2.1, hv.2.2.2.2.1⟩
  refine lv_aload_n hx hb dX2_triangle_0 rfl (lv_at hl 0 rfl) ?_
  refine va_get (D := (dC, dI)) (ci := 2) (v := .ref (a 1)) (C := RX2) (T := TX2) (N := 6) hx hb hts (by decide +kernel) hown hK hP 0 rfl rfl 0 (by decide) (hts (.fieldLink RX2 10 "TriangleSheet" "points" "LTriangleSheet$Points;") (by decide +kernel)) (fun _ h9 => h9) rfl dX2_triangle_1 ?_
  refine lv_iload_n hx hb dX2_triangle_4 rfl (lv_at hl 1 rfl) ?_
  refine ro_V (As := [.int (nI (i))]) (rest := []) (q0 := 1) (ci := 0) hx hb hml hown hts (c_X0_isPoint l dC dI cI cL cZ a v (nI (i)) hv) (cwV 1 hts gX2_triangle_X0_isPoint rfl rfl rfl (by decide +kernel) ⟨Nat.le_of_ble_eq_true rfl, Nat.le_of_ble_eq_true rfl⟩) hK hP rfl rfl rfl hl.1 rfl (Nat.le_of_ble_eq_true rfl) dX2_triangle_5 ⟨Nat.zero_le _, Nat.zero_le _⟩ ?_
  refine lv_if_eq (tgt := 33) hx hb dX2_triangle_8 (by decide) (fun c_1 => ?_) (fun c_1 => ?_)
  · skip
    have c_1 : (inB (nI (i)) (sPn v)) = false := bI_f c_1
    exact absurd c_1 (by rw [inB_nI (by omega)]; simp; omega)
  · skip
    have c_1 : (inB (nI (i)) (sPn v)) = true := bI_t c_1
    refine lv_aload_n hx hb dX2_triangle_11 rfl (lv_at hl 0 rfl) ?_
    refine va_get (D := (dC, dI)) (ci := 2) (v := .ref (a 1)) (C := RX2) (T := TX2) (N := 6) hx hb hts (by decide +kernel) hown hK hP 0 rfl rfl 0 (by decide) (hts (.fieldLink RX2 10 "TriangleSheet" "points" "LTriangleSheet$Points;") (by decide +kernel)) (fun _ h9 => h9) rfl dX2_triangle_12 ?_
    refine lv_iload_n hx hb dX2_triangle_15 rfl (lv_at hl 2 rfl) ?_
    refine ro_V (As := [.int (nI (j))]) (rest := []) (q0 := 1) (ci := 0) hx hb hml hown hts (c_X0_isPoint l dC dI cI cL cZ a v (nI (j)) hv) (cwV 1 hts gX2_triangle_X0_isPoint rfl rfl rfl (by decide +kernel) ⟨Nat.le_of_ble_eq_true rfl, Nat.le_of_ble_eq_true rfl⟩) hK hP rfl rfl rfl hl.1 rfl (Nat.le_of_ble_eq_true rfl) dX2_triangle_16 ⟨Nat.zero_le _, Nat.zero_le _⟩ ?_
    refine lv_if_eq (tgt := 33) hx hb dX2_triangle_19 (by decide) (fun c_2 => ?_) (fun c_2 => ?_)
    · skip
      have c_2 : (inB (nI (j)) (sPn v)) = false := bI_f c_2
      exact absurd c_2 (by rw [inB_nI (by omega)]; simp; omega)
    · skip
      have c_2 : (inB (nI (j)) (sPn v)) = true := bI_t c_2
      refine lv_aload_n hx hb dX2_triangle_22 rfl (lv_at hl 0 rfl) ?_
      refine va_get (D := (dC, dI)) (ci := 2) (v := .ref (a 1)) (C := RX2) (T := TX2) (N := 6) hx hb hts (by decide +kernel) hown hK hP 0 rfl rfl 0 (by decide) (hts (.fieldLink RX2 10 "TriangleSheet" "points" "LTriangleSheet$Points;") (by decide +kernel)) (fun _ h9 => h9) rfl dX2_triangle_23 ?_
      refine lv_iload_n hx hb dX2_triangle_26 rfl (lv_at hl 3 rfl) ?_
      refine ro_V (As := [.int (nI (q))]) (rest := []) (q0 := 1) (ci := 0) hx hb hml hown hts (c_X0_isPoint l dC dI cI cL cZ a v (nI (q)) hv) (cwV 1 hts gX2_triangle_X0_isPoint rfl rfl rfl (by decide +kernel) ⟨Nat.le_of_ble_eq_true rfl, Nat.le_of_ble_eq_true rfl⟩) hK hP rfl rfl rfl hl.1 rfl (Nat.le_of_ble_eq_true rfl) dX2_triangle_27 ⟨Nat.zero_le _, Nat.zero_le _⟩ ?_
      refine lv_if_ne (tgt := 43) hx hb dX2_triangle_30 (by decide) (fun c_3 => ?_) (fun c_3 => ?_)
      · skip
        have c_3 : (inB (nI (q)) (sPn v)) = true := bI_t c_3
        refine lv_iload_n hx hb dX2_triangle_43 rfl (lv_at hl 1 rfl) ?_
        refine lv_iload_n hx hb dX2_triangle_44 rfl (lv_at hl 2 rfl) ?_
        refine lv_icmp_eq (tgt := 58) hx hb dX2_triangle_45 (by decide) (fun c_4 => ?_) (fun c_4 => ?_)
        · skip
          have c_4 : i = j := (nI_eq (a := i) (b := j) (by omega) (by omega)).mp c_4
          omega
        · skip
          have c_4 : ¬ (i = j) := fun hq9 => c_4 ((nI_eq (a := i) (b := j) (by omega) (by omega)).mpr hq9)
          refine lv_iload_n hx hb dX2_triangle_48 rfl (lv_at hl 2 rfl) ?_
          refine lv_iload_n hx hb dX2_triangle_49 rfl (lv_at hl 3 rfl) ?_
          refine lv_icmp_eq (tgt := 58) hx hb dX2_triangle_50 (by decide) (fun c_5 => ?_) (fun c_5 => ?_)
          · skip
            have c_5 : j = q := (nI_eq (a := j) (b := q) (by omega) (by omega)).mp c_5
            omega
          · skip
            have c_5 : ¬ (j = q) := fun hq9 => c_5 ((nI_eq (a := j) (b := q) (by omega) (by omega)).mpr hq9)
            refine lv_iload_n hx hb dX2_triangle_53 rfl (lv_at hl 3 rfl) ?_
            refine lv_iload_n hx hb dX2_triangle_54 rfl (lv_at hl 1 rfl) ?_
            refine lv_icmp_ne (tgt := 68) hx hb dX2_triangle_55 (by decide) (fun c_6 => ?_) (fun c_6 => ?_)
            · skip
              have c_6 : ¬ (q = i) := fun hq9 => c_6 ((nI_eq (a := q) (b := i) (by omega) (by omega)).mpr hq9)
              refine lv_aload_n hx hb dX2_triangle_68 rfl (lv_at hl 0 rfl) ?_
              refine va_get (D := (dC, dI)) (ci := 2) (v := .ref (a 4)) (C := RX2) (T := TX2) (N := 6) hx hb hts (by decide +kernel) hown hK hP 0 rfl rfl 1 (by decide) (hts (.fieldLink RX2 19 "TriangleSheet" "triangles" "LTriangleSheet$Triangles;") (by decide +kernel)) (fun _ h9 => h9) rfl dX2_triangle_69 ?_
              refine lv_iconst (v := nI (1)) hx hb dX2_triangle_72 (by decide) ?_
              refine ro_V (As := [.int (nI (1))]) (rest := []) (q0 := 4) (ci := 1) hx hb hml hown hts (c_X1_canAdd l dC dI cI cL cZ a v 1 hv (by omega)) (cwV 1 hts gX2_triangle_X1_canAdd rfl rfl rfl (by decide +kernel) ⟨Nat.le_of_ble_eq_true rfl, Nat.le_of_ble_eq_true rfl⟩) hK hP rfl rfl rfl hl.1 rfl (Nat.le_of_ble_eq_true rfl) dX2_triangle_73 ⟨Nat.zero_le _, Nat.zero_le _⟩ ?_
              refine lv_if_ne (tgt := 89) hx hb dX2_triangle_76 (by decide) (fun c_7 => ?_) (fun c_7 => ?_)
              · skip
                have c_7 : (decide (sTn v + 1 ≤ 60) && decide (sTm v + 1 ≤ 200)) = true := bI_t c_7
                exact absurd c_7 (by simp; omega)
              · skip
                have c_7 : (decide (sTn v + 1 ≤ 60) && decide (sTm v + 1 ≤ 200)) = false := bI_f c_7
                exact xt_throw (ik := 52) (is := 85) (text := "no more triangles can be") hx hb (hml.trans hl.1.symm) hst hown hts (Or.inr (Or.inl ⟨rfl, rfl⟩)) (by decide +kernel) (by decide +kernel) atX2_triangle_56 hE (by decide +kernel) hex dX2_triangle_79 dX2_triangle_82 dX2_triangle_83 dX2_triangle_85 dX2_triangle_88 (Nat.le_of_ble_eq_true rfl) (Nat.le_of_ble_eq_true rfl) (Nat.le_of_ble_eq_true rfl) (Nat.le_of_ble_eq_true rfl) hlocks
            · skip
              have c_6 : q = i := (nI_eq (a := q) (b := i) (by omega) (by omega)).mp c_6
              omega
      · skip
        have c_3 : (inB (nI (q)) (sPn v)) = false := bI_f c_3
        exact absurd c_3 (by rw [inB_nI (by omega)]; simp; omega)
set_option maxHeartbeats 4000000 in
set_option maxRecDepth 100000 in
theorem c_X2_take_x1 (l : Launch) (hst : l.stackTraces = false) (dC : Nat → ClassId) (dI : Nat → Nat → Nat) (cI cL cZ : ClassId) (a : Nat → Nat) (v : SV) (t : Int32) (hv : okS v) (hc : thB (sTh v) (sTn v) t = false) : vx_Met l yX2_take wsX2_take ({ frames := 6, cells := 1, slots := 6, locals := 82 }) (va_Pc [.ref (a 0), .int (t)] (xt_B (dC, dI) vwCl (wS cI cL a v) (tyS cI cL cZ))) xt_N (xt_X "java/lang/IndexOutOfBoundsException") 1 6 (fun _ => False) := by
  refine xt_Met (cc := cX2_take) (maxL := 2) (ret := none) (by decide) rfl (Nat.le_of_ble_eq_true rfl) ?_
  intro pr en s m below meth co ls hx hb hml hr hlocks hown hts hP hK hl hex hE
  have hl : lv_has ls 2 [(0, .ref (a 0)), (1, .int (t))] := hl
  have hown : s.vm.findClass RX2 = some m.cls := hown
  have hvp : sPn v ≤ 60 ∧ sTn v ≤ 60 ∧ sTm v ≤ 200 := ⟨hv.2.1, hv.2.2.2.1, hv.2.2.2.2.1⟩
  refine lv_aload_n hx hb dX2_take_0 rfl (lv_at hl 0 rfl) ?_
  refine va_get (D := (dC, dI)) (ci := 2) (v := .ref (a 4)) (C := RX2) (T := TX2) (N := 6) hx hb hts (by decide +kernel) hown hK hP 0 rfl rfl 1 (by decide) (hts (.fieldLink RX2 19 "TriangleSheet" "triangles" "LTriangleSheet$Triangles;") (by decide +kernel)) (fun _ h9 => h9) rfl dX2_take_1 ?_
  refine lv_iload_n hx hb dX2_take_4 rfl (lv_at hl 1 rfl) ?_
  refine ro_V (As := [.int (t)]) (rest := []) (q0 := 4) (ci := 1) hx hb hml hown hts (c_X1_isThere l dC dI cI cL cZ a v t hv) (cwV 1 hts gX2_take_X1_isThere rfl rfl rfl (by decide +kernel) ⟨Nat.le_of_ble_eq_true rfl, Nat.le_of_ble_eq_true rfl⟩) hK hP rfl rfl rfl hl.1 rfl (Nat.le_of_ble_eq_true rfl) dX2_take_5 ⟨Nat.zero_le _, Nat.zero_le _⟩ ?_
  refine lv_if_ne (tgt := 21) hx hb dX2_take_8 (by decide) (fun c_1 => ?_) (fun c_1 => ?_)
  · skip
    have c_1 : (thB (sTh v) (sTn v) t) = true := bI_t c_1
    exact absurd c_1 (by rw [hc]; decide)
  · skip
    have c_1 : (thB (sTh v) (sTn v) t) = false := bI_f c_1
    exact xt_throw (ik := 65) (is := 93) (text := "no such triangle") hx hb (hml.trans hl.1.symm) hst hown hts (Or.inr (Or.inr ⟨rfl, rfl⟩)) (by decide +kernel) (by decide +kernel) atX2_take_69 hE (by decide +kernel) hex dX2_take_11 dX2_take_14 dX2_take_15 dX2_take_17 dX2_take_20 (Nat.le_of_ble_eq_true rfl) (Nat.le_of_ble_eq_true rfl) (Nat.le_of_ble_eq_true rfl) (Nat.le_of_ble_eq_true rfl) hlocks
set_option maxHeartbeats 4000000 in
set_option maxRecDepth 100000 in
theorem c_X2_part_x1 (l : Launch) (hst : l.stackTraces = false) (dC : Nat → ClassId) (dI : Nat → Nat → Nat) (cI cL cZ : ClassId) (a : Nat → Nat) (v : SV) (t x y : Int32) (hv : okS v) (hc : thB (sTh v) (sTn v) t = false) : vx_Met l yX2_part wsX2_part ({ frames := 6, cells := 1, slots := 6, locals := 82 }) (va_Pc [.ref (a 0), .int (t), .int (x), .int (y)] (xt_B (dC, dI) vwCl (wS cI cL a v) (tyS cI cL cZ))) xt_N (xt_X "java/lang/IndexOutOfBoundsException") 1 6 (fun _ => False) := by
  refine xt_Met (cc := cX2_part) (maxL := 8) (ret := (some .int)) (by decide) rfl (Nat.le_of_ble_eq_true rfl) ?_
  intro pr en s m below meth co ls hx hb hml hr hlocks hown hts hP hK hl hex hE
  have hl : lv_has ls 8 [(0, .ref (a 0)), (1, .int (t)), (2, .int (x)), (3, .int (y))] := hl
  have hown : s.vm.findClass RX2 = some m.cls := hown
  have hvp : sPn v ≤ 60 ∧ sTn v ≤ 60 ∧ sTm v ≤ 200 := ⟨hv.2.1, hv.2.2.2.1, hv.2.2.2.2.1⟩
  refine lv_aload_n hx hb dX2_part_0 rfl (lv_at hl 0 rfl) ?_
  refine va_get (D := (dC, dI)) (ci := 2) (v := .ref (a 4)) (C := RX2) (T := TX2) (N := 6) hx hb hts (by decide +kernel) hown hK hP 0 rfl rfl 1 (by decide) (hts (.fieldLink RX2 19 "TriangleSheet" "triangles" "LTriangleSheet$Triangles;") (by decide +kernel)) (fun _ h9 => h9) rfl dX2_part_1 ?_
  refine lv_iload_n hx hb dX2_part_4 rfl (lv_at hl 1 rfl) ?_
  refine ro_V (As := [.int (t)]) (rest := []) (q0 := 4) (ci := 1) hx hb hml hown hts (c_X1_isThere l dC dI cI cL cZ a v t hv) (cwV 1 hts gX2_part_X1_isThere rfl rfl rfl (by decide +kernel) ⟨Nat.le_of_ble_eq_true rfl, Nat.le_of_ble_eq_true rfl⟩) hK hP rfl rfl rfl hl.1 rfl (Nat.le_of_ble_eq_true rfl) dX2_part_5 ⟨Nat.zero_le _, Nat.zero_le _⟩ ?_
  refine lv_if_ne (tgt := 21) hx hb dX2_part_8 (by decide) (fun c_1 => ?_) (fun c_1 => ?_)
  · skip
    have c_1 : (thB (sTh v) (sTn v) t) = true := bI_t c_1
    exact absurd c_1 (by rw [hc]; decide)
  · skip
    have c_1 : (thB (sTh v) (sTn v) t) = false := bI_f c_1
    exact xt_throw (ik := 65) (is := 93) (text := "no such triangle") hx hb (hml.trans hl.1.symm) hst hown hts (Or.inr (Or.inr ⟨rfl, rfl⟩)) (by decide +kernel) (by decide +kernel) atX2_part_69 hE (by decide +kernel) hex dX2_part_11 dX2_part_14 dX2_part_15 dX2_part_17 dX2_part_20 (Nat.le_of_ble_eq_true rfl) (Nat.le_of_ble_eq_true rfl) (Nat.le_of_ble_eq_true rfl) (Nat.le_of_ble_eq_true rfl) hlocks
set_option maxHeartbeats 4000000 in
set_option maxRecDepth 100000 in
theorem c_X2_part_x2 (l : Launch) (hst : l.stackTraces = false) (dC : Nat → ClassId) (dI : Nat → Nat → Nat) (cI cL cZ : ClassId) (a : Nat → Nat) (v : SV) (t x y : Int32) (hv : okS v) (ht : thB (sTh v) (sTn v) t = true) (hc : (inB x 512 && inB y 512) = false) : vx_Met l yX2_part wsX2_part ({ frames := 6, cells := 1, slots := 6, locals := 82 }) (va_Pc [.ref (a 0), .int (t), .int (x), .int (y)] (xt_B (dC, dI) vwCl (wS cI cL a v) (tyS cI cL cZ))) xt_N (xt_X "java/lang/IllegalArgumentException") 1 6 (fun _ => False) := by
  refine xt_Met (cc := cX2_part) (maxL := 8) (ret := (some .int)) (by decide) rfl (Nat.le_of_ble_eq_true rfl) ?_
  intro pr en s m below meth co ls hx hb hml hr hlocks hown hts hP hK hl hex hE
  have hl : lv_has ls 8 [(0, .ref (a 0)), (1, .int (t)), (2, .int (x)), (3, .int (y))] := hl
  have hown : s.vm.findClass RX2 = some m.cls := hown
  have hvp : sPn v ≤ 60 ∧ sTn v ≤ 60 ∧ sTm v ≤ 200 := ⟨hv.2.1, hv.2.2.2.1, hv.2.2.2.2.1⟩
  refine lv_aload_n hx hb dX2_part_0 rfl (lv_at hl 0 rfl) ?_
  refine va_get (D := (dC, dI)) (ci := 2) (v := .ref (a 4)) (C := RX2) (T := TX2) (N := 6) hx hb hts (by decide +kernel) hown hK hP 0 rfl rfl 1 (by decide) (hts (.fieldLink RX2 19 "TriangleSheet" "triangles" "LTriangleSheet$Triangles;") (by decide +kernel)) (fun _ h9 => h9) rfl dX2_part_1 ?_
  refine lv_iload_n hx hb dX2_part_4 rfl (lv_at hl 1 rfl) ?_
  refine ro_V (As := [.int (t)]) (rest := []) (q0 := 4) (ci := 1) hx hb hml hown hts (c_X1_isThere l dC dI cI cL cZ a v t hv) (cwV 1 hts gX2_part_X1_isThere rfl rfl rfl (by decide +kernel) ⟨Nat.le_of_ble_eq_true rfl, Nat.le_of_ble_eq_true rfl⟩) hK hP rfl rfl rfl hl.1 rfl (Nat.le_of_ble_eq_true rfl) dX2_part_5 ⟨Nat.zero_le _, Nat.zero_le _⟩ ?_
  refine lv_if_ne (tgt := 21) hx hb dX2_part_8 (by decide) (fun c_1 => ?_) (fun c_1 => ?_)
  · skip
    have c_1 : (thB (sTh v) (sTn v) t) = true := bI_t c_1
    refine lv_iload_n hx hb dX2_part_21 rfl (lv_at hl 2 rfl) ?_
    refine lv_iload_n hx hb dX2_part_22 rfl (lv_at hl 3 rfl) ?_
    refine ro_S (As := [.int (x), .int (y)]) (rest := []) hx hb hml hown hts (c_X2_isPlace l dC dI  x y ) (va_cwS 2 hts gX2_part_X2_isPlace rfl rfl rfl (by decide +kernel) ⟨Nat.le_of_ble_eq_true rfl, Nat.le_of_ble_eq_true rfl⟩) (hK.sub [] rfl) (hP.sub [] rfl) rfl hl.1 rfl (Nat.le_of_ble_eq_true rfl) dX2_part_23 ⟨Nat.zero_le _, Nat.zero_le _⟩ ?_
    refine lv_if_eq (tgt := 39) hx hb dX2_part_26 (by decide) (fun c_2 => ?_) (fun c_2 => ?_)
    · skip
      have c_2 : (inB x 512 && inB y 512) = false := bI_f c_2
      exact xt_throw (ik := 42) (is := 103) (text := "not a place within the triangle") hx hb (hml.trans hl.1.symm) hst hown hts (Or.inl ⟨rfl, rfl⟩) (by decide +kernel) (by decide +kernel) atX2_part_46 hE (by decide +kernel) hex dX2_part_39 dX2_part_42 dX2_part_43 dX2_part_45 dX2_part_48 (Nat.le_of_ble_eq_true rfl) (Nat.le_of_ble_eq_true rfl) (Nat.le_of_ble_eq_true rfl) (Nat.le_of_ble_eq_true rfl) hlocks
    · skip
      have c_2 : (inB x 512 && inB y 512) = true := bI_t c_2
      exact absurd c_2 (by rw [hc]; decide)
  · skip
    have c_1 : (thB (sTh v) (sTn v) t) = false := bI_f c_1
    exact absurd c_1 (by rw [ht]; decide)
set_option maxHeartbeats 4000000 in
set_option maxRecDepth 100000 in
theorem c_X2_part_x2b (l : Launch) (hst : l.stackTraces = false) (dC : Nat → ClassId) (dI : Nat → Nat → Nat) (cI cL cZ : ClassId) (a : Nat → Nat) (v : SV) (t x y : Nat) (hv : okS v) (ht : t < 200) (hx9 : x < 512) (hy9 : y < 512) (hc : thB (sTh v) (sTn v) (nI t) = true) (hd : wit v.1 t (x : Int) (y : Int) = false) : vx_Met l yX2_part wsX2_part ({ frames := 6, cells := 1, slots := 6, locals := 82 }) (va_Pc [.ref (a 0), .int (nI (t)), .int (nI (x)), .int (nI (y))] (xt_B (dC, dI) vwCl (wS cI cL a v) (tyS cI cL cZ))) xt_N (xt_X "java/lang/IllegalArgumentException") 1 6 (fun _ => False) := by
  refine xt_Met (cc := cX2_part) (maxL := 8) (ret := (some .int)) (by decide) rfl (Nat.le_of_ble_eq_true rfl) ?_
  intro pr en s m below meth co ls hx hb hml hr hlocks hown hts hP hK hl hex hE
  have hl : lv_has ls 8 [(0, .ref (a 0)), (1, .int (nI (t))), (2, .int (nI (x))), (3, .int (nI (y)))] := hl
  have hown : s.vm.findClass RX2 = some m.cls := hown
  have hvp : sPn v ≤ 60 ∧ sTn v ≤ 60 ∧ sTm v ≤ 200 := ⟨hv.2.1, hv.2.2.2.1, hv.2.2.2.2.1⟩
  refine lv_aload_n hx hb dX2_part_0 rfl (lv_at hl 0 rfl) ?_
  refine va_get (D := (dC, dI)) (ci := 2) (v := .ref (a 4)) (C := RX2) (T := TX2) (N := 6) hx hb hts (by decide +kernel) hown hK hP 0 rfl rfl 1 (by decide) (hts (.fieldLink RX2 19 "TriangleSheet" "triangles" "LTriangleSheet$Triangles;") (by decide +kernel)) (fun _ h9 => h9) rfl dX2_part_1 ?_
  refine lv_iload_n hx hb dX2_part_4 rfl (lv_at hl 1 rfl) ?_
  refine ro_V (As := [.int (nI (t))]) (rest := []) (q0 := 4) (ci := 1) hx hb hml hown hts (c_X1_isThere l dC dI cI cL cZ a v (nI (t)) hv) (cwV 1 hts gX2_part_X1_isThere rfl rfl rfl (by decide +kernel) ⟨Nat.le_of_ble_eq_true rfl, Nat.le_of_ble_eq_true rfl⟩) hK hP rfl rfl rfl hl.1 rfl (Nat.le_of_ble_eq_true rfl) dX2_part_5 ⟨Nat.zero_le _, Nat.zero_le _⟩ ?_
  refine lv_if_ne (tgt := 21) hx hb dX2_part_8 (by decide) (fun c_1 => ?_) (fun c_1 => ?_)
  · skip
    have c_1 : (thB (sTh v) (sTn v) (nI (t))) = true := bI_t c_1
    refine lv_iload_n hx hb dX2_part_21 rfl (lv_at hl 2 rfl) ?_
    refine lv_iload_n hx hb dX2_part_22 rfl (lv_at hl 3 rfl) ?_
    refine ro_S (As := [.int (nI (x)), .int (nI (y))]) (rest := []) hx hb hml hown hts (c_X2_isPlace l dC dI  (nI (x)) (nI (y)) ) (va_cwS 2 hts gX2_part_X2_isPlace rfl rfl rfl (by decide +kernel) ⟨Nat.le_of_ble_eq_true rfl, Nat.le_of_ble_eq_true rfl⟩) (hK.sub [] rfl) (hP.sub [] rfl) rfl hl.1 rfl (Nat.le_of_ble_eq_true rfl) dX2_part_23 ⟨Nat.zero_le _, Nat.zero_le _⟩ ?_
    refine lv_if_eq (tgt := 39) hx hb dX2_part_26 (by decide) (fun c_2 => ?_) (fun c_2 => ?_)
    · skip
      have c_2 : (inB (nI (x)) 512 && inB (nI (y)) 512) = false := bI_f c_2
      exact absurd c_2 (by rw [inB_nI (by omega), inB_nI (by omega)]; simp; omega)
    · skip
      have c_2 : (inB (nI (x)) 512 && inB (nI (y)) 512) = true := bI_t c_2
      refine lv_aload_n hx hb dX2_part_29 rfl (lv_at hl 0 rfl) ?_
      refine lv_iload_n hx hb dX2_part_30 rfl (lv_at hl 1 rfl) ?_
      refine lv_iload_n hx hb dX2_part_31 rfl (lv_at hl 2 rfl) ?_
      refine lv_iload_n hx hb dX2_part_32 rfl (lv_at hl 3 rfl) ?_
      refine ro_V (As := [.int (nI (t)), .int (nI (x)), .int (nI (y))]) (rest := []) (q0 := 0) (ci := 2) hx hb hml hown hts (c_X2_isWithin l dC dI cI cL cZ a v t x y hv (by omega) (by omega) (by omega)) (cwV 3 hts gX2_part_X2_isWithin rfl rfl rfl (by decide +kernel) ⟨Nat.le_of_ble_eq_true rfl, Nat.le_of_ble_eq_true rfl⟩) hK hP rfl rfl rfl hl.1 rfl (Nat.le_of_ble_eq_true rfl) dX2_part_33 ⟨Nat.zero_le _, Nat.zero_le _⟩ ?_
      refine lv_if_ne (tgt := 49) hx hb dX2_part_36 (by decide) (fun c_3 => ?_) (fun c_3 => ?_)
      · skip
        have c_3 : (wit v.1 t (x : Int) (y : Int)) = true := bI_t c_3
        exact absurd c_3 (by rw [hd]; decide)
      · skip
        have c_3 : (wit v.1 t (x : Int) (y : Int)) = false := bI_f c_3
        exact xt_throw (ik := 42) (is := 103) (text := "not a place within the triangle") hx hb (hml.trans hl.1.symm) hst hown hts (Or.inl ⟨rfl, rfl⟩) (by decide +kernel) (by decide +kernel) atX2_part_46 hE (by decide +kernel) hex dX2_part_39 dX2_part_42 dX2_part_43 dX2_part_45 dX2_part_48 (Nat.le_of_ble_eq_true rfl) (Nat.le_of_ble_eq_true rfl) (Nat.le_of_ble_eq_true rfl) (Nat.le_of_ble_eq_true rfl) hlocks
  · skip
    have c_1 : (thB (sTh v) (sTn v) (nI (t))) = false := bI_f c_1
    exact absurd c_1 (by rw [hc]; decide)
set_option maxHeartbeats 4000000 in
set_option maxRecDepth 100000 in
theorem c_X2_part_x3 (l : Launch) (hst : l.stackTraces = false) (dC : Nat → ClassId) (dI : Nat → Nat → Nat) (cI cL cZ : ClassId) (a : Nat → Nat) (v : SV) (t x y : Nat) (hv : okS v) (ht : t < 200) (hx9 : x < 512) (hy9 : y < 512) (hc : thB (sTh v) (sTn v) (nI t) = true) (hd : wit v.1 t (x : Int) (y : Int) = true) (he : ¬ (pAt v.1 (sPn v) (nI x) (nI y) = none ∧ sPn v < 60 ∧ sTn v + 2 ≤ 60 ∧ sTm v + 2 ≤ 200)) : vx_Met l yX2_part wsX2_part ({ frames := 6, cells := 1, slots := 6, locals := 82 }) (va_Pc [.ref (a 0), .int (nI (t)), .int (nI (x)), .int (nI (y))] (xt_B (dC, dI) vwCl (wS cI cL a v) (tyS cI cL cZ))) xt_N (xt_X "java/lang/IllegalStateException") 1 6 (fun _ => False) := by
  refine xt_Met (cc := cX2_part) (maxL := 8) (ret := (some .int)) (by decide) rfl (Nat.le_of_ble_eq_true rfl) ?_
  intro pr en s m below meth co ls hx hb hml hr hlocks hown hts hP hK hl hex hE
  have hl : lv_has ls 8 [(0, .ref (a 0)), (1, .int (nI (t))), (2, .int (nI (x))), (3, .int (nI (y)))] := hl
  have hown : s.vm.findClass RX2 = some m.cls := hown
  have hvp : sPn v ≤ 60 ∧ sTn v ≤ 60 ∧ sTm v ≤ 200 := ⟨hv.2.1, hv.2.2.2.1, hv.2.2.2.2.1⟩
  refine lv_aload_n hx hb dX2_part_0 rfl (lv_at hl 0 rfl) ?_
  refine va_get (D := (dC, dI)) (ci := 2) (v := .ref (a 4)) (C := RX2) (T := TX2) (N := 6) hx hb hts (by decide +kernel) hown hK hP 0 rfl rfl 1 (by decide) (hts (.fieldLink RX2 19 "TriangleSheet" "triangles" "LTriangleSheet$Triangles;") (by decide +kernel)) (fun _ h9 => h9) rfl dX2_part_1 ?_
  refine lv_iload_n hx hb dX2_part_4 rfl (lv_at hl 1 rfl) ?_
  refine ro_V (As := [.int (nI (t))]) (rest := []) (q0 := 4) (ci := 1) hx hb hml hown hts (c_X1_isThere l dC dI cI cL cZ a v (nI (t)) hv) (cwV 1 hts gX2_part_X1_isThere rfl rfl rfl (by decide +kernel) ⟨Nat.le_of_ble_eq_true rfl, Nat.le_of_ble_eq_true rfl⟩) hK hP rfl rfl rfl hl.1 rfl (Nat.le_of_ble_eq_true rfl) dX2_part_5 ⟨Nat.zero_le _, Nat.zero_le _⟩ ?_
  refine lv_if_ne (tgt := 21) hx hb dX2_part_8 (by decide) (fun c_1 => ?_) (fun c_1 => ?_)
  · skip
    have c_1 : (thB (sTh v) (sTn v) (nI (t))) = true := bI_t c_1
    refine lv_iload_n hx hb dX2_part_21 rfl (lv_at hl 2 rfl) ?_
    refine lv_iload_n hx hb dX2_part_22 rfl (lv_at hl 3 rfl) ?_
    refine ro_S (As := [.int (nI (x)), .int (nI (y))]) (rest := []) hx hb hml hown hts (c_X2_isPlace l dC dI  (nI (x)) (nI (y)) ) (va_cwS 2 hts gX2_part_X2_isPlace rfl rfl rfl (by decide +kernel) ⟨Nat.le_of_ble_eq_true rfl, Nat.le_of_ble_eq_true rfl⟩) (hK.sub [] rfl) (hP.sub [] rfl) rfl hl.1 rfl (Nat.le_of_ble_eq_true rfl) dX2_part_23 ⟨Nat.zero_le _, Nat.zero_le _⟩ ?_
    refine lv_if_eq (tgt := 39) hx hb dX2_part_26 (by decide) (fun c_2 => ?_) (fun c_2 => ?_)
    · skip
      have c_2 : (inB (nI (x)) 512 && inB (nI (y)) 512) = false := bI_f c_2
      exact absurd c_2 (by rw [inB_nI (by omega), inB_nI (by omega)]; simp; omega)
    · skip
      have c_2 : (inB (nI (x)) 512 && inB (nI (y)) 512) = true := bI_t c_2
      refine lv_aload_n hx hb dX2_part_29 rfl (lv_at hl 0 rfl) ?_
      refine lv_iload_n hx hb dX2_part_30 rfl (lv_at hl 1 rfl) ?_
      refine lv_iload_n hx hb dX2_part_31 rfl (lv_at hl 2 rfl) ?_
      refine lv_iload_n hx hb dX2_part_32 rfl (lv_at hl 3 rfl) ?_
      refine ro_V (As := [.int (nI (t)), .int (nI (x)), .int (nI (y))]) (rest := []) (q0 := 0) (ci := 2) hx hb hml hown hts (c_X2_isWithin l dC dI cI cL cZ a v t x y hv (by omega) (by omega) (by omega)) (cwV 3 hts gX2_part_X2_isWithin rfl rfl rfl (by decide +kernel) ⟨Nat.le_of_ble_eq_true rfl, Nat.le_of_ble_eq_true rfl⟩) hK hP rfl rfl rfl hl.1 rfl (Nat.le_of_ble_eq_true rfl) dX2_part_33 ⟨Nat.zero_le _, Nat.zero_le _⟩ ?_
      refine lv_if_ne (tgt := 49) hx hb dX2_part_36 (by decide) (fun c_3 => ?_) (fun c_3 => ?_)
      · skip
        have c_3 : (wit v.1 t (x : Int) (y : Int)) = true := bI_t c_3
        refine lv_aload_n hx hb dX2_part_49 rfl (lv_at hl 0 rfl) ?_
        refine va_get (D := (dC, dI)) (ci := 2) (v := .ref (a 1)) (C := RX2) (T := TX2) (N := 6) hx hb hts (by decide +kernel) hown hK hP 0 rfl rfl 0 (by decide) (hts (.fieldLink RX2 10 "TriangleSheet" "points" "LTriangleSheet$Points;") (by decide +kernel)) (fun _ h9 => h9) rfl dX2_part_50 ?_
        refine lv_iload_n hx hb dX2_part_53 rfl (lv_at hl 2 rfl) ?_
        refine lv_iload_n hx hb dX2_part_54 rfl (lv_at hl 3 rfl) ?_
        refine ro_V (As := [.int (nI (x)), .int (nI (y))]) (rest := []) (q0 := 1) (ci := 0) hx hb hml hown hts (c_X0_canAdd l dC dI cI cL cZ a v (nI (x)) (nI (y)) hv) (cwV 2 hts gX2_part_X0_canAdd rfl rfl rfl (by decide +kernel) ⟨Nat.le_of_ble_eq_true rfl, Nat.le_of_ble_eq_true rfl⟩) hK hP rfl rfl rfl hl.1 rfl (Nat.le_of_ble_eq_true rfl) dX2_part_55 ⟨Nat.zero_le _, Nat.zero_le _⟩ ?_
        refine lv_if_eq (tgt := 72) hx hb dX2_part_58 (by decide) (fun c_4 => ?_) (fun c_4 => ?_)
        · skip
          have c_4 : (decide (sPn v < 60) && decide (pAt v.1 (sPn v) (nI (x)) (nI (y)) = none)) = false := bI_f c_4
          exact xt_throw (ik := 52) (is := 105) (text := "a point is there, or no more can be") hx hb (hml.trans hl.1.symm) hst hown hts (Or.inr (Or.inl ⟨rfl, rfl⟩)) (by decide +kernel) (by decide +kernel) atX2_part_56 hE (by decide +kernel) hex dX2_part_72 dX2_part_75 dX2_part_76 dX2_part_78 dX2_part_81 (Nat.le_of_ble_eq_true rfl) (Nat.le_of_ble_eq_true rfl) (Nat.le_of_ble_eq_true rfl) (Nat.le_of_ble_eq_true rfl) hlocks
        · skip
          have c_4 : (decide (sPn v < 60) && decide (pAt v.1 (sPn v) (nI (x)) (nI (y)) = none)) = true := bI_t c_4
          have cq := c_4
          simp only [Bool.and_eq_true, decide_eq_true_eq] at cq
          refine lv_aload_n hx hb dX2_part_61 rfl (lv_at hl 0 rfl) ?_
          refine va_get (D := (dC, dI)) (ci := 2) (v := .ref (a 4)) (C := RX2) (T := TX2) (N := 6) hx hb hts (by decide +kernel) hown hK hP 0 rfl rfl 1 (by decide) (hts (.fieldLink RX2 19 "TriangleSheet" "triangles" "LTriangleSheet$Triangles;") (by decide +kernel)) (fun _ h9 => h9) rfl dX2_part_62 ?_
          refine lv_iconst (v := nI (2)) hx hb dX2_part_65 (by decide) ?_
          refine ro_V (As := [.int (nI (2))]) (rest := []) (q0 := 4) (ci := 1) hx hb hml hown hts (c_X1_canAdd l dC dI cI cL cZ a v 2 hv (by omega)) (cwV 1 hts gX2_part_X1_canAdd rfl rfl rfl (by decide +kernel) ⟨Nat.le_of_ble_eq_true rfl, Nat.le_of_ble_eq_true rfl⟩) hK hP rfl rfl rfl hl.1 rfl (Nat.le_of_ble_eq_true rfl) dX2_part_66 ⟨Nat.zero_le _, Nat.zero_le _⟩ ?_
          refine lv_if_ne (tgt := 82) hx hb dX2_part_69 (by decide) (fun c_5 => ?_) (fun c_5 => ?_)
          · skip
            have c_5 : (decide (sTn v + 2 ≤ 60) && decide (sTm v + 2 ≤ 200)) = true := bI_t c_5
            have q1 := c_5
            simp only [Bool.and_eq_true, decide_eq_true_eq] at q1
            exact absurd ⟨cq.2, cq.1, q1⟩ he
          · skip
            have c_5 : (decide (sTn v + 2 ≤ 60) && decide (sTm v + 2 ≤ 200)) = false := bI_f c_5
            exact xt_throw (ik := 52) (is := 105) (text := "a point is there, or no more can be") hx hb (hml.trans hl.1.symm) hst hown hts (Or.inr (Or.inl ⟨rfl, rfl⟩)) (by decide +kernel) (by decide +kernel) atX2_part_56 hE (by decide +kernel) hex dX2_part_72 dX2_part_75 dX2_part_76 dX2_part_78 dX2_part_81 (Nat.le_of_ble_eq_true rfl) (Nat.le_of_ble_eq_true rfl) (Nat.le_of_ble_eq_true rfl) (Nat.le_of_ble_eq_true rfl) hlocks
      · skip
        have c_3 : (wit v.1 t (x : Int) (y : Int)) = false := bI_f c_3
        exact absurd c_3 (by rw [hd]; decide)
  · skip
    have c_1 : (thB (sTh v) (sTn v) (nI (t))) = false := bI_f c_1
    exact absurd c_1 (by rw [hc]; decide)
set_option maxHeartbeats 4000000 in
set_option maxRecDepth 100000 in
theorem c_X2_turn_x1 (l : Launch) (hst : l.stackTraces = false) (dC : Nat → ClassId) (dI : Nat → Nat → Nat) (cI cL cZ : ClassId) (a : Nat → Nat) (v : SV) (t j : Int32) (hv : okS v) (hc : (inB j 3 && thB (sTh v) (sTn v) t) = false) : vx_Met l yX2_turn wsX2_turn ({ frames := 6, cells := 1, slots := 6, locals := 82 }) (va_Pc [.ref (a 0), .int (t), .int (j)] (xt_B (dC, dI) vwCl (wS cI cL a v) (tyS cI cL cZ))) xt_N (xt_X "java/lang/IndexOutOfBoundsException") 1 6 (fun _ => False) := by
  refine xt_Met (cc := cX2_turn) (maxL := 3) (ret := (some .boolean)) (by decide) rfl (Nat.le_of_ble_eq_true rfl) ?_
  intro pr en s m below meth co ls hx hb hml hr hlocks hown hts hP hK hl hex hE
  have hl : lv_has ls 3 [(0, .ref (a 0)), (1, .int (t)), (2, .int (j))] := hl
  have hown : s.vm.findClass RX2 = some m.cls := hown
  have hvp : sPn v ≤ 60 ∧ sTn v ≤ 60 ∧ sTm v ≤ 200 := ⟨hv.2.1, hv.2.2.2.1, hv.2.2.2.2.1⟩
  refine lv_aload_n hx hb dX2_turn_0 rfl (lv_at hl 0 rfl) ?_
  refine lv_iload_n hx hb dX2_turn_1 rfl (lv_at hl 1 rfl) ?_
  refine lv_iload_n hx hb dX2_turn_2 rfl (lv_at hl 2 rfl) ?_
  refine ro_V (As := [.int (t), .int (j)]) (rest := []) (q0 := 0) (ci := 2) hx hb hml hown hts (c_X2_isEdge l dC dI cI cL cZ a v t j hv) (cwV 2 hts gX2_turn_X2_isEdge rfl rfl rfl (by decide +kernel) ⟨Nat.le_of_ble_eq_true rfl, Nat.le_of_ble_eq_true rfl⟩) hK hP rfl rfl rfl hl.1 rfl (Nat.le_of_ble_eq_true rfl) dX2_turn_3 ⟨Nat.zero_le _, Nat.zero_le _⟩ ?_
  refine lv_if_ne (tgt := 19) hx hb dX2_turn_6 (by decide) (fun c_1 => ?_) (fun c_1 => ?_)
  · skip
    have c_1 : (inB j 3 && thB (sTh v) (sTn v) t) = true := bI_t c_1
    exact absurd c_1 (by rw [hc]; decide)
  · skip
    have c_1 : (inB j 3 && thB (sTh v) (sTn v) t) = false := bI_f c_1
    exact xt_throw (ik := 65) (is := 116) (text := "no such edge") hx hb (hml.trans hl.1.symm) hst hown hts (Or.inr (Or.inr ⟨rfl, rfl⟩)) (by decide +kernel) (by decide +kernel) atX2_turn_69 hE (by decide +kernel) hex dX2_turn_9 dX2_turn_12 dX2_turn_13 dX2_turn_15 dX2_turn_18 (Nat.le_of_ble_eq_true rfl) (Nat.le_of_ble_eq_true rfl) (Nat.le_of_ble_eq_true rfl) (Nat.le_of_ble_eq_true rfl) hlocks
set_option maxHeartbeats 4000000 in
set_option maxRecDepth 100000 in
theorem c_X2_improve_x1 (l : Launch) (hst : l.stackTraces = false) (dC : Nat → ClassId) (dI : Nat → Nat → Nat) (cI cL cZ : ClassId) (a : Nat → Nat) (v : SV) (x : Int32) (hv : okS v) (hc : inB x 501 = false) : vx_Met l yX2_improve wsX2_improve ({ frames := 6, cells := 1, slots := 6, locals := 82 }) (va_Pc [.ref (a 0), .int (x)] (xt_B (dC, dI) vwCl (wS cI cL a v) (tyS cI cL cZ))) xt_N (xt_X "java/lang/IllegalArgumentException") 1 6 (fun _ => False) := by
  refine xt_Met (cc := cX2_improve) (maxL := 3) (ret := (some .int)) (by decide) rfl (Nat.le_of_ble_eq_true rfl) ?_
  intro pr en s m below meth co ls hx hb hml hr hlocks hown hts hP hK hl hex hE
  have hl : lv_has ls 3 [(0, .ref (a 0)), (1, .int (x))] := hl
  have hown : s.vm.findClass RX2 = some m.cls := hown
  have hvp : sPn v ≤ 60 ∧ sTn v ≤ 60 ∧ sTm v ≤ 200 := ⟨hv.2.1, hv.2.2.2.1, hv.2.2.2.2.1⟩
  refine lv_iload_n hx hb dX2_improve_0 rfl (lv_at hl 1 rfl) ?_
  refine lv_if_lt (tgt := 11) hx hb dX2_improve_1 (by decide) (fun c_1 => ?_) (fun c_1 => ?_)
  · skip
    exact xt_throw (ik := 42) (is := 121) (text := "not 0 to 500 times") hx hb (hml.trans hl.1.symm) hst hown hts (Or.inl ⟨rfl, rfl⟩) (by decide +kernel) (by decide +kernel) atX2_improve_46 hE (by decide +kernel) hex dX2_improve_11 dX2_improve_14 dX2_improve_15 dX2_improve_17 dX2_improve_20 (Nat.le_of_ble_eq_true rfl) (Nat.le_of_ble_eq_true rfl) (Nat.le_of_ble_eq_true rfl) (Nat.le_of_ble_eq_true rfl) hlocks
  · skip
    refine lv_iload_n hx hb dX2_improve_4 rfl (lv_at hl 1 rfl) ?_
    refine lv_sipush (v := nI (500)) hx hb dX2_improve_5 (by decide) ?_
    refine lv_icmp_le (tgt := 21) hx hb dX2_improve_8 (by decide) (fun c_2 => ?_) (fun c_2 => ?_)
    · skip
      exact absurd hc (by rw [inB_in (by decide) (by assumption) (by intro h9; rw [Int32.le_iff_toInt_le] at *; rw [nI_toInt (by decide)] at *; omega)]; decide)
    · skip
      exact xt_throw (ik := 42) (is := 121) (text := "not 0 to 500 times") hx hb (hml.trans hl.1.symm) hst hown hts (Or.inl ⟨rfl, rfl⟩) (by decide +kernel) (by decide +kernel) atX2_improve_46 hE (by decide +kernel) hex dX2_improve_11 dX2_improve_14 dX2_improve_15 dX2_improve_17 dX2_improve_20 (Nat.le_of_ble_eq_true rfl) (Nat.le_of_ble_eq_true rfl) (Nat.le_of_ble_eq_true rfl) (Nat.le_of_ble_eq_true rfl) hlocks
