set_option maxHeartbeats 4000000 in
set_option maxRecDepth 100000 in
theorem c_X2_isPlace (l : Launch) (dC : Nat → ClassId) (dI : Nat → Nat → Nat)  (x y : Int32)  : Met l yX2_isPlace wsX2_isPlace ({ frames := 0, cells := 0, slots := 0, locals := 0 }) (va_Pc [.int (x), .int (y)] (ro_B (dC, dI) vwCl [] [])) (k2_QcV (.int (bI (inB x 512 && inB y 512)))) 0 0 (fun _ => False) := by
  refine ro_Met (cc := cX2_isPlace) (maxL := 2) (ret := (some .boolean)) (by decide) rfl (Nat.le_of_ble_eq_true rfl) ?_
  intro pr en s m below meth co ls hx hb hml hr hlocks hown hts hP hK hl
  have hl : lv_has ls 2 [(0, .int (x)), (1, .int (y))] := hl
  have hown : s.vm.findClass RX2 = some m.cls := hown
  refine lv_iload_n hx hb dX2_isPlace_0 rfl (lv_at hl 0 rfl) ?_
  refine lv_if_lt (tgt := 26) hx hb dX2_isPlace_1 (by decide) (fun c_1 => ?_) (fun c_1 => ?_)
  · skip
    refine lv_iconst (v := nI (0)) hx hb dX2_isPlace_26 (by decide) ?_
    exact ro_zret hx hb hr (by decide) (rb_0 (by first | (rw [inB_neg (p := x) (by assumption)]; simp; done) | (rw [inB_big (p := x) (by omega) (by assumption)]; simp; done) | (rw [inB_neg (p := y) (by assumption)]; simp; done) | (rw [inB_big (p := y) (by omega) (by assumption)]; simp; done))) dX2_isPlace_27 hlocks
  · skip
    refine lv_iload_n hx hb dX2_isPlace_4 rfl (lv_at hl 0 rfl) ?_
    refine lv_sipush (v := nI (512)) hx hb dX2_isPlace_5 (by decide) ?_
    refine lv_icmp_ge (tgt := 26) hx hb dX2_isPlace_8 (by decide) (fun c_2 => ?_) (fun c_2 => ?_)
    · skip
      refine lv_iconst (v := nI (0)) hx hb dX2_isPlace_26 (by decide) ?_
      exact ro_zret hx hb hr (by decide) (rb_0 (by first | (rw [inB_neg (p := x) (by assumption)]; simp; done) | (rw [inB_big (p := x) (by omega) (by assumption)]; simp; done) | (rw [inB_neg (p := y) (by assumption)]; simp; done) | (rw [inB_big (p := y) (by omega) (by assumption)]; simp; done))) dX2_isPlace_27 hlocks
    · skip
      refine lv_iload_n hx hb dX2_isPlace_11 rfl (lv_at hl 1 rfl) ?_
      refine lv_if_lt (tgt := 26) hx hb dX2_isPlace_12 (by decide) (fun c_3 => ?_) (fun c_3 => ?_)
      · skip
        refine lv_iconst (v := nI (0)) hx hb dX2_isPlace_26 (by decide) ?_
        exact ro_zret hx hb hr (by decide) (rb_0 (by first | (rw [inB_neg (p := x) (by assumption)]; simp; done) | (rw [inB_big (p := x) (by omega) (by assumption)]; simp; done) | (rw [inB_neg (p := y) (by assumption)]; simp; done) | (rw [inB_big (p := y) (by omega) (by assumption)]; simp; done))) dX2_isPlace_27 hlocks
      · skip
        refine lv_iload_n hx hb dX2_isPlace_15 rfl (lv_at hl 1 rfl) ?_
        refine lv_sipush (v := nI (512)) hx hb dX2_isPlace_16 (by decide) ?_
        refine lv_icmp_ge (tgt := 26) hx hb dX2_isPlace_19 (by decide) (fun c_4 => ?_) (fun c_4 => ?_)
        · skip
          refine lv_iconst (v := nI (0)) hx hb dX2_isPlace_26 (by decide) ?_
          exact ro_zret hx hb hr (by decide) (rb_0 (by first | (rw [inB_neg (p := x) (by assumption)]; simp; done) | (rw [inB_big (p := x) (by omega) (by assumption)]; simp; done) | (rw [inB_neg (p := y) (by assumption)]; simp; done) | (rw [inB_big (p := y) (by omega) (by assumption)]; simp; done))) dX2_isPlace_27 hlocks
        · skip
          refine lv_iconst (v := nI (1)) hx hb dX2_isPlace_22 (by decide) ?_
          refine lv_goto (tgt := 27) hx hb dX2_isPlace_23 (by decide) ?_
          exact ro_zret hx hb hr (by decide) (rb_1 (by rw [inB_in (by omega) c_1 c_2, inB_in (by omega) c_3 c_4]; rfl)) dX2_isPlace_27 hlocks
set_option maxHeartbeats 4000000 in
set_option maxRecDepth 100000 in
theorem c_X2_isPixel (l : Launch) (dC : Nat → ClassId) (dI : Nat → Nat → Nat)  (x y : Int32)  : Met l yX2_isPixel wsX2_isPixel ({ frames := 0, cells := 0, slots := 0, locals := 0 }) (va_Pc [.int (x), .int (y)] (ro_B (dC, dI) vwCl [] [])) (k2_QcV (.int (bI (inB x 32 && inB y 32)))) 0 0 (fun _ => False) := by
  refine ro_Met (cc := cX2_isPixel) (maxL := 2) (ret := (some .boolean)) (by decide) rfl (Nat.le_of_ble_eq_true rfl) ?_
  intro pr en s m below meth co ls hx hb hml hr hlocks hown hts hP hK hl
  have hl : lv_has ls 2 [(0, .int (x)), (1, .int (y))] := hl
  have hown : s.vm.findClass RX2 = some m.cls := hown
  refine lv_iload_n hx hb dX2_isPixel_0 rfl (lv_at hl 0 rfl) ?_
  refine lv_if_lt (tgt := 24) hx hb dX2_isPixel_1 (by decide) (fun c_1 => ?_) (fun c_1 => ?_)
  · skip
    refine lv_iconst (v := nI (0)) hx hb dX2_isPixel_24 (by decide) ?_
    exact ro_zret hx hb hr (by decide) (rb_0 (by first | (rw [inB_neg (p := x) (by assumption)]; simp; done) | (rw [inB_big (p := x) (by omega) (by assumption)]; simp; done) | (rw [inB_neg (p := y) (by assumption)]; simp; done) | (rw [inB_big (p := y) (by omega) (by assumption)]; simp; done))) dX2_isPixel_25 hlocks
  · skip
    refine lv_iload_n hx hb dX2_isPixel_4 rfl (lv_at hl 0 rfl) ?_
    refine lv_bipush (v := nI (32)) hx hb dX2_isPixel_5 (by decide) ?_
    refine lv_icmp_ge (tgt := 24) hx hb dX2_isPixel_7 (by decide) (fun c_2 => ?_) (fun c_2 => ?_)
    · skip
      refine lv_iconst (v := nI (0)) hx hb dX2_isPixel_24 (by decide) ?_
      exact ro_zret hx hb hr (by decide) (rb_0 (by first | (rw [inB_neg (p := x) (by assumption)]; simp; done) | (rw [inB_big (p := x) (by omega) (by assumption)]; simp; done) | (rw [inB_neg (p := y) (by assumption)]; simp; done) | (rw [inB_big (p := y) (by omega) (by assumption)]; simp; done))) dX2_isPixel_25 hlocks
    · skip
      refine lv_iload_n hx hb dX2_isPixel_10 rfl (lv_at hl 1 rfl) ?_
      refine lv_if_lt (tgt := 24) hx hb dX2_isPixel_11 (by decide) (fun c_3 => ?_) (fun c_3 => ?_)
      · skip
        refine lv_iconst (v := nI (0)) hx hb dX2_isPixel_24 (by decide) ?_
        exact ro_zret hx hb hr (by decide) (rb_0 (by first | (rw [inB_neg (p := x) (by assumption)]; simp; done) | (rw [inB_big (p := x) (by omega) (by assumption)]; simp; done) | (rw [inB_neg (p := y) (by assumption)]; simp; done) | (rw [inB_big (p := y) (by omega) (by assumption)]; simp; done))) dX2_isPixel_25 hlocks
      · skip
        refine lv_iload_n hx hb dX2_isPixel_14 rfl (lv_at hl 1 rfl) ?_
        refine lv_bipush (v := nI (32)) hx hb dX2_isPixel_15 (by decide) ?_
        refine lv_icmp_ge (tgt := 24) hx hb dX2_isPixel_17 (by decide) (fun c_4 => ?_) (fun c_4 => ?_)
        · skip
          refine lv_iconst (v := nI (0)) hx hb dX2_isPixel_24 (by decide) ?_
          exact ro_zret hx hb hr (by decide) (rb_0 (by first | (rw [inB_neg (p := x) (by assumption)]; simp; done) | (rw [inB_big (p := x) (by omega) (by assumption)]; simp; done) | (rw [inB_neg (p := y) (by assumption)]; simp; done) | (rw [inB_big (p := y) (by omega) (by assumption)]; simp; done))) dX2_isPixel_25 hlocks
        · skip
          refine lv_iconst (v := nI (1)) hx hb dX2_isPixel_20 (by decide) ?_
          refine lv_goto (tgt := 25) hx hb dX2_isPixel_21 (by decide) ?_
          exact ro_zret hx hb hr (by decide) (rb_1 (by rw [inB_in (by omega) c_1 c_2, inB_in (by omega) c_3 c_4]; rfl)) dX2_isPixel_25 hlocks
set_option maxHeartbeats 4000000 in
set_option maxRecDepth 100000 in
theorem c_X2_sampleOf (l : Launch) (dC : Nat → ClassId) (dI : Nat → Nat → Nat)  (i : Nat)  : Met l yX2_sampleOf wsX2_sampleOf ({ frames := 0, cells := 0, slots := 0, locals := 0 }) (va_Pc [.int (nI (i))] (ro_B (dC, dI) vwCl [] [])) (k2_QcV (.int (nI (16 * i + 8)))) 0 0 (fun _ => False) := by
  refine ro_Met (cc := cX2_sampleOf) (maxL := 1) (ret := (some .int)) (by decide) rfl (Nat.le_of_ble_eq_true rfl) ?_
  intro pr en s m below meth co ls hx hb hml hr hlocks hown hts hP hK hl
  have hl : lv_has ls 1 [(0, .int (nI (i)))] := hl
  have hown : s.vm.findClass RX2 = some m.cls := hown
  refine lv_bipush (v := nI (16)) hx hb dX2_sampleOf_0 (by decide) ?_
  refine lv_iload_n hx hb dX2_sampleOf_2 rfl (lv_at hl 0 rfl) ?_
  refine lv_imul hx hb dX2_sampleOf_3 ?_
  refine rt_i (y := (nI ((16) * (i)))) (nn_mul (16) (i)) ?_
  refine lv_bipush (v := nI (8)) hx hb dX2_sampleOf_4 (by decide) ?_
  refine lv_iadd hx hb dX2_sampleOf_6 ?_
  refine rt_i (y := (nI ((16) * (i) + 8))) (nn_add ((16) * (i)) (8)) ?_
  exact ro_iret hx hb hr rfl dX2_sampleOf_7 hlocks
set_option maxHeartbeats 4000000 in
set_option maxRecDepth 100000 in
theorem c_X2_isEdge (l : Launch) (dC : Nat → ClassId) (dI : Nat → Nat → Nat) (cI cL cZ : ClassId) (a : Nat → Nat) (v : SV) (t j : Int32) (hv : okS v) : Met l yX2_isEdge wsX2_isEdge ({ frames := 1, cells := 0, slots := 0, locals := 22 }) (va_Pc [.ref (a 0), .int (t), .int (j)] (ro_B (dC, dI) vwCl (wS cI cL a v) (tyS cI cL cZ))) (k2_QcV (.int (bI (inB j 3 && thB (sTh v) (sTn v) t)))) 0 0 (fun _ => False) := by
  refine ro_Met (cc := cX2_isEdge) (maxL := 3) (ret := (some .boolean)) (by decide) rfl (Nat.le_of_ble_eq_true rfl) ?_
  intro pr en s m below meth co ls hx hb hml hr hlocks hown hts hP hK hl
  have hl : lv_has ls 3 [(0, .ref (a 0)), (1, .int (t)), (2, .int (j))] := hl
  have hown : s.vm.findClass RX2 = some m.cls := hown
  have hvp : sPn v ≤ 60 ∧ sTn v ≤ 60 ∧ sTm v ≤ 200 := ⟨hv.2.1, hv.2.2.2.1, hv.2.2.2.2.1⟩
  refine lv_iload_n hx hb dX2_isEdge_0 rfl (lv_at hl 2 rfl) ?_
  refine lv_if_lt (tgt := 24) hx hb dX2_isEdge_1 (by decide) (fun c_1 => ?_) (fun c_1 => ?_)
  · skip
    refine lv_iconst (v := nI (0)) hx hb dX2_isEdge_24 (by decide) ?_
    exact ro_zret hx hb hr (by decide) (rb_0 (by first | (rw [inB_neg (by assumption)]; rfl) | (rw [inB_big (by omega) (by assumption)]; rfl) | (simp [c_3]; done))) dX2_isEdge_25 hlocks
  · skip
    refine lv_iload_n hx hb dX2_isEdge_4 rfl (lv_at hl 2 rfl) ?_
    refine lv_iconst (v := nI (3)) hx hb dX2_isEdge_5 (by decide) ?_
    refine lv_icmp_ge (tgt := 24) hx hb dX2_isEdge_6 (by decide) (fun c_2 => ?_) (fun c_2 => ?_)
    · skip
      refine lv_iconst (v := nI (0)) hx hb dX2_isEdge_24 (by decide) ?_
      exact ro_zret hx hb hr (by decide) (rb_0 (by first | (rw [inB_neg (by assumption)]; rfl) | (rw [inB_big (by omega) (by assumption)]; rfl) | (simp [c_3]; done))) dX2_isEdge_25 hlocks
    · skip
      refine lv_aload_n hx hb dX2_isEdge_9 rfl (lv_at hl 0 rfl) ?_
      refine va_get (D := (dC, dI)) (ci := 2) (v := .ref (a 4)) (C := RX2) (T := TX2) (N := 6) hx hb hts (by decide +kernel) hown hK hP 0 rfl rfl 1 (by decide) (hts (.fieldLink RX2 19 "TriangleSheet" "triangles" "LTriangleSheet$Triangles;") (by decide +kernel)) (fun _ h9 => h9) rfl dX2_isEdge_10 ?_
      refine lv_iload_n hx hb dX2_isEdge_13 rfl (lv_at hl 1 rfl) ?_
      refine ro_V (As := [.int (t)]) (rest := []) (q0 := 4) (ci := 1) hx hb hml hown hts (c_X1_isThere l dC dI cI cL cZ a v t hv) (cwV 1 hts gX2_isEdge_X1_isThere rfl rfl rfl (by decide +kernel) ⟨Nat.le_of_ble_eq_true rfl, Nat.le_of_ble_eq_true rfl⟩) hK hP rfl rfl rfl hl.1 rfl (Nat.le_of_ble_eq_true rfl) dX2_isEdge_14 ⟨Nat.zero_le _, Nat.zero_le _⟩ ?_
      refine lv_if_eq (tgt := 24) hx hb dX2_isEdge_17 (by decide) (fun c_3 => ?_) (fun c_3 => ?_)
      · skip
        have c_3 : (thB (sTh v) (sTn v) t) = false := bI_f c_3
        refine lv_iconst (v := nI (0)) hx hb dX2_isEdge_24 (by decide) ?_
        exact ro_zret hx hb hr (by decide) (rb_0 (by first | (rw [inB_neg (by assumption)]; rfl) | (rw [inB_big (by omega) (by assumption)]; rfl) | (simp [c_3]; done))) dX2_isEdge_25 hlocks
      · skip
        have c_3 : (thB (sTh v) (sTn v) t) = true := bI_t c_3
        refine lv_iconst (v := nI (1)) hx hb dX2_isEdge_20 (by decide) ?_
        refine lv_goto (tgt := 25) hx hb dX2_isEdge_21 (by decide) ?_
        exact ro_zret hx hb hr (by decide) (rb_1 (by rw [inB_in (by omega) c_1 c_2]; simp [c_3])) dX2_isEdge_25 hlocks
set_option maxHeartbeats 4000000 in
set_option maxRecDepth 100000 in
theorem c_X2_turnOf (l : Launch) (dC : Nat → ClassId) (dI : Nat → Nat → Nat) (cI cL cZ : ClassId) (a : Nat → Nat) (v : SV) (t : Nat) (hv : okS v) (ht : t < 200) : Met l yX2_turnOf wsX2_turnOf ({ frames := 2, cells := 0, slots := 0, locals := 47 }) (va_Pc [.ref (a 0), .int (nI (t))] (ro_B (dC, dI) vwCl (wS cI cL a v) (tyS cI cL cZ))) (k2_QcV (.int (iI (twi v.1 t)))) 0 0 (fun _ => False) := by
  refine ro_Met (cc := cX2_turnOf) (maxL := 2) (ret := (some .int)) (by decide) rfl (Nat.le_of_ble_eq_true rfl) ?_
  intro pr en s m below meth co ls hx hb hml hr hlocks hown hts hP hK hl
  have hl : lv_has ls 2 [(0, .ref (a 0)), (1, .int (nI (t)))] := hl
  have hown : s.vm.findClass RX2 = some m.cls := hown
  have hvp : sPn v ≤ 60 ∧ sTn v ≤ 60 ∧ sTm v ≤ 200 := ⟨hv.2.1, hv.2.2.2.1, hv.2.2.2.2.1⟩
  have hg0 := gc_lt hv.1 (t := t) (k := 0)
  have hg1 := gc_lt hv.1 (t := t) (k := 1)
  have hg2 := gc_lt hv.1 (t := t) (k := 2)
  refine lv_aload_n hx hb dX2_turnOf_0 rfl (lv_at hl 0 rfl) ?_
  refine va_get (D := (dC, dI)) (ci := 2) (v := .ref (a 1)) (C := RX2) (T := TX2) (N := 6) hx hb hts (by decide +kernel) hown hK hP 0 rfl rfl 0 (by decide) (hts (.fieldLink RX2 10 "TriangleSheet" "points" "LTriangleSheet$Points;") (by decide +kernel)) (fun _ h9 => h9) rfl dX2_turnOf_1 ?_
  refine lv_aload_n hx hb dX2_turnOf_4 rfl (lv_at hl 0 rfl) ?_
  refine va_get (D := (dC, dI)) (ci := 2) (v := .ref (a 4)) (C := RX2) (T := TX2) (N := 6) hx hb hts (by decide +kernel) hown hK hP 0 rfl rfl 1 (by decide) (hts (.fieldLink RX2 19 "TriangleSheet" "triangles" "LTriangleSheet$Triangles;") (by decide +kernel)) (fun _ h9 => h9) rfl dX2_turnOf_5 ?_
  refine lv_iload_n hx hb dX2_turnOf_8 rfl (lv_at hl 1 rfl) ?_
  refine lv_iconst (v := nI (0)) hx hb dX2_turnOf_9 (by decide) ?_
  refine ro_V (As := [.int (nI (t)), .int (nI (0))]) (rest := [.ref (a 1)]) (q0 := 4) (ci := 1) hx hb hml hown hts (c_X1_cornerOf l dC dI cI cL cZ a v t 0 (by omega) (by omega)) (cwV 2 hts gX2_turnOf_X1_cornerOf rfl rfl rfl (by decide +kernel) ⟨Nat.le_of_ble_eq_true rfl, Nat.le_of_ble_eq_true rfl⟩) hK hP rfl rfl rfl hl.1 rfl (Nat.le_of_ble_eq_true rfl) dX2_turnOf_10 ⟨Nat.zero_le _, Nat.zero_le _⟩ ?_
  refine lv_aload_n hx hb dX2_turnOf_13 rfl (lv_at hl 0 rfl) ?_
  refine va_get (D := (dC, dI)) (ci := 2) (v := .ref (a 4)) (C := RX2) (T := TX2) (N := 6) hx hb hts (by decide +kernel) hown hK hP 0 rfl rfl 1 (by decide) (hts (.fieldLink RX2 19 "TriangleSheet" "triangles" "LTriangleSheet$Triangles;") (by decide +kernel)) (fun _ h9 => h9) rfl dX2_turnOf_14 ?_
  refine lv_iload_n hx hb dX2_turnOf_17 rfl (lv_at hl 1 rfl) ?_
  refine lv_iconst (v := nI (1)) hx hb dX2_turnOf_18 (by decide) ?_
  refine ro_V (As := [.int (nI (t)), .int (nI (1))]) (rest := [.int (nI (gc v.1 t 0)), .ref (a 1)]) (q0 := 4) (ci := 1) hx hb hml hown hts (c_X1_cornerOf l dC dI cI cL cZ a v t 1 (by omega) (by omega)) (cwV 2 hts gX2_turnOf_X1_cornerOf rfl rfl rfl (by decide +kernel) ⟨Nat.le_of_ble_eq_true rfl, Nat.le_of_ble_eq_true rfl⟩) hK hP rfl rfl rfl hl.1 rfl (Nat.le_of_ble_eq_true rfl) dX2_turnOf_19 ⟨Nat.zero_le _, Nat.zero_le _⟩ ?_
  refine lv_aload_n hx hb dX2_turnOf_22 rfl (lv_at hl 0 rfl) ?_
  refine va_get (D := (dC, dI)) (ci := 2) (v := .ref (a 4)) (C := RX2) (T := TX2) (N := 6) hx hb hts (by decide +kernel) hown hK hP 0 rfl rfl 1 (by decide) (hts (.fieldLink RX2 19 "TriangleSheet" "triangles" "LTriangleSheet$Triangles;") (by decide +kernel)) (fun _ h9 => h9) rfl dX2_turnOf_23 ?_
  refine lv_iload_n hx hb dX2_turnOf_26 rfl (lv_at hl 1 rfl) ?_
  refine lv_iconst (v := nI (2)) hx hb dX2_turnOf_27 (by decide) ?_
  refine ro_V (As := [.int (nI (t)), .int (nI (2))]) (rest := [.int (nI (gc v.1 t 1)), .int (nI (gc v.1 t 0)), .ref (a 1)]) (q0 := 4) (ci := 1) hx hb hml hown hts (c_X1_cornerOf l dC dI cI cL cZ a v t 2 (by omega) (by omega)) (cwV 2 hts gX2_turnOf_X1_cornerOf rfl rfl rfl (by decide +kernel) ⟨Nat.le_of_ble_eq_true rfl, Nat.le_of_ble_eq_true rfl⟩) hK hP rfl rfl rfl hl.1 rfl (Nat.le_of_ble_eq_true rfl) dX2_turnOf_28 ⟨Nat.zero_le _, Nat.zero_le _⟩ ?_
  refine ro_V (As := [.int (nI (gc v.1 t 0)), .int (nI (gc v.1 t 1)), .int (nI (gc v.1 t 2))]) (rest := []) (q0 := 1) (ci := 0) hx hb hml hown hts (c_X0_turnOf l dC dI cI cL cZ a v (gc v.1 t 0) (gc v.1 t 1) (gc v.1 t 2) (by omega) (by omega) (by omega)) (cwV 3 hts gX2_turnOf_X0_turnOf rfl rfl rfl (by decide +kernel) ⟨Nat.le_of_ble_eq_true rfl, Nat.le_of_ble_eq_true rfl⟩) hK hP rfl rfl rfl hl.1 rfl (Nat.le_of_ble_eq_true rfl) dX2_turnOf_31 ⟨Nat.zero_le _, Nat.zero_le _⟩ ?_
  exact ro_iret hx hb hr rfl dX2_turnOf_34 hlocks
set_option maxHeartbeats 4000000 in
set_option maxRecDepth 100000 in
theorem c_X2_isRight (l : Launch) (dC : Nat → ClassId) (dI : Nat → Nat → Nat) (cI cL cZ : ClassId) (a : Nat → Nat) (v : SV) (t : Nat) (hv : okS v) (ht : t < 200) : Met l yX2_isRight wsX2_isRight ({ frames := 3, cells := 0, slots := 0, locals := 68 }) (va_Pc [.ref (a 0), .int (nI (t))] (ro_B (dC, dI) vwCl (wS cI cL a v) (tyS cI cL cZ))) (k2_QcV (.int (bI (rgt v.1 t)))) 0 0 (fun _ => False) := by
  refine ro_Met (cc := cX2_isRight) (maxL := 2) (ret := (some .boolean)) (by decide) rfl (Nat.le_of_ble_eq_true rfl) ?_
  intro pr en s m below meth co ls hx hb hml hr hlocks hown hts hP hK hl
  have hl : lv_has ls 2 [(0, .ref (a 0)), (1, .int (nI (t)))] := hl
  have hown : s.vm.findClass RX2 = some m.cls := hown
  have hvp : sPn v ≤ 60 ∧ sTn v ≤ 60 ∧ sTm v ≤ 200 := ⟨hv.2.1, hv.2.2.2.1, hv.2.2.2.2.1⟩
  refine lv_aload_n hx hb dX2_isRight_0 rfl (lv_at hl 0 rfl) ?_
  refine lv_iload_n hx hb dX2_isRight_1 rfl (lv_at hl 1 rfl) ?_
  refine ro_V (As := [.int (nI (t))]) (rest := []) (q0 := 0) (ci := 2) hx hb hml hown hts (c_X2_turnOf l dC dI cI cL cZ a v t hv (by omega)) (cwV 1 hts gX2_isRight_X2_turnOf rfl rfl rfl (by decide +kernel) ⟨Nat.le_of_ble_eq_true rfl, Nat.le_of_ble_eq_true rfl⟩) hK hP rfl rfl rfl hl.1 rfl (Nat.le_of_ble_eq_true rfl) dX2_isRight_2 ⟨Nat.zero_le _, Nat.zero_le _⟩ ?_
  have ps_1 : zOk (twi v.1 t) := tof_ok hv.1
  refine lv_if_le (tgt := 12) hx hb dX2_isRight_5 (by decide) (fun c_2 => ?_) (fun c_2 => ?_)
  · skip
    have c_2 : (twi v.1 t) ≤ 0 := (z0_le (by assumption)).mp c_2
    refine lv_iconst (v := nI (0)) hx hb dX2_isRight_12 (by decide) ?_
    exact ro_zret hx hb hr (by decide) (rb_0 (by simp [rgt]; omega)) dX2_isRight_13 hlocks
  · skip
    have c_2 : ¬ ((twi v.1 t) ≤ 0) := fun hq9 => c_2 ((z0_le (by assumption)).mpr hq9)
    refine lv_iconst (v := nI (1)) hx hb dX2_isRight_8 (by decide) ?_
    refine lv_goto (tgt := 13) hx hb dX2_isRight_9 (by decide) ?_
    exact ro_zret hx hb hr (by decide) (rb_1 (by simp [rgt]; omega)) dX2_isRight_13 hlocks
set_option maxHeartbeats 4000000 in
set_option maxRecDepth 100000 in
theorem c_X2_turnBesideEdge (l : Launch) (dC : Nat → ClassId) (dI : Nat → Nat → Nat) (cI cL cZ : ClassId) (a : Nat → Nat) (v : SV) (t j x y : Nat) (hv : okS v) (ht : t < 200) (hj : j < 4) : Met l yX2_turnBesideEdge wsX2_turnBesideEdge ({ frames := 1, cells := 0, slots := 0, locals := 24 }) (va_Pc [.ref (a 0), .int (nI (t)), .int (nI (j)), .int (nI (x)), .int (nI (y))] (ro_B (dC, dI) vwCl (wS cI cL a v) (tyS cI cL cZ))) (k2_QcV (.int (iI (tbe v.1 t j (x : Int) (y : Int))))) 0 0 (fun _ => False) := by
  refine ro_Met (cc := cX2_turnBesideEdge) (maxL := 5) (ret := (some .int)) (by decide) rfl (Nat.le_of_ble_eq_true rfl) ?_
  intro pr en s m below meth co ls hx hb hml hr hlocks hown hts hP hK hl
  have hl : lv_has ls 5 [(0, .ref (a 0)), (1, .int (nI (t))), (2, .int (nI (j))), (3, .int (nI (x))), (4, .int (nI (y)))] := hl
  have hown : s.vm.findClass RX2 = some m.cls := hown
  have hvp : sPn v ≤ 60 ∧ sTn v ≤ 60 ∧ sTm v ≤ 200 := ⟨hv.2.1, hv.2.2.2.1, hv.2.2.2.2.1⟩
  have hg0 := gc_lt hv.1 (t := t) (k := j)
  have hg1 := gc_lt hv.1 (t := t) (k := j + 1)
  refine lv_aload_n hx hb dX2_turnBesideEdge_0 rfl (lv_at hl 0 rfl) ?_
  refine va_get (D := (dC, dI)) (ci := 2) (v := .ref (a 1)) (C := RX2) (T := TX2) (N := 6) hx hb hts (by decide +kernel) hown hK hP 0 rfl rfl 0 (by decide) (hts (.fieldLink RX2 10 "TriangleSheet" "points" "LTriangleSheet$Points;") (by decide +kernel)) (fun _ h9 => h9) rfl dX2_turnBesideEdge_1 ?_
  refine lv_aload_n hx hb dX2_turnBesideEdge_4 rfl (lv_at hl 0 rfl) ?_
  refine va_get (D := (dC, dI)) (ci := 2) (v := .ref (a 4)) (C := RX2) (T := TX2) (N := 6) hx hb hts (by decide +kernel) hown hK hP 0 rfl rfl 1 (by decide) (hts (.fieldLink RX2 19 "TriangleSheet" "triangles" "LTriangleSheet$Triangles;") (by decide +kernel)) (fun _ h9 => h9) rfl dX2_turnBesideEdge_5 ?_
  refine lv_iload_n hx hb dX2_turnBesideEdge_8 rfl (lv_at hl 1 rfl) ?_
  refine lv_iload_n hx hb dX2_turnBesideEdge_9 rfl (lv_at hl 2 rfl) ?_
  refine ro_V (As := [.int (nI (t)), .int (nI (j))]) (rest := [.ref (a 1)]) (q0 := 4) (ci := 1) hx hb hml hown hts (c_X1_cornerOf l dC dI cI cL cZ a v t j (by omega) (by omega)) (cwV 2 hts gX2_turnBesideEdge_X1_cornerOf rfl rfl rfl (by decide +kernel) ⟨Nat.le_of_ble_eq_true rfl, Nat.le_of_ble_eq_true rfl⟩) hK hP rfl rfl rfl hl.1 rfl (Nat.le_of_ble_eq_true rfl) dX2_turnBesideEdge_10 ⟨Nat.zero_le _, Nat.zero_le _⟩ ?_
  refine lv_aload_n hx hb dX2_turnBesideEdge_13 rfl (lv_at hl 0 rfl) ?_
  refine va_get (D := (dC, dI)) (ci := 2) (v := .ref (a 4)) (C := RX2) (T := TX2) (N := 6) hx hb hts (by decide +kernel) hown hK hP 0 rfl rfl 1 (by decide) (hts (.fieldLink RX2 19 "TriangleSheet" "triangles" "LTriangleSheet$Triangles;") (by decide +kernel)) (fun _ h9 => h9) rfl dX2_turnBesideEdge_14 ?_
  refine lv_iload_n hx hb dX2_turnBesideEdge_17 rfl (lv_at hl 1 rfl) ?_
  refine lv_iload_n hx hb dX2_turnBesideEdge_18 rfl (lv_at hl 2 rfl) ?_
  refine lv_iconst (v := nI (1)) hx hb dX2_turnBesideEdge_19 (by decide) ?_
  refine lv_iadd hx hb dX2_turnBesideEdge_20 ?_
  refine rt_i (y := (nI (j + 1))) (nn_add (j) (1)) ?_
  refine ro_V (As := [.int (nI (t)), .int (nI (j + 1))]) (rest := [.int (nI (gc v.1 t j)), .ref (a 1)]) (q0 := 4) (ci := 1) hx hb hml hown hts (c_X1_cornerOf l dC dI cI cL cZ a v t (j + 1) (by omega) (by omega)) (cwV 2 hts gX2_turnBesideEdge_X1_cornerOf rfl rfl rfl (by decide +kernel) ⟨Nat.le_of_ble_eq_true rfl, Nat.le_of_ble_eq_true rfl⟩) hK hP rfl rfl rfl hl.1 rfl (Nat.le_of_ble_eq_true rfl) dX2_turnBesideEdge_21 ⟨Nat.zero_le _, Nat.zero_le _⟩ ?_
  refine lv_iload_n hx hb dX2_turnBesideEdge_24 rfl (lv_at hl 3 rfl) ?_
  refine lv_iload hx hb dX2_turnBesideEdge_25 (lv_at hl 4 rfl) ?_
  refine ro_V (As := [.int (nI (gc v.1 t j)), .int (nI (gc v.1 t (j + 1))), .int (nI (x)), .int (nI (y))]) (rest := []) (q0 := 1) (ci := 0) hx hb hml hown hts (c_X0_turnAt l dC dI cI cL cZ a v (gc v.1 t j) (gc v.1 t (j + 1)) x y (by omega) (by omega)) (cwV 4 hts gX2_turnBesideEdge_X0_turnAt rfl rfl rfl (by decide +kernel) ⟨Nat.le_of_ble_eq_true rfl, Nat.le_of_ble_eq_true rfl⟩) hK hP rfl rfl rfl hl.1 rfl (Nat.le_of_ble_eq_true rfl) dX2_turnBesideEdge_27 ⟨Nat.zero_le _, Nat.zero_le _⟩ ?_
  exact ro_iret hx hb hr rfl dX2_turnBesideEdge_30 hlocks
set_option maxHeartbeats 4000000 in
set_option maxRecDepth 100000 in
theorem c_X2_hasPlace (l : Launch) (dC : Nat → ClassId) (dI : Nat → Nat → Nat) (cI cL cZ : ClassId) (a : Nat → Nat) (v : SV) (t x y : Nat) (hv : okS v) (ht : t < 200) (hx : x < 512) (hy : y < 512) : Met l yX2_hasPlace wsX2_hasPlace ({ frames := 2, cells := 0, slots := 0, locals := 48 }) (va_Pc [.ref (a 0), .int (nI (t)), .int (nI (x)), .int (nI (y))] (ro_B (dC, dI) vwCl (wS cI cL a v) (tyS cI cL cZ))) (k2_QcV (.int (bI (has v.1 t (x : Int) (y : Int))))) 0 0 (fun _ => False) := by
  refine ro_Met (cc := cX2_hasPlace) (maxL := 5) (ret := (some .boolean)) (by decide) rfl (Nat.le_of_ble_eq_true rfl) ?_
  intro pr en s m below meth co ls hx hb hml hr hlocks hown hts hP hK hl
  have hl : lv_has ls 5 [(0, .ref (a 0)), (1, .int (nI (t))), (2, .int (nI (x))), (3, .int (nI (y)))] := hl
  have hown : s.vm.findClass RX2 = some m.cls := hown
  have hvp : sPn v ≤ 60 ∧ sTn v ≤ 60 ∧ sTm v ≤ 200 := ⟨hv.2.1, hv.2.2.2.1, hv.2.2.2.2.1⟩
  refine lv_iconst (v := nI (0)) hx hb dX2_hasPlace_0 (by decide) ?_
  refine lv_istore (lv' := [(4, .int (nI (0))), (0, .ref (a 0)), (1, .int (nI (t))), (2, .int (nI (x))), (3, .int (nI (y)))]) hx hb dX2_hasPlace_1 hl (by decide) rfl (fun ls hl => ?_)
  refine lp (σ := Nat) (LV := fun n => [(0, .ref (a 0)), (1, .int (nI (t))), (2, .int (nI (x))), (3, .int (nI (y))), (4, .int (nI (n)))]) (I := fun k n => n + k = 3 ∧ has v.1 t (x : Int) (y : Int) = alf (fun k => decide (0 ≤ tbe v.1 t k (x : Int) (y : Int))) k n) (fun k n ls hI_k hl ih_k => ?_) (3) (0) ls ⟨by omega, rfl⟩ (lv_sub hl [1, 2, 3, 4, 0] rfl)
  obtain ⟨hk, hi⟩ := hI_k
  refine lv_iload hx hb dX2_hasPlace_3 (lv_at hl 4 rfl) ?_
  refine lv_iconst (v := nI (3)) hx hb dX2_hasPlace_5 (by decide) ?_
  refine lv_icmp_ge (tgt := 29) hx hb dX2_hasPlace_6 (by decide) (fun c_1 => ?_) (fun c_1 => ?_)
  · skip
    have c_1 : 3 ≤ n := (nI_leI (a := 3) (b := n) (by omega) (by omega)).mp c_1
    refine lv_iconst (v := nI (1)) hx hb dX2_hasPlace_29 (by decide) ?_
    exact ro_zret hx hb hr (by decide) (rb_1 (by rw [hi, show k = 0 by omega]; rfl)) dX2_hasPlace_30 hlocks
  · skip
    have c_1 : ¬ (3 ≤ n) := fun hq9 => c_1 ((nI_leI (a := 3) (b := n) (by omega) (by omega)).mpr hq9)
    refine lv_aload_n hx hb dX2_hasPlace_9 rfl (lv_at hl 0 rfl) ?_
    refine lv_iload_n hx hb dX2_hasPlace_10 rfl (lv_at hl 1 rfl) ?_
    refine lv_iload hx hb dX2_hasPlace_11 (lv_at hl 4 rfl) ?_
    refine lv_iload_n hx hb dX2_hasPlace_13 rfl (lv_at hl 2 rfl) ?_
    refine lv_iload_n hx hb dX2_hasPlace_14 rfl (lv_at hl 3 rfl) ?_
    refine ro_V (As := [.int (nI (t)), .int (nI (n)), .int (nI (x)), .int (nI (y))]) (rest := []) (q0 := 0) (ci := 2) hx hb hml hown hts (c_X2_turnBesideEdge l dC dI cI cL cZ a v t n x y hv (by omega) (by omega)) (cwV 4 hts gX2_hasPlace_X2_turnBesideEdge rfl rfl rfl (by decide +kernel) ⟨Nat.le_of_ble_eq_true rfl, Nat.le_of_ble_eq_true rfl⟩) hK hP rfl rfl rfl hl.1 rfl (Nat.le_of_ble_eq_true rfl) dX2_hasPlace_15 ⟨Nat.zero_le _, Nat.zero_le _⟩ ?_
    have ps_2 : zOk (tbe v.1 t n ((x : Nat) : Int) ((y : Nat) : Int)) := tat_ok hv.1 (by omega) (by omega)
    refine lv_if_ge (tgt := 23) hx hb dX2_hasPlace_18 (by decide) (fun c_3 => ?_) (fun c_3 => ?_)
    · skip
      have c_3 : 0 ≤ (tbe v.1 t n (x : Int) (y : Int)) := (l0_le (by assumption)).mp c_3
      refine lv_iinc (v := nI (n + 1)) (lv' := [(4, .int (nI (n + 1))), (0, .ref (a 0)), (1, .int (nI (t))), (2, .int (nI (x))), (3, .int (nI (y)))]) hx hb dX2_hasPlace_23 hl (k := 4) rfl (nI_1 (n)) (by decide) rfl (fun ls hl => ?_)
      refine lv_goto (tgt := 3) hx hb dX2_hasPlace_26 (by decide) ?_
      exact ih_k (k - 1) (n + 1) ls (by omega) ⟨by omega, hi.trans (alf_t (by omega) (by simp [c_1, c_3]))⟩ (lv_sub hl [1, 2, 3, 4, 0] rfl)
    · skip
      have c_3 : ¬ (0 ≤ (tbe v.1 t n (x : Int) (y : Int))) := fun hq9 => c_3 ((l0_le (by assumption)).mpr hq9)
      refine lv_iconst (v := nI (0)) hx hb dX2_hasPlace_21 (by decide) ?_
      exact ro_zret hx hb hr (by decide) (rb_0 (by rw [hi, alf_f (by omega) (by simp [c_1, c_3])])) dX2_hasPlace_22 hlocks
set_option maxHeartbeats 4000000 in
set_option maxRecDepth 100000 in
theorem c_X2_isWithin (l : Launch) (dC : Nat → ClassId) (dI : Nat → Nat → Nat) (cI cL cZ : ClassId) (a : Nat → Nat) (v : SV) (t x y : Nat) (hv : okS v) (ht : t < 200) (hx : x < 512) (hy : y < 512) : Met l yX2_isWithin wsX2_isWithin ({ frames := 2, cells := 0, slots := 0, locals := 48 }) (va_Pc [.ref (a 0), .int (nI (t)), .int (nI (x)), .int (nI (y))] (ro_B (dC, dI) vwCl (wS cI cL a v) (tyS cI cL cZ))) (k2_QcV (.int (bI (wit v.1 t (x : Int) (y : Int))))) 0 0 (fun _ => False) := by
  refine ro_Met (cc := cX2_isWithin) (maxL := 5) (ret := (some .boolean)) (by decide) rfl (Nat.le_of_ble_eq_true rfl) ?_
  intro pr en s m below meth co ls hx hb hml hr hlocks hown hts hP hK hl
  have hl : lv_has ls 5 [(0, .ref (a 0)), (1, .int (nI (t))), (2, .int (nI (x))), (3, .int (nI (y)))] := hl
  have hown : s.vm.findClass RX2 = some m.cls := hown
  have hvp : sPn v ≤ 60 ∧ sTn v ≤ 60 ∧ sTm v ≤ 200 := ⟨hv.2.1, hv.2.2.2.1, hv.2.2.2.2.1⟩
  refine lv_iconst (v := nI (0)) hx hb dX2_isWithin_0 (by decide) ?_
  refine lv_istore (lv' := [(4, .int (nI (0))), (0, .ref (a 0)), (1, .int (nI (t))), (2, .int (nI (x))), (3, .int (nI (y)))]) hx hb dX2_isWithin_1 hl (by decide) rfl (fun ls hl => ?_)
  refine lp (σ := Nat) (LV := fun n => [(0, .ref (a 0)), (1, .int (nI (t))), (2, .int (nI (x))), (3, .int (nI (y))), (4, .int (nI (n)))]) (I := fun k n => n + k = 3 ∧ wit v.1 t (x : Int) (y : Int) = alf (fun k => decide (0 < tbe v.1 t k (x : Int) (y : Int))) k n) (fun k n ls hI_k hl ih_k => ?_) (3) (0) ls ⟨by omega, rfl⟩ (lv_sub hl [1, 2, 3, 4, 0] rfl)
  obtain ⟨hk, hi⟩ := hI_k
  refine lv_iload hx hb dX2_isWithin_3 (lv_at hl 4 rfl) ?_
  refine lv_iconst (v := nI (3)) hx hb dX2_isWithin_5 (by decide) ?_
  refine lv_icmp_ge (tgt := 29) hx hb dX2_isWithin_6 (by decide) (fun c_1 => ?_) (fun c_1 => ?_)
  · skip
    have c_1 : 3 ≤ n := (nI_leI (a := 3) (b := n) (by omega) (by omega)).mp c_1
    refine lv_iconst (v := nI (1)) hx hb dX2_isWithin_29 (by decide) ?_
    exact ro_zret hx hb hr (by decide) (rb_1 (by rw [hi, show k = 0 by omega]; rfl)) dX2_isWithin_30 hlocks
  · skip
    have c_1 : ¬ (3 ≤ n) := fun hq9 => c_1 ((nI_leI (a := 3) (b := n) (by omega) (by omega)).mpr hq9)
    refine lv_aload_n hx hb dX2_isWithin_9 rfl (lv_at hl 0 rfl) ?_
    refine lv_iload_n hx hb dX2_isWithin_10 rfl (lv_at hl 1 rfl) ?_
    refine lv_iload hx hb dX2_isWithin_11 (lv_at hl 4 rfl) ?_
    refine lv_iload_n hx hb dX2_isWithin_13 rfl (lv_at hl 2 rfl) ?_
    refine lv_iload_n hx hb dX2_isWithin_14 rfl (lv_at hl 3 rfl) ?_
    refine ro_V (As := [.int (nI (t)), .int (nI (n)), .int (nI (x)), .int (nI (y))]) (rest := []) (q0 := 0) (ci := 2) hx hb hml hown hts (c_X2_turnBesideEdge l dC dI cI cL cZ a v t n x y hv (by omega) (by omega)) (cwV 4 hts gX2_isWithin_X2_turnBesideEdge rfl rfl rfl (by decide +kernel) ⟨Nat.le_of_ble_eq_true rfl, Nat.le_of_ble_eq_true rfl⟩) hK hP rfl rfl rfl hl.1 rfl (Nat.le_of_ble_eq_true rfl) dX2_isWithin_15 ⟨Nat.zero_le _, Nat.zero_le _⟩ ?_
    have ps_2 : zOk (tbe v.1 t n ((x : Nat) : Int) ((y : Nat) : Int)) := tat_ok hv.1 (by omega) (by omega)
    refine lv_if_gt (tgt := 23) hx hb dX2_isWithin_18 (by decide) (fun c_3 => ?_) (fun c_3 => ?_)
    · skip
      have c_3 : 0 < (tbe v.1 t n (x : Int) (y : Int)) := (l0_lt (by assumption)).mp c_3
      refine lv_iinc (v := nI (n + 1)) (lv' := [(4, .int (nI (n + 1))), (0, .ref (a 0)), (1, .int (nI (t))), (2, .int (nI (x))), (3, .int (nI (y)))]) hx hb dX2_isWithin_23 hl (k := 4) rfl (nI_1 (n)) (by decide) rfl (fun ls hl => ?_)
      refine lv_goto (tgt := 3) hx hb dX2_isWithin_26 (by decide) ?_
      exact ih_k (k - 1) (n + 1) ls (by omega) ⟨by omega, hi.trans (alf_t (by omega) (by simp [c_1, c_3]))⟩ (lv_sub hl [1, 2, 3, 4, 0] rfl)
    · skip
      have c_3 : ¬ (0 < (tbe v.1 t n (x : Int) (y : Int))) := fun hq9 => c_3 ((l0_lt (by assumption)).mpr hq9)
      refine lv_iconst (v := nI (0)) hx hb dX2_isWithin_21 (by decide) ?_
      exact ro_zret hx hb hr (by decide) (rb_0 (by rw [hi, alf_f (by omega) (by simp [c_1, c_3])])) dX2_isWithin_22 hlocks
set_option maxHeartbeats 4000000 in
set_option maxRecDepth 100000 in
theorem c_X2_ownsEdge (l : Launch) (dC : Nat → ClassId) (dI : Nat → Nat → Nat) (cI cL cZ : ClassId) (a : Nat → Nat) (v : SV) (t j : Nat) (hv : okS v) (ht : t < 200) (hj : j < 4) : Met l yX2_ownsEdge wsX2_ownsEdge ({ frames := 1, cells := 0, slots := 0, locals := 22 }) (va_Pc [.ref (a 0), .int (nI (t)), .int (nI (j))] (ro_B (dC, dI) vwCl (wS cI cL a v) (tyS cI cL cZ))) (k2_QcV (.int (bI (own v.1 t j)))) 0 0 (fun _ => False) := by
  refine ro_Met (cc := cX2_ownsEdge) (maxL := 5) (ret := (some .boolean)) (by decide) rfl (Nat.le_of_ble_eq_true rfl) ?_
  intro pr en s m below meth co ls hx hb hml hr hlocks hown hts hP hK hl
  have hl : lv_has ls 5 [(0, .ref (a 0)), (1, .int (nI (t))), (2, .int (nI (j)))] := hl
  have hown : s.vm.findClass RX2 = some m.cls := hown
  have hvp : sPn v ≤ 60 ∧ sTn v ≤ 60 ∧ sTm v ≤ 200 := ⟨hv.2.1, hv.2.2.2.1, hv.2.2.2.2.1⟩
  have hg0 := gc_lt hv.1 (t := t) (k := j)
  have hg1 := gc_lt hv.1 (t := t) (k := j + 1)
  have hq0 := hv.1.1 (gc v.1 t (j + 0))
  have hq1 := hv.1.1 (gc v.1 t (j + 1))
  have hq2 := hv.1.2.1 (gc v.1 t (j + 0))
  have hq3 := hv.1.2.1 (gc v.1 t (j + 1))
  have hr0 := hv.1.1 (gc v.1 t j)
  have hr1 := hv.1.2.1 (gc v.1 t j)
  refine lv_aload_n hx hb dX2_ownsEdge_0 rfl (lv_at hl 0 rfl) ?_
  refine va_get (D := (dC, dI)) (ci := 2) (v := .ref (a 4)) (C := RX2) (T := TX2) (N := 6) hx hb hts (by decide +kernel) hown hK hP 0 rfl rfl 1 (by decide) (hts (.fieldLink RX2 19 "TriangleSheet" "triangles" "LTriangleSheet$Triangles;") (by decide +kernel)) (fun _ h9 => h9) rfl dX2_ownsEdge_1 ?_
  refine lv_iload_n hx hb dX2_ownsEdge_4 rfl (lv_at hl 1 rfl) ?_
  refine lv_iload_n hx hb dX2_ownsEdge_5 rfl (lv_at hl 2 rfl) ?_
  refine ro_V (As := [.int (nI (t)), .int (nI (j))]) (rest := []) (q0 := 4) (ci := 1) hx hb hml hown hts (c_X1_cornerOf l dC dI cI cL cZ a v t j (by omega) (by omega)) (cwV 2 hts gX2_ownsEdge_X1_cornerOf rfl rfl rfl (by decide +kernel) ⟨Nat.le_of_ble_eq_true rfl, Nat.le_of_ble_eq_true rfl⟩) hK hP rfl rfl rfl hl.1 rfl (Nat.le_of_ble_eq_true rfl) dX2_ownsEdge_6 ⟨Nat.zero_le _, Nat.zero_le _⟩ ?_
  refine lv_istore_n (lv' := [(3, .int (nI (gc v.1 t j))), (0, .ref (a 0)), (1, .int (nI (t))), (2, .int (nI (j)))]) hx hb dX2_ownsEdge_9 rfl hl (by decide) rfl (fun ls hl => ?_)
  refine lv_aload_n hx hb dX2_ownsEdge_10 rfl (lv_at hl 1 rfl) ?_
  refine va_get (D := (dC, dI)) (ci := 2) (v := .ref (a 4)) (C := RX2) (T := TX2) (N := 6) hx hb hts (by decide +kernel) hown hK hP 0 rfl rfl 1 (by decide) (hts (.fieldLink RX2 19 "TriangleSheet" "triangles" "LTriangleSheet$Triangles;") (by decide +kernel)) (fun _ h9 => h9) rfl dX2_ownsEdge_11 ?_
  refine lv_iload_n hx hb dX2_ownsEdge_14 rfl (lv_at hl 2 rfl) ?_
  refine lv_iload_n hx hb dX2_ownsEdge_15 rfl (lv_at hl 3 rfl) ?_
  refine lv_iconst (v := nI (1)) hx hb dX2_ownsEdge_16 (by decide) ?_
  refine lv_iadd hx hb dX2_ownsEdge_17 ?_
  refine rt_i (y := (nI (j + 1))) (nn_add (j) (1)) ?_
  refine ro_V (As := [.int (nI (t)), .int (nI (j + 1))]) (rest := []) (q0 := 4) (ci := 1) hx hb hml hown hts (c_X1_cornerOf l dC dI cI cL cZ a v t (j + 1) (by omega) (by omega)) (cwV 2 hts gX2_ownsEdge_X1_cornerOf rfl rfl rfl (by decide +kernel) ⟨Nat.le_of_ble_eq_true rfl, Nat.le_of_ble_eq_true rfl⟩) hK hP rfl rfl rfl hl.1 rfl (Nat.le_of_ble_eq_true rfl) dX2_ownsEdge_18 ⟨Nat.zero_le _, Nat.zero_le _⟩ ?_
  refine lv_istore (lv' := [(4, .int (nI (gc v.1 t (j + 1)))), (3, .int (nI (gc v.1 t j))), (0, .ref (a 0)), (1, .int (nI (t))), (2, .int (nI (j)))]) hx hb dX2_ownsEdge_21 hl (by decide) rfl (fun ls hl => ?_)
  refine lv_aload_n hx hb dX2_ownsEdge_23 rfl (lv_at hl 2 rfl) ?_
  refine va_get (D := (dC, dI)) (ci := 2) (v := .ref (a 1)) (C := RX2) (T := TX2) (N := 6) hx hb hts (by decide +kernel) hown hK hP 0 rfl rfl 0 (by decide) (hts (.fieldLink RX2 10 "TriangleSheet" "points" "LTriangleSheet$Points;") (by decide +kernel)) (fun _ h9 => h9) rfl dX2_ownsEdge_24 ?_
  refine lv_iload hx hb dX2_ownsEdge_27 (lv_at hl 0 rfl) ?_
  refine ro_V (As := [.int (nI (gc v.1 t (j + 1)))]) (rest := []) (q0 := 1) (ci := 0) hx hb hml hown hts (c_X0_y l dC dI cI cL cZ a v (gc v.1 t (j + 1)) (by omega)) (cwV 1 hts gX2_ownsEdge_X0_y rfl rfl rfl (by decide +kernel) ⟨Nat.le_of_ble_eq_true rfl, Nat.le_of_ble_eq_true rfl⟩) hK hP rfl rfl rfl hl.1 rfl (Nat.le_of_ble_eq_true rfl) dX2_ownsEdge_29 ⟨Nat.zero_le _, Nat.zero_le _⟩ ?_
  refine lv_aload_n hx hb dX2_ownsEdge_32 rfl (lv_at hl 2 rfl) ?_
  refine va_get (D := (dC, dI)) (ci := 2) (v := .ref (a 1)) (C := RX2) (T := TX2) (N := 6) hx hb hts (by decide +kernel) hown hK hP 0 rfl rfl 0 (by decide) (hts (.fieldLink RX2 10 "TriangleSheet" "points" "LTriangleSheet$Points;") (by decide +kernel)) (fun _ h9 => h9) rfl dX2_ownsEdge_33 ?_
  refine lv_iload_n hx hb dX2_ownsEdge_36 rfl (lv_at hl 1 rfl) ?_
  refine ro_V (As := [.int (nI (gc v.1 t j))]) (rest := [.int (nI (v.1.2.1 (gc v.1 t (j + 1))))]) (q0 := 1) (ci := 0) hx hb hml hown hts (c_X0_y l dC dI cI cL cZ a v (gc v.1 t j) (by omega)) (cwV 1 hts gX2_ownsEdge_X0_y rfl rfl rfl (by decide +kernel) ⟨Nat.le_of_ble_eq_true rfl, Nat.le_of_ble_eq_true rfl⟩) hK hP rfl rfl rfl hl.1 rfl (Nat.le_of_ble_eq_true rfl) dX2_ownsEdge_37 ⟨Nat.zero_le _, Nat.zero_le _⟩ ?_
  refine lv_icmp_lt (tgt := 83) hx hb dX2_ownsEdge_40 (by decide) (fun c_1 => ?_) (fun c_1 => ?_)
  · skip
    have c_1 : v.1.2.1 (gc v.1 t (j + 1)) < v.1.2.1 (gc v.1 t j) := (nI_ltI (a := v.1.2.1 (gc v.1 t (j + 1))) (b := v.1.2.1 (gc v.1 t j)) (by omega) (by omega)).mp c_1
    refine lv_iconst (v := nI (1)) hx hb dX2_ownsEdge_83 (by decide) ?_
    refine lv_goto (tgt := 88) hx hb dX2_ownsEdge_84 (by decide) ?_
    exact ro_zret hx hb hr (by decide) (rb_1 (by first | (simp [own, c_1]; done) | (simp [own, c_1]; omega) | (simp [own]; omega))) dX2_ownsEdge_88 hlocks
  · skip
    have c_1 : ¬ (v.1.2.1 (gc v.1 t (j + 1)) < v.1.2.1 (gc v.1 t j)) := fun hq9 => c_1 ((nI_ltI (a := v.1.2.1 (gc v.1 t (j + 1))) (b := v.1.2.1 (gc v.1 t j)) (by omega) (by omega)).mpr hq9)
    refine lv_aload_n hx hb dX2_ownsEdge_43 rfl (lv_at hl 2 rfl) ?_
    refine va_get (D := (dC, dI)) (ci := 2) (v := .ref (a 1)) (C := RX2) (T := TX2) (N := 6) hx hb hts (by decide +kernel) hown hK hP 0 rfl rfl 0 (by decide) (hts (.fieldLink RX2 10 "TriangleSheet" "points" "LTriangleSheet$Points;") (by decide +kernel)) (fun _ h9 => h9) rfl dX2_ownsEdge_44 ?_
    refine lv_iload hx hb dX2_ownsEdge_47 (lv_at hl 0 rfl) ?_
    refine ro_V (As := [.int (nI (gc v.1 t (j + 1)))]) (rest := []) (q0 := 1) (ci := 0) hx hb hml hown hts (c_X0_y l dC dI cI cL cZ a v (gc v.1 t (j + 1)) (by omega)) (cwV 1 hts gX2_ownsEdge_X0_y rfl rfl rfl (by decide +kernel) ⟨Nat.le_of_ble_eq_true rfl, Nat.le_of_ble_eq_true rfl⟩) hK hP rfl rfl rfl hl.1 rfl (Nat.le_of_ble_eq_true rfl) dX2_ownsEdge_49 ⟨Nat.zero_le _, Nat.zero_le _⟩ ?_
    refine lv_aload_n hx hb dX2_ownsEdge_52 rfl (lv_at hl 2 rfl) ?_
    refine va_get (D := (dC, dI)) (ci := 2) (v := .ref (a 1)) (C := RX2) (T := TX2) (N := 6) hx hb hts (by decide +kernel) hown hK hP 0 rfl rfl 0 (by decide) (hts (.fieldLink RX2 10 "TriangleSheet" "points" "LTriangleSheet$Points;") (by decide +kernel)) (fun _ h9 => h9) rfl dX2_ownsEdge_53 ?_
    refine lv_iload_n hx hb dX2_ownsEdge_56 rfl (lv_at hl 1 rfl) ?_
    refine ro_V (As := [.int (nI (gc v.1 t j))]) (rest := [.int (nI (v.1.2.1 (gc v.1 t (j + 1))))]) (q0 := 1) (ci := 0) hx hb hml hown hts (c_X0_y l dC dI cI cL cZ a v (gc v.1 t j) (by omega)) (cwV 1 hts gX2_ownsEdge_X0_y rfl rfl rfl (by decide +kernel) ⟨Nat.le_of_ble_eq_true rfl, Nat.le_of_ble_eq_true rfl⟩) hK hP rfl rfl rfl hl.1 rfl (Nat.le_of_ble_eq_true rfl) dX2_ownsEdge_57 ⟨Nat.zero_le _, Nat.zero_le _⟩ ?_
    refine lv_icmp_ne (tgt := 87) hx hb dX2_ownsEdge_60 (by decide) (fun c_2 => ?_) (fun c_2 => ?_)
    · skip
      have c_2 : ¬ (v.1.2.1 (gc v.1 t (j + 1)) = v.1.2.1 (gc v.1 t j)) := fun hq9 => c_2 ((nI_eq (a := v.1.2.1 (gc v.1 t (j + 1))) (b := v.1.2.1 (gc v.1 t j)) (by omega) (by omega)).mpr hq9)
      refine lv_iconst (v := nI (0)) hx hb dX2_ownsEdge_87 (by decide) ?_
      exact ro_zret hx hb hr (by decide) (rb_0 (by first | (simp [own, c_1, c_2]; done) | (simp [own, c_1, c_2]; omega) | (simp [own]; omega))) dX2_ownsEdge_88 hlocks
    · skip
      have c_2 : v.1.2.1 (gc v.1 t (j + 1)) = v.1.2.1 (gc v.1 t j) := (nI_eq (a := v.1.2.1 (gc v.1 t (j + 1))) (b := v.1.2.1 (gc v.1 t j)) (by omega) (by omega)).mp c_2
      refine lv_aload_n hx hb dX2_ownsEdge_63 rfl (lv_at hl 2 rfl) ?_
      refine va_get (D := (dC, dI)) (ci := 2) (v := .ref (a 1)) (C := RX2) (T := TX2) (N := 6) hx hb hts (by decide +kernel) hown hK hP 0 rfl rfl 0 (by decide) (hts (.fieldLink RX2 10 "TriangleSheet" "points" "LTriangleSheet$Points;") (by decide +kernel)) (fun _ h9 => h9) rfl dX2_ownsEdge_64 ?_
      refine lv_iload hx hb dX2_ownsEdge_67 (lv_at hl 0 rfl) ?_
      refine ro_V (As := [.int (nI (gc v.1 t (j + 1)))]) (rest := []) (q0 := 1) (ci := 0) hx hb hml hown hts (c_X0_x l dC dI cI cL cZ a v (gc v.1 t (j + 1)) (by omega)) (cwV 1 hts gX2_ownsEdge_X0_x rfl rfl rfl (by decide +kernel) ⟨Nat.le_of_ble_eq_true rfl, Nat.le_of_ble_eq_true rfl⟩) hK hP rfl rfl rfl hl.1 rfl (Nat.le_of_ble_eq_true rfl) dX2_ownsEdge_69 ⟨Nat.zero_le _, Nat.zero_le _⟩ ?_
      refine lv_aload_n hx hb dX2_ownsEdge_72 rfl (lv_at hl 2 rfl) ?_
      refine va_get (D := (dC, dI)) (ci := 2) (v := .ref (a 1)) (C := RX2) (T := TX2) (N := 6) hx hb hts (by decide +kernel) hown hK hP 0 rfl rfl 0 (by decide) (hts (.fieldLink RX2 10 "TriangleSheet" "points" "LTriangleSheet$Points;") (by decide +kernel)) (fun _ h9 => h9) rfl dX2_ownsEdge_73 ?_
      refine lv_iload_n hx hb dX2_ownsEdge_76 rfl (lv_at hl 1 rfl) ?_
      refine ro_V (As := [.int (nI (gc v.1 t j))]) (rest := [.int (nI (v.1.1 (gc v.1 t (j + 1))))]) (q0 := 1) (ci := 0) hx hb hml hown hts (c_X0_x l dC dI cI cL cZ a v (gc v.1 t j) (by omega)) (cwV 1 hts gX2_ownsEdge_X0_x rfl rfl rfl (by decide +kernel) ⟨Nat.le_of_ble_eq_true rfl, Nat.le_of_ble_eq_true rfl⟩) hK hP rfl rfl rfl hl.1 rfl (Nat.le_of_ble_eq_true rfl) dX2_ownsEdge_77 ⟨Nat.zero_le _, Nat.zero_le _⟩ ?_
      refine lv_icmp_ge (tgt := 87) hx hb dX2_ownsEdge_80 (by decide) (fun c_3 => ?_) (fun c_3 => ?_)
      · skip
        have c_3 : v.1.1 (gc v.1 t j) ≤ v.1.1 (gc v.1 t (j + 1)) := (nI_leI (a := v.1.1 (gc v.1 t j)) (b := v.1.1 (gc v.1 t (j + 1))) (by omega) (by omega)).mp c_3
        refine lv_iconst (v := nI (0)) hx hb dX2_ownsEdge_87 (by decide) ?_
        exact ro_zret hx hb hr (by decide) (rb_0 (by first | (simp [own, c_1, c_2, c_3]; done) | (simp [own, c_1, c_2, c_3]; omega) | (simp [own]; omega))) dX2_ownsEdge_88 hlocks
      · skip
        have c_3 : ¬ (v.1.1 (gc v.1 t j) ≤ v.1.1 (gc v.1 t (j + 1))) := fun hq9 => c_3 ((nI_leI (a := v.1.1 (gc v.1 t j)) (b := v.1.1 (gc v.1 t (j + 1))) (by omega) (by omega)).mpr hq9)
        refine lv_iconst (v := nI (1)) hx hb dX2_ownsEdge_83 (by decide) ?_
        refine lv_goto (tgt := 88) hx hb dX2_ownsEdge_84 (by decide) ?_
        exact ro_zret hx hb hr (by decide) (rb_1 (by first | (simp [own, c_1, c_2, c_3]; done) | (simp [own, c_1, c_2, c_3]; omega) | (simp [own]; omega))) dX2_ownsEdge_88 hlocks
set_option maxHeartbeats 4000000 in
set_option maxRecDepth 100000 in
theorem c_X2_liesInsideOrOnOwnEdges (l : Launch) (dC : Nat → ClassId) (dI : Nat → Nat → Nat) (cI cL cZ : ClassId) (a : Nat → Nat) (v : SV) (t x y : Nat) (hv : okS v) (ht : t < 200) (hx : x < 512) (hy : y < 512) : Met l yX2_liesInsideOrOnOwnEdges wsX2_liesInsideOrOnOwnEdges ({ frames := 2, cells := 0, slots := 0, locals := 48 }) (va_Pc [.ref (a 0), .int (nI (t)), .int (nI (x)), .int (nI (y))] (ro_B (dC, dI) vwCl (wS cI cL a v) (tyS cI cL cZ))) (k2_QcV (.int (bI (lie v.1 t (x : Int) (y : Int))))) 0 0 (fun _ => False) := by
  refine ro_Met (cc := cX2_liesInsideOrOnOwnEdges) (maxL := 6) (ret := (some .boolean)) (by decide) rfl (Nat.le_of_ble_eq_true rfl) ?_
  intro pr en s m below meth co ls hx hb hml hr hlocks hown hts hP hK hl
  have hl : lv_has ls 6 [(0, .ref (a 0)), (1, .int (nI (t))), (2, .int (nI (x))), (3, .int (nI (y)))] := hl
  have hown : s.vm.findClass RX2 = some m.cls := hown
  have hvp : sPn v ≤ 60 ∧ sTn v ≤ 60 ∧ sTm v ≤ 200 := ⟨hv.2.1, hv.2.2.2.1, hv.2.2.2.2.1⟩
  refine lv_iconst (v := nI (0)) hx hb dX2_liesInsideOrOnOwnEdges_0 (by decide) ?_
  refine lv_istore (lv' := [(4, .int (nI (0))), (0, .ref (a 0)), (1, .int (nI (t))), (2, .int (nI (x))), (3, .int (nI (y)))]) hx hb dX2_liesInsideOrOnOwnEdges_1 hl (by decide) rfl (fun ls hl => ?_)
  refine lp (σ := Nat) (LV := fun n => [(0, .ref (a 0)), (1, .int (nI (t))), (2, .int (nI (x))), (3, .int (nI (y))), (4, .int (nI (n)))]) (I := fun k n => n + k = 3 ∧ lie v.1 t (x : Int) (y : Int) = alf (fun k => decide (0 < tbe v.1 t k (x : Int) (y : Int)) || (decide (tbe v.1 t k (x : Int) (y : Int) = 0) && own v.1 t k)) k n) (fun k n ls hI_k hl ih_k => ?_) (3) (0) ls ⟨by omega, rfl⟩ (lv_sub hl [1, 2, 3, 4, 0] rfl)
  obtain ⟨hk, hi⟩ := hI_k
  refine lv_iload hx hb dX2_liesInsideOrOnOwnEdges_3 (lv_at hl 4 rfl) ?_
  refine lv_iconst (v := nI (3)) hx hb dX2_liesInsideOrOnOwnEdges_5 (by decide) ?_
  refine lv_icmp_ge (tgt := 48) hx hb dX2_liesInsideOrOnOwnEdges_6 (by decide) (fun c_1 => ?_) (fun c_1 => ?_)
  · skip
    have c_1 : 3 ≤ n := (nI_leI (a := 3) (b := n) (by omega) (by omega)).mp c_1
    refine lv_iconst (v := nI (1)) hx hb dX2_liesInsideOrOnOwnEdges_48 (by decide) ?_
    exact ro_zret hx hb hr (by decide) (rb_1 (by rw [hi, show k = 0 by omega]; rfl)) dX2_liesInsideOrOnOwnEdges_49 hlocks
  · skip
    have c_1 : ¬ (3 ≤ n) := fun hq9 => c_1 ((nI_leI (a := 3) (b := n) (by omega) (by omega)).mpr hq9)
    refine lv_aload_n hx hb dX2_liesInsideOrOnOwnEdges_9 rfl (lv_at hl 0 rfl) ?_
    refine lv_iload_n hx hb dX2_liesInsideOrOnOwnEdges_10 rfl (lv_at hl 1 rfl) ?_
    refine lv_iload hx hb dX2_liesInsideOrOnOwnEdges_11 (lv_at hl 4 rfl) ?_
    refine lv_iload_n hx hb dX2_liesInsideOrOnOwnEdges_13 rfl (lv_at hl 2 rfl) ?_
    refine lv_iload_n hx hb dX2_liesInsideOrOnOwnEdges_14 rfl (lv_at hl 3 rfl) ?_
    refine ro_V (As := [.int (nI (t)), .int (nI (n)), .int (nI (x)), .int (nI (y))]) (rest := []) (q0 := 0) (ci := 2) hx hb hml hown hts (c_X2_turnBesideEdge l dC dI cI cL cZ a v t n x y hv (by omega) (by omega)) (cwV 4 hts gX2_liesInsideOrOnOwnEdges_X2_turnBesideEdge rfl rfl rfl (by decide +kernel) ⟨Nat.le_of_ble_eq_true rfl, Nat.le_of_ble_eq_true rfl⟩) hK hP rfl rfl rfl hl.1 rfl (Nat.le_of_ble_eq_true rfl) dX2_liesInsideOrOnOwnEdges_15 ⟨Nat.zero_le _, Nat.zero_le _⟩ ?_
    have ps_2 : zOk (tbe v.1 t n ((x : Nat) : Int) ((y : Nat) : Int)) := tat_ok hv.1 (by omega) (by omega)
    refine lv_istore (lv' := [(5, .int (iI (tbe v.1 t n (x : Int) (y : Int)))), (0, .ref (a 0)), (1, .int (nI (t))), (2, .int (nI (x))), (3, .int (nI (y))), (4, .int (nI (n)))]) hx hb dX2_liesInsideOrOnOwnEdges_18 hl (by decide) rfl (fun ls hl => ?_)
    refine lv_iload hx hb dX2_liesInsideOrOnOwnEdges_20 (lv_at hl 0 rfl) ?_
    refine lv_if_lt (tgt := 40) hx hb dX2_liesInsideOrOnOwnEdges_22 (by decide) (fun c_3 => ?_) (fun c_3 => ?_)
    · skip
      have c_3 : (tbe v.1 t n (x : Int) (y : Int)) < 0 := (z0_lt (by assumption)).mp c_3
      refine lv_iconst (v := nI (0)) hx hb dX2_liesInsideOrOnOwnEdges_40 (by decide) ?_
      exact ro_zret hx hb hr (by decide) (rb_0 (by rw [hi, alf_f (by omega) (by first | (simp [c_1, c_3]; done) | (simp; omega) | (simp [c_1, c_3]; omega))])) dX2_liesInsideOrOnOwnEdges_41 hlocks
    · skip
      have c_3 : ¬ ((tbe v.1 t n (x : Int) (y : Int)) < 0) := fun hq9 => c_3 ((z0_lt (by assumption)).mpr hq9)
      refine lv_iload hx hb dX2_liesInsideOrOnOwnEdges_25 (lv_at hl 0 rfl) ?_
      refine lv_if_ne (tgt := 42) hx hb dX2_liesInsideOrOnOwnEdges_27 (by decide) (fun c_4 => ?_) (fun c_4 => ?_)
      · skip
        have c_4 : ¬ ((tbe v.1 t n (x : Int) (y : Int)) = 0) := fun hq9 => c_4 ((z0_eq (by assumption)).mpr hq9)
        refine lv_iinc (v := nI (n + 1)) (lv' := [(4, .int (nI (n + 1))), (5, .int (iI (tbe v.1 t n (x : Int) (y : Int)))), (0, .ref (a 0)), (1, .int (nI (t))), (2, .int (nI (x))), (3, .int (nI (y)))]) hx hb dX2_liesInsideOrOnOwnEdges_42 hl (k := 5) rfl (nI_1 (n)) (by decide) rfl (fun ls hl => ?_)
        refine lv_goto (tgt := 3) hx hb dX2_liesInsideOrOnOwnEdges_45 (by decide) ?_
        exact ih_k (k - 1) (n + 1) ls (by omega) ⟨by omega, hi.trans (alf_t (by omega) (by first | (simp [c_1, c_3, c_4]; done) | (simp; omega) | (simp [c_1, c_3, c_4]; omega)))⟩ (lv_sub hl [2, 3, 4, 5, 0] rfl)
      · skip
        have c_4 : (tbe v.1 t n (x : Int) (y : Int)) = 0 := (z0_eq (by assumption)).mp c_4
        refine lv_aload_n hx hb dX2_liesInsideOrOnOwnEdges_30 rfl (lv_at hl 1 rfl) ?_
        refine lv_iload_n hx hb dX2_liesInsideOrOnOwnEdges_31 rfl (lv_at hl 2 rfl) ?_
        refine lv_iload hx hb dX2_liesInsideOrOnOwnEdges_32 (lv_at hl 5 rfl) ?_
        refine ro_V (As := [.int (nI (t)), .int (nI (n))]) (rest := []) (q0 := 0) (ci := 2) hx hb hml hown hts (c_X2_ownsEdge l dC dI cI cL cZ a v t n hv (by omega) (by omega)) (cwV 2 hts gX2_liesInsideOrOnOwnEdges_X2_ownsEdge rfl rfl rfl (by decide +kernel) ⟨Nat.le_of_ble_eq_true rfl, Nat.le_of_ble_eq_true rfl⟩) hK hP rfl rfl rfl hl.1 rfl (Nat.le_of_ble_eq_true rfl) dX2_liesInsideOrOnOwnEdges_34 ⟨Nat.zero_le _, Nat.zero_le _⟩ ?_
        refine lv_if_ne (tgt := 42) hx hb dX2_liesInsideOrOnOwnEdges_37 (by decide) (fun c_5 => ?_) (fun c_5 => ?_)
        · skip
          have c_5 : (own v.1 t n) = true := bI_t c_5
          refine lv_iinc (v := nI (n + 1)) (lv' := [(4, .int (nI (n + 1))), (5, .int (iI (tbe v.1 t n (x : Int) (y : Int)))), (0, .ref (a 0)), (1, .int (nI (t))), (2, .int (nI (x))), (3, .int (nI (y)))]) hx hb dX2_liesInsideOrOnOwnEdges_42 hl (k := 5) rfl (nI_1 (n)) (by decide) rfl (fun ls hl => ?_)
          refine lv_goto (tgt := 3) hx hb dX2_liesInsideOrOnOwnEdges_45 (by decide) ?_
          exact ih_k (k - 1) (n + 1) ls (by omega) ⟨by omega, hi.trans (alf_t (by omega) (by first | (simp [c_1, c_3, c_4, c_5]; done) | (simp; omega) | (simp [c_1, c_3, c_4, c_5]; omega)))⟩ (lv_sub hl [2, 3, 4, 5, 0] rfl)
        · skip
          have c_5 : (own v.1 t n) = false := bI_f c_5
          refine lv_iconst (v := nI (0)) hx hb dX2_liesInsideOrOnOwnEdges_40 (by decide) ?_
          exact ro_zret hx hb hr (by decide) (rb_0 (by rw [hi, alf_f (by omega) (by first | (simp [c_1, c_3, c_4, c_5]; done) | (simp; omega) | (simp [c_1, c_3, c_4, c_5]; omega))])) dX2_liesInsideOrOnOwnEdges_41 hlocks
set_option maxHeartbeats 4000000 in
set_option maxRecDepth 100000 in
theorem c_X2_coversPixel (l : Launch) (dC : Nat → ClassId) (dI : Nat → Nat → Nat) (cI cL cZ : ClassId) (a : Nat → Nat) (v : SV) (t i j : Nat) (hv : okS v) (ht : t < 200) (hi : i < 32) (hj : j < 32) : Met l yX2_coversPixel wsX2_coversPixel ({ frames := 4, cells := 0, slots := 0, locals := 89 }) (va_Pc [.ref (a 0), .int (nI (t)), .int (nI (i)), .int (nI (j))] (ro_B (dC, dI) vwCl (wS cI cL a v) (tyS cI cL cZ))) (k2_QcV (.int (bI (cov v.1 t i j)))) 0 0 (fun _ => False) := by
  refine ro_Met (cc := cX2_coversPixel) (maxL := 4) (ret := (some .boolean)) (by decide) rfl (Nat.le_of_ble_eq_true rfl) ?_
  intro pr en s m below meth co ls hx hb hml hr hlocks hown hts hP hK hl
  have hl : lv_has ls 4 [(0, .ref (a 0)), (1, .int (nI (t))), (2, .int (nI (i))), (3, .int (nI (j)))] := hl
  have hown : s.vm.findClass RX2 = some m.cls := hown
  have hvp : sPn v ≤ 60 ∧ sTn v ≤ 60 ∧ sTm v ≤ 200 := ⟨hv.2.1, hv.2.2.2.1, hv.2.2.2.2.1⟩
  refine lv_aload_n hx hb dX2_coversPixel_0 rfl (lv_at hl 0 rfl) ?_
  refine lv_iload_n hx hb dX2_coversPixel_1 rfl (lv_at hl 1 rfl) ?_
  refine ro_V (As := [.int (nI (t))]) (rest := []) (q0 := 0) (ci := 2) hx hb hml hown hts (c_X2_isRight l dC dI cI cL cZ a v t hv (by omega)) (cwV 1 hts gX2_coversPixel_X2_isRight rfl rfl rfl (by decide +kernel) ⟨Nat.le_of_ble_eq_true rfl, Nat.le_of_ble_eq_true rfl⟩) hK hP rfl rfl rfl hl.1 rfl (Nat.le_of_ble_eq_true rfl) dX2_coversPixel_2 ⟨Nat.zero_le _, Nat.zero_le _⟩ ?_
  refine lv_if_eq (tgt := 28) hx hb dX2_coversPixel_5 (by decide) (fun c_1 => ?_) (fun c_1 => ?_)
  · skip
    have c_1 : (rgt v.1 t) = false := bI_f c_1
    refine lv_iconst (v := nI (0)) hx hb dX2_coversPixel_28 (by decide) ?_
    exact ro_zret hx hb hr (by decide) (rb_0 (by simp [cov, c_1])) dX2_coversPixel_29 hlocks
  · skip
    have c_1 : (rgt v.1 t) = true := bI_t c_1
    refine lv_aload_n hx hb dX2_coversPixel_8 rfl (lv_at hl 0 rfl) ?_
    refine lv_iload_n hx hb dX2_coversPixel_9 rfl (lv_at hl 1 rfl) ?_
    refine lv_iload_n hx hb dX2_coversPixel_10 rfl (lv_at hl 2 rfl) ?_
    refine ro_S (As := [.int (nI (i))]) (rest := [.int (nI (t)), .ref (a 0)]) hx hb hml hown hts (c_X2_sampleOf l dC dI  i ) (va_cwS 1 hts gX2_coversPixel_X2_sampleOf rfl rfl rfl (by decide +kernel) ⟨Nat.le_of_ble_eq_true rfl, Nat.le_of_ble_eq_true rfl⟩) (hK.sub [] rfl) (hP.sub [] rfl) rfl hl.1 rfl (Nat.le_of_ble_eq_true rfl) dX2_coversPixel_11 ⟨Nat.zero_le _, Nat.zero_le _⟩ ?_
    refine lv_iload_n hx hb dX2_coversPixel_14 rfl (lv_at hl 3 rfl) ?_
    refine ro_S (As := [.int (nI (j))]) (rest := [.int (nI (16 * i + 8)), .int (nI (t)), .ref (a 0)]) hx hb hml hown hts (c_X2_sampleOf l dC dI  j ) (va_cwS 1 hts gX2_coversPixel_X2_sampleOf rfl rfl rfl (by decide +kernel) ⟨Nat.le_of_ble_eq_true rfl, Nat.le_of_ble_eq_true rfl⟩) (hK.sub [] rfl) (hP.sub [] rfl) rfl hl.1 rfl (Nat.le_of_ble_eq_true rfl) dX2_coversPixel_15 ⟨Nat.zero_le _, Nat.zero_le _⟩ ?_
    refine ro_V (As := [.int (nI (t)), .int (nI (16 * i + 8)), .int (nI (16 * j + 8))]) (rest := []) (q0 := 0) (ci := 2) hx hb hml hown hts (c_X2_liesInsideOrOnOwnEdges l dC dI cI cL cZ a v t (16 * i + 8) (16 * j + 8) hv (by omega) (by omega) (by omega)) (cwV 3 hts gX2_coversPixel_X2_liesInsideOrOnOwnEdges rfl rfl rfl (by decide +kernel) ⟨Nat.le_of_ble_eq_true rfl, Nat.le_of_ble_eq_true rfl⟩) hK hP rfl rfl rfl hl.1 rfl (Nat.le_of_ble_eq_true rfl) dX2_coversPixel_18 ⟨Nat.zero_le _, Nat.zero_le _⟩ ?_
    refine lv_if_eq (tgt := 28) hx hb dX2_coversPixel_21 (by decide) (fun c_2 => ?_) (fun c_2 => ?_)
    · skip
      have c_2 : (lie v.1 t ((16 * i + 8) : Int) ((16 * j + 8) : Int)) = false := bI_f c_2
      refine lv_iconst (v := nI (0)) hx hb dX2_coversPixel_28 (by decide) ?_
      exact ro_zret hx hb hr (by decide) (rb_0 (by simp [cov, c_1, c_2])) dX2_coversPixel_29 hlocks
    · skip
      have c_2 : (lie v.1 t ((16 * i + 8) : Int) ((16 * j + 8) : Int)) = true := bI_t c_2
      refine lv_iconst (v := nI (1)) hx hb dX2_coversPixel_24 (by decide) ?_
      refine lv_goto (tgt := 29) hx hb dX2_coversPixel_25 (by decide) ?_
      exact ro_zret hx hb hr (by decide) (rb_1 (by simp [cov, c_1, c_2])) dX2_coversPixel_29 hlocks
set_option maxHeartbeats 4000000 in
set_option maxRecDepth 100000 in
theorem c_X2_cornerX (l : Launch) (dC : Nat → ClassId) (dI : Nat → Nat → Nat) (cI cL cZ : ClassId) (a : Nat → Nat) (v : SV) (t j : Nat) (hv : okS v) (ht : t < 200) (hj : j < 4) : Met l yX2_cornerX wsX2_cornerX ({ frames := 1, cells := 0, slots := 0, locals := 22 }) (va_Pc [.ref (a 0), .int (nI (t)), .int (nI (j))] (ro_B (dC, dI) vwCl (wS cI cL a v) (tyS cI cL cZ))) (k2_QcV (.int (nI (v.1.1 (gc v.1 t j))))) 0 0 (fun _ => False) := by
  refine ro_Met (cc := cX2_cornerX) (maxL := 3) (ret := (some .int)) (by decide) rfl (Nat.le_of_ble_eq_true rfl) ?_
  intro pr en s m below meth co ls hx hb hml hr hlocks hown hts hP hK hl
  have hl : lv_has ls 3 [(0, .ref (a 0)), (1, .int (nI (t))), (2, .int (nI (j)))] := hl
  have hown : s.vm.findClass RX2 = some m.cls := hown
  have hvp : sPn v ≤ 60 ∧ sTn v ≤ 60 ∧ sTm v ≤ 200 := ⟨hv.2.1, hv.2.2.2.1, hv.2.2.2.2.1⟩
  have hg0 := gc_lt hv.1 (t := t) (k := j)
  have hg1 := gc_lt hv.1 (t := t) (k := j + 1)
  refine lv_aload_n hx hb dX2_cornerX_0 rfl (lv_at hl 0 rfl) ?_
  refine va_get (D := (dC, dI)) (ci := 2) (v := .ref (a 1)) (C := RX2) (T := TX2) (N := 6) hx hb hts (by decide +kernel) hown hK hP 0 rfl rfl 0 (by decide) (hts (.fieldLink RX2 10 "TriangleSheet" "points" "LTriangleSheet$Points;") (by decide +kernel)) (fun _ h9 => h9) rfl dX2_cornerX_1 ?_
  refine lv_aload_n hx hb dX2_cornerX_4 rfl (lv_at hl 0 rfl) ?_
  refine va_get (D := (dC, dI)) (ci := 2) (v := .ref (a 4)) (C := RX2) (T := TX2) (N := 6) hx hb hts (by decide +kernel) hown hK hP 0 rfl rfl 1 (by decide) (hts (.fieldLink RX2 19 "TriangleSheet" "triangles" "LTriangleSheet$Triangles;") (by decide +kernel)) (fun _ h9 => h9) rfl dX2_cornerX_5 ?_
  refine lv_iload_n hx hb dX2_cornerX_8 rfl (lv_at hl 1 rfl) ?_
  refine lv_iload_n hx hb dX2_cornerX_9 rfl (lv_at hl 2 rfl) ?_
  refine ro_V (As := [.int (nI (t)), .int (nI (j))]) (rest := [.ref (a 1)]) (q0 := 4) (ci := 1) hx hb hml hown hts (c_X1_cornerOf l dC dI cI cL cZ a v t j (by omega) (by omega)) (cwV 2 hts gX2_cornerX_X1_cornerOf rfl rfl rfl (by decide +kernel) ⟨Nat.le_of_ble_eq_true rfl, Nat.le_of_ble_eq_true rfl⟩) hK hP rfl rfl rfl hl.1 rfl (Nat.le_of_ble_eq_true rfl) dX2_cornerX_10 ⟨Nat.zero_le _, Nat.zero_le _⟩ ?_
  refine ro_V (As := [.int (nI (gc v.1 t j))]) (rest := []) (q0 := 1) (ci := 0) hx hb hml hown hts (c_X0_x l dC dI cI cL cZ a v (gc v.1 t j) (by omega)) (cwV 1 hts gX2_cornerX_X0_x rfl rfl rfl (by decide +kernel) ⟨Nat.le_of_ble_eq_true rfl, Nat.le_of_ble_eq_true rfl⟩) hK hP rfl rfl rfl hl.1 rfl (Nat.le_of_ble_eq_true rfl) dX2_cornerX_13 ⟨Nat.zero_le _, Nat.zero_le _⟩ ?_
  exact ro_iret hx hb hr rfl dX2_cornerX_16 hlocks
set_option maxHeartbeats 4000000 in
set_option maxRecDepth 100000 in
theorem c_X2_cornerY (l : Launch) (dC : Nat → ClassId) (dI : Nat → Nat → Nat) (cI cL cZ : ClassId) (a : Nat → Nat) (v : SV) (t j : Nat) (hv : okS v) (ht : t < 200) (hj : j < 4) : Met l yX2_cornerY wsX2_cornerY ({ frames := 1, cells := 0, slots := 0, locals := 22 }) (va_Pc [.ref (a 0), .int (nI (t)), .int (nI (j))] (ro_B (dC, dI) vwCl (wS cI cL a v) (tyS cI cL cZ))) (k2_QcV (.int (nI (v.1.2.1 (gc v.1 t j))))) 0 0 (fun _ => False) := by
  refine ro_Met (cc := cX2_cornerY) (maxL := 3) (ret := (some .int)) (by decide) rfl (Nat.le_of_ble_eq_true rfl) ?_
  intro pr en s m below meth co ls hx hb hml hr hlocks hown hts hP hK hl
  have hl : lv_has ls 3 [(0, .ref (a 0)), (1, .int (nI (t))), (2, .int (nI (j)))] := hl
  have hown : s.vm.findClass RX2 = some m.cls := hown
  have hvp : sPn v ≤ 60 ∧ sTn v ≤ 60 ∧ sTm v ≤ 200 := ⟨hv.2.1, hv.2.2.2.1, hv.2.2.2.2.1⟩
  have hg0 := gc_lt hv.1 (t := t) (k := j)
  have hg1 := gc_lt hv.1 (t := t) (k := j + 1)
  refine lv_aload_n hx hb dX2_cornerY_0 rfl (lv_at hl 0 rfl) ?_
  refine va_get (D := (dC, dI)) (ci := 2) (v := .ref (a 1)) (C := RX2) (T := TX2) (N := 6) hx hb hts (by decide +kernel) hown hK hP 0 rfl rfl 0 (by decide) (hts (.fieldLink RX2 10 "TriangleSheet" "points" "LTriangleSheet$Points;") (by decide +kernel)) (fun _ h9 => h9) rfl dX2_cornerY_1 ?_
  refine lv_aload_n hx hb dX2_cornerY_4 rfl (lv_at hl 0 rfl) ?_
  refine va_get (D := (dC, dI)) (ci := 2) (v := .ref (a 4)) (C := RX2) (T := TX2) (N := 6) hx hb hts (by decide +kernel) hown hK hP 0 rfl rfl 1 (by decide) (hts (.fieldLink RX2 19 "TriangleSheet" "triangles" "LTriangleSheet$Triangles;") (by decide +kernel)) (fun _ h9 => h9) rfl dX2_cornerY_5 ?_
  refine lv_iload_n hx hb dX2_cornerY_8 rfl (lv_at hl 1 rfl) ?_
  refine lv_iload_n hx hb dX2_cornerY_9 rfl (lv_at hl 2 rfl) ?_
  refine ro_V (As := [.int (nI (t)), .int (nI (j))]) (rest := [.ref (a 1)]) (q0 := 4) (ci := 1) hx hb hml hown hts (c_X1_cornerOf l dC dI cI cL cZ a v t j (by omega) (by omega)) (cwV 2 hts gX2_cornerY_X1_cornerOf rfl rfl rfl (by decide +kernel) ⟨Nat.le_of_ble_eq_true rfl, Nat.le_of_ble_eq_true rfl⟩) hK hP rfl rfl rfl hl.1 rfl (Nat.le_of_ble_eq_true rfl) dX2_cornerY_10 ⟨Nat.zero_le _, Nat.zero_le _⟩ ?_
  refine ro_V (As := [.int (nI (gc v.1 t j))]) (rest := []) (q0 := 1) (ci := 0) hx hb hml hown hts (c_X0_y l dC dI cI cL cZ a v (gc v.1 t j) (by omega)) (cwV 1 hts gX2_cornerY_X0_y rfl rfl rfl (by decide +kernel) ⟨Nat.le_of_ble_eq_true rfl, Nat.le_of_ble_eq_true rfl⟩) hK hP rfl rfl rfl hl.1 rfl (Nat.le_of_ble_eq_true rfl) dX2_cornerY_13 ⟨Nat.zero_le _, Nat.zero_le _⟩ ?_
  exact ro_iret hx hb hr rfl dX2_cornerY_16 hlocks
set_option maxHeartbeats 4000000 in
set_option maxRecDepth 100000 in
theorem c_X2_leftmost (l : Launch) (dC : Nat → ClassId) (dI : Nat → Nat → Nat) (cI cL cZ : ClassId) (a : Nat → Nat) (v : SV) (t : Nat) (hv : okS v) (ht : t < 200) : Met l yX2_leftmost wsX2_leftmost ({ frames := 2, cells := 0, slots := 0, locals := 44 }) (va_Pc [.ref (a 0), .int (nI (t))] (ro_B (dC, dI) vwCl (wS cI cL a v) (tyS cI cL cZ))) (k2_QcV (.int (nI (lef v.1 t)))) 0 0 (fun _ => False) := by
  refine ro_Met (cc := cX2_leftmost) (maxL := 2) (ret := (some .int)) (by decide) rfl (Nat.le_of_ble_eq_true rfl) ?_
  intro pr en s m below meth co ls hx hb hml hr hlocks hown hts hP hK hl
  have hl : lv_has ls 2 [(0, .ref (a 0)), (1, .int (nI (t)))] := hl
  have hown : s.vm.findClass RX2 = some m.cls := hown
  have hvp : sPn v ≤ 60 ∧ sTn v ≤ 60 ∧ sTm v ≤ 200 := ⟨hv.2.1, hv.2.2.2.1, hv.2.2.2.2.1⟩
  have hq0 := hv.1.1 (gc v.1 t 0)
  have hq1 := hv.1.1 (gc v.1 t 1)
  have hq2 := hv.1.1 (gc v.1 t 2)
  refine lv_aload_n hx hb dX2_leftmost_0 rfl (lv_at hl 0 rfl) ?_
  refine lv_iload_n hx hb dX2_leftmost_1 rfl (lv_at hl 1 rfl) ?_
  refine lv_iconst (v := nI (0)) hx hb dX2_leftmost_2 (by decide) ?_
  refine ro_V (As := [.int (nI (t)), .int (nI (0))]) (rest := []) (q0 := 0) (ci := 2) hx hb hml hown hts (c_X2_cornerX l dC dI cI cL cZ a v t 0 hv (by omega) (by omega)) (cwV 2 hts gX2_leftmost_X2_cornerX rfl rfl rfl (by decide +kernel) ⟨Nat.le_of_ble_eq_true rfl, Nat.le_of_ble_eq_true rfl⟩) hK hP rfl rfl rfl hl.1 rfl (Nat.le_of_ble_eq_true rfl) dX2_leftmost_3 ⟨Nat.zero_le _, Nat.zero_le _⟩ ?_
  refine lv_aload_n hx hb dX2_leftmost_6 rfl (lv_at hl 0 rfl) ?_
  refine lv_iload_n hx hb dX2_leftmost_7 rfl (lv_at hl 1 rfl) ?_
  refine lv_iconst (v := nI (1)) hx hb dX2_leftmost_8 (by decide) ?_
  refine ro_V (As := [.int (nI (t)), .int (nI (1))]) (rest := [.int (nI (v.1.1 (gc v.1 t 0)))]) (q0 := 0) (ci := 2) hx hb hml hown hts (c_X2_cornerX l dC dI cI cL cZ a v t 1 hv (by omega) (by omega)) (cwV 2 hts gX2_leftmost_X2_cornerX rfl rfl rfl (by decide +kernel) ⟨Nat.le_of_ble_eq_true rfl, Nat.le_of_ble_eq_true rfl⟩) hK hP rfl rfl rfl hl.1 rfl (Nat.le_of_ble_eq_true rfl) dX2_leftmost_9 ⟨Nat.zero_le _, Nat.zero_le _⟩ ?_
  refine lv_aload_n hx hb dX2_leftmost_12 rfl (lv_at hl 0 rfl) ?_
  refine lv_iload_n hx hb dX2_leftmost_13 rfl (lv_at hl 1 rfl) ?_
  refine lv_iconst (v := nI (2)) hx hb dX2_leftmost_14 (by decide) ?_
  refine ro_V (As := [.int (nI (t)), .int (nI (2))]) (rest := [.int (nI (v.1.1 (gc v.1 t 1))), .int (nI (v.1.1 (gc v.1 t 0)))]) (q0 := 0) (ci := 2) hx hb hml hown hts (c_X2_cornerX l dC dI cI cL cZ a v t 2 hv (by omega) (by omega)) (cwV 2 hts gX2_leftmost_X2_cornerX rfl rfl rfl (by decide +kernel) ⟨Nat.le_of_ble_eq_true rfl, Nat.le_of_ble_eq_true rfl⟩) hK hP rfl rfl rfl hl.1 rfl (Nat.le_of_ble_eq_true rfl) dX2_leftmost_15 ⟨Nat.zero_le _, Nat.zero_le _⟩ ?_
  refine va_mmin hx hb (hml.trans hl.1.symm) hown (hts (.methodLink RX2 247 Lib.Math.min.name) (by decide +kernel)) (hts (.static Lib.Math.min.name) (by decide +kernel)) (hts (.initialized "java/lang/Math") (by decide +kernel)) (hts (.code Lib.Math.min.name Lib.Math.min.code 2 (some .int)) (by decide +kernel)) (Nat.le_of_ble_eq_true rfl) (Nat.le_of_ble_eq_true rfl) (Nat.zero_le _) (Nat.zero_le _) dX2_leftmost_18 ?_
  refine rt_i (y := (nI (min (v.1.1 (gc v.1 t 1)) (v.1.1 (gc v.1 t 2))))) (mmin_n (by omega) (by omega)) ?_
  refine va_mmin hx hb (hml.trans hl.1.symm) hown (hts (.methodLink RX2 247 Lib.Math.min.name) (by decide +kernel)) (hts (.static Lib.Math.min.name) (by decide +kernel)) (hts (.initialized "java/lang/Math") (by decide +kernel)) (hts (.code Lib.Math.min.name Lib.Math.min.code 2 (some .int)) (by decide +kernel)) (Nat.le_of_ble_eq_true rfl) (Nat.le_of_ble_eq_true rfl) (Nat.zero_le _) (Nat.zero_le _) dX2_leftmost_21 ?_
  refine rt_i (y := (nI (min (v.1.1 (gc v.1 t 0)) (min (v.1.1 (gc v.1 t 1)) (v.1.1 (gc v.1 t 2)))))) (mmin_n (by omega) (by omega)) ?_
  exact ro_iret hx hb hr rfl dX2_leftmost_24 hlocks
set_option maxHeartbeats 4000000 in
set_option maxRecDepth 100000 in
theorem c_X2_rightmost (l : Launch) (dC : Nat → ClassId) (dI : Nat → Nat → Nat) (cI cL cZ : ClassId) (a : Nat → Nat) (v : SV) (t : Nat) (hv : okS v) (ht : t < 200) : Met l yX2_rightmost wsX2_rightmost ({ frames := 2, cells := 0, slots := 0, locals := 44 }) (va_Pc [.ref (a 0), .int (nI (t))] (ro_B (dC, dI) vwCl (wS cI cL a v) (tyS cI cL cZ))) (k2_QcV (.int (nI (rig v.1 t)))) 0 0 (fun _ => False) := by
  refine ro_Met (cc := cX2_rightmost) (maxL := 2) (ret := (some .int)) (by decide) rfl (Nat.le_of_ble_eq_true rfl) ?_
  intro pr en s m below meth co ls hx hb hml hr hlocks hown hts hP hK hl
  have hl : lv_has ls 2 [(0, .ref (a 0)), (1, .int (nI (t)))] := hl
  have hown : s.vm.findClass RX2 = some m.cls := hown
  have hvp : sPn v ≤ 60 ∧ sTn v ≤ 60 ∧ sTm v ≤ 200 := ⟨hv.2.1, hv.2.2.2.1, hv.2.2.2.2.1⟩
  have hq0 := hv.1.1 (gc v.1 t 0)
  have hq1 := hv.1.1 (gc v.1 t 1)
  have hq2 := hv.1.1 (gc v.1 t 2)
  refine lv_aload_n hx hb dX2_rightmost_0 rfl (lv_at hl 0 rfl) ?_
  refine lv_iload_n hx hb dX2_rightmost_1 rfl (lv_at hl 1 rfl) ?_
  refine lv_iconst (v := nI (0)) hx hb dX2_rightmost_2 (by decide) ?_
  refine ro_V (As := [.int (nI (t)), .int (nI (0))]) (rest := []) (q0 := 0) (ci := 2) hx hb hml hown hts (c_X2_cornerX l dC dI cI cL cZ a v t 0 hv (by omega) (by omega)) (cwV 2 hts gX2_rightmost_X2_cornerX rfl rfl rfl (by decide +kernel) ⟨Nat.le_of_ble_eq_true rfl, Nat.le_of_ble_eq_true rfl⟩) hK hP rfl rfl rfl hl.1 rfl (Nat.le_of_ble_eq_true rfl) dX2_rightmost_3 ⟨Nat.zero_le _, Nat.zero_le _⟩ ?_
  refine lv_aload_n hx hb dX2_rightmost_6 rfl (lv_at hl 0 rfl) ?_
  refine lv_iload_n hx hb dX2_rightmost_7 rfl (lv_at hl 1 rfl) ?_
  refine lv_iconst (v := nI (1)) hx hb dX2_rightmost_8 (by decide) ?_
  refine ro_V (As := [.int (nI (t)), .int (nI (1))]) (rest := [.int (nI (v.1.1 (gc v.1 t 0)))]) (q0 := 0) (ci := 2) hx hb hml hown hts (c_X2_cornerX l dC dI cI cL cZ a v t 1 hv (by omega) (by omega)) (cwV 2 hts gX2_rightmost_X2_cornerX rfl rfl rfl (by decide +kernel) ⟨Nat.le_of_ble_eq_true rfl, Nat.le_of_ble_eq_true rfl⟩) hK hP rfl rfl rfl hl.1 rfl (Nat.le_of_ble_eq_true rfl) dX2_rightmost_9 ⟨Nat.zero_le _, Nat.zero_le _⟩ ?_
  refine lv_aload_n hx hb dX2_rightmost_12 rfl (lv_at hl 0 rfl) ?_
  refine lv_iload_n hx hb dX2_rightmost_13 rfl (lv_at hl 1 rfl) ?_
  refine lv_iconst (v := nI (2)) hx hb dX2_rightmost_14 (by decide) ?_
  refine ro_V (As := [.int (nI (t)), .int (nI (2))]) (rest := [.int (nI (v.1.1 (gc v.1 t 1))), .int (nI (v.1.1 (gc v.1 t 0)))]) (q0 := 0) (ci := 2) hx hb hml hown hts (c_X2_cornerX l dC dI cI cL cZ a v t 2 hv (by omega) (by omega)) (cwV 2 hts gX2_rightmost_X2_cornerX rfl rfl rfl (by decide +kernel) ⟨Nat.le_of_ble_eq_true rfl, Nat.le_of_ble_eq_true rfl⟩) hK hP rfl rfl rfl hl.1 rfl (Nat.le_of_ble_eq_true rfl) dX2_rightmost_15 ⟨Nat.zero_le _, Nat.zero_le _⟩ ?_
  refine va_mmax hx hb (hml.trans hl.1.symm) hown (hts (.methodLink RX2 239 Lib.Math.max.name) (by decide +kernel)) (hts (.static Lib.Math.max.name) (by decide +kernel)) (hts (.initialized "java/lang/Math") (by decide +kernel)) (hts (.code Lib.Math.max.name Lib.Math.max.code 2 (some .int)) (by decide +kernel)) (Nat.le_of_ble_eq_true rfl) (Nat.le_of_ble_eq_true rfl) (Nat.zero_le _) (Nat.zero_le _) dX2_rightmost_18 ?_
  refine rt_i (y := (nI (max (v.1.1 (gc v.1 t 1)) (v.1.1 (gc v.1 t 2))))) (mmax_n (by omega) (by omega)) ?_
  refine va_mmax hx hb (hml.trans hl.1.symm) hown (hts (.methodLink RX2 239 Lib.Math.max.name) (by decide +kernel)) (hts (.static Lib.Math.max.name) (by decide +kernel)) (hts (.initialized "java/lang/Math") (by decide +kernel)) (hts (.code Lib.Math.max.name Lib.Math.max.code 2 (some .int)) (by decide +kernel)) (Nat.le_of_ble_eq_true rfl) (Nat.le_of_ble_eq_true rfl) (Nat.zero_le _) (Nat.zero_le _) dX2_rightmost_21 ?_
  refine rt_i (y := (nI (max (v.1.1 (gc v.1 t 0)) (max (v.1.1 (gc v.1 t 1)) (v.1.1 (gc v.1 t 2)))))) (mmax_n (by omega) (by omega)) ?_
  exact ro_iret hx hb hr rfl dX2_rightmost_24 hlocks
set_option maxHeartbeats 4000000 in
set_option maxRecDepth 100000 in
theorem c_X2_lowest (l : Launch) (dC : Nat → ClassId) (dI : Nat → Nat → Nat) (cI cL cZ : ClassId) (a : Nat → Nat) (v : SV) (t : Nat) (hv : okS v) (ht : t < 200) : Met l yX2_lowest wsX2_lowest ({ frames := 2, cells := 0, slots := 0, locals := 44 }) (va_Pc [.ref (a 0), .int (nI (t))] (ro_B (dC, dI) vwCl (wS cI cL a v) (tyS cI cL cZ))) (k2_QcV (.int (nI (low v.1 t)))) 0 0 (fun _ => False) := by
  refine ro_Met (cc := cX2_lowest) (maxL := 2) (ret := (some .int)) (by decide) rfl (Nat.le_of_ble_eq_true rfl) ?_
  intro pr en s m below meth co ls hx hb hml hr hlocks hown hts hP hK hl
  have hl : lv_has ls 2 [(0, .ref (a 0)), (1, .int (nI (t)))] := hl
  have hown : s.vm.findClass RX2 = some m.cls := hown
  have hvp : sPn v ≤ 60 ∧ sTn v ≤ 60 ∧ sTm v ≤ 200 := ⟨hv.2.1, hv.2.2.2.1, hv.2.2.2.2.1⟩
  have hq0 := hv.1.2.1 (gc v.1 t 0)
  have hq1 := hv.1.2.1 (gc v.1 t 1)
  have hq2 := hv.1.2.1 (gc v.1 t 2)
  refine lv_aload_n hx hb dX2_lowest_0 rfl (lv_at hl 0 rfl) ?_
  refine lv_iload_n hx hb dX2_lowest_1 rfl (lv_at hl 1 rfl) ?_
  refine lv_iconst (v := nI (0)) hx hb dX2_lowest_2 (by decide) ?_
  refine ro_V (As := [.int (nI (t)), .int (nI (0))]) (rest := []) (q0 := 0) (ci := 2) hx hb hml hown hts (c_X2_cornerY l dC dI cI cL cZ a v t 0 hv (by omega) (by omega)) (cwV 2 hts gX2_lowest_X2_cornerY rfl rfl rfl (by decide +kernel) ⟨Nat.le_of_ble_eq_true rfl, Nat.le_of_ble_eq_true rfl⟩) hK hP rfl rfl rfl hl.1 rfl (Nat.le_of_ble_eq_true rfl) dX2_lowest_3 ⟨Nat.zero_le _, Nat.zero_le _⟩ ?_
  refine lv_aload_n hx hb dX2_lowest_6 rfl (lv_at hl 0 rfl) ?_
  refine lv_iload_n hx hb dX2_lowest_7 rfl (lv_at hl 1 rfl) ?_
  refine lv_iconst (v := nI (1)) hx hb dX2_lowest_8 (by decide) ?_
  refine ro_V (As := [.int (nI (t)), .int (nI (1))]) (rest := [.int (nI (v.1.2.1 (gc v.1 t 0)))]) (q0 := 0) (ci := 2) hx hb hml hown hts (c_X2_cornerY l dC dI cI cL cZ a v t 1 hv (by omega) (by omega)) (cwV 2 hts gX2_lowest_X2_cornerY rfl rfl rfl (by decide +kernel) ⟨Nat.le_of_ble_eq_true rfl, Nat.le_of_ble_eq_true rfl⟩) hK hP rfl rfl rfl hl.1 rfl (Nat.le_of_ble_eq_true rfl) dX2_lowest_9 ⟨Nat.zero_le _, Nat.zero_le _⟩ ?_
  refine lv_aload_n hx hb dX2_lowest_12 rfl (lv_at hl 0 rfl) ?_
  refine lv_iload_n hx hb dX2_lowest_13 rfl (lv_at hl 1 rfl) ?_
  refine lv_iconst (v := nI (2)) hx hb dX2_lowest_14 (by decide) ?_
  refine ro_V (As := [.int (nI (t)), .int (nI (2))]) (rest := [.int (nI (v.1.2.1 (gc v.1 t 1))), .int (nI (v.1.2.1 (gc v.1 t 0)))]) (q0 := 0) (ci := 2) hx hb hml hown hts (c_X2_cornerY l dC dI cI cL cZ a v t 2 hv (by omega) (by omega)) (cwV 2 hts gX2_lowest_X2_cornerY rfl rfl rfl (by decide +kernel) ⟨Nat.le_of_ble_eq_true rfl, Nat.le_of_ble_eq_true rfl⟩) hK hP rfl rfl rfl hl.1 rfl (Nat.le_of_ble_eq_true rfl) dX2_lowest_15 ⟨Nat.zero_le _, Nat.zero_le _⟩ ?_
  refine va_mmin hx hb (hml.trans hl.1.symm) hown (hts (.methodLink RX2 247 Lib.Math.min.name) (by decide +kernel)) (hts (.static Lib.Math.min.name) (by decide +kernel)) (hts (.initialized "java/lang/Math") (by decide +kernel)) (hts (.code Lib.Math.min.name Lib.Math.min.code 2 (some .int)) (by decide +kernel)) (Nat.le_of_ble_eq_true rfl) (Nat.le_of_ble_eq_true rfl) (Nat.zero_le _) (Nat.zero_le _) dX2_lowest_18 ?_
  refine rt_i (y := (nI (min (v.1.2.1 (gc v.1 t 1)) (v.1.2.1 (gc v.1 t 2))))) (mmin_n (by omega) (by omega)) ?_
  refine va_mmin hx hb (hml.trans hl.1.symm) hown (hts (.methodLink RX2 247 Lib.Math.min.name) (by decide +kernel)) (hts (.static Lib.Math.min.name) (by decide +kernel)) (hts (.initialized "java/lang/Math") (by decide +kernel)) (hts (.code Lib.Math.min.name Lib.Math.min.code 2 (some .int)) (by decide +kernel)) (Nat.le_of_ble_eq_true rfl) (Nat.le_of_ble_eq_true rfl) (Nat.zero_le _) (Nat.zero_le _) dX2_lowest_21 ?_
  refine rt_i (y := (nI (min (v.1.2.1 (gc v.1 t 0)) (min (v.1.2.1 (gc v.1 t 1)) (v.1.2.1 (gc v.1 t 2)))))) (mmin_n (by omega) (by omega)) ?_
  exact ro_iret hx hb hr rfl dX2_lowest_24 hlocks
set_option maxHeartbeats 4000000 in
set_option maxRecDepth 100000 in
theorem c_X2_highest (l : Launch) (dC : Nat → ClassId) (dI : Nat → Nat → Nat) (cI cL cZ : ClassId) (a : Nat → Nat) (v : SV) (t : Nat) (hv : okS v) (ht : t < 200) : Met l yX2_highest wsX2_highest ({ frames := 2, cells := 0, slots := 0, locals := 44 }) (va_Pc [.ref (a 0), .int (nI (t))] (ro_B (dC, dI) vwCl (wS cI cL a v) (tyS cI cL cZ))) (k2_QcV (.int (nI (hig v.1 t)))) 0 0 (fun _ => False) := by
  refine ro_Met (cc := cX2_highest) (maxL := 2) (ret := (some .int)) (by decide) rfl (Nat.le_of_ble_eq_true rfl) ?_
  intro pr en s m below meth co ls hx hb hml hr hlocks hown hts hP hK hl
  have hl : lv_has ls 2 [(0, .ref (a 0)), (1, .int (nI (t)))] := hl
  have hown : s.vm.findClass RX2 = some m.cls := hown
  have hvp : sPn v ≤ 60 ∧ sTn v ≤ 60 ∧ sTm v ≤ 200 := ⟨hv.2.1, hv.2.2.2.1, hv.2.2.2.2.1⟩
  have hq0 := hv.1.2.1 (gc v.1 t 0)
  have hq1 := hv.1.2.1 (gc v.1 t 1)
  have hq2 := hv.1.2.1 (gc v.1 t 2)
  refine lv_aload_n hx hb dX2_highest_0 rfl (lv_at hl 0 rfl) ?_
  refine lv_iload_n hx hb dX2_highest_1 rfl (lv_at hl 1 rfl) ?_
  refine lv_iconst (v := nI (0)) hx hb dX2_highest_2 (by decide) ?_
  refine ro_V (As := [.int (nI (t)), .int (nI (0))]) (rest := []) (q0 := 0) (ci := 2) hx hb hml hown hts (c_X2_cornerY l dC dI cI cL cZ a v t 0 hv (by omega) (by omega)) (cwV 2 hts gX2_highest_X2_cornerY rfl rfl rfl (by decide +kernel) ⟨Nat.le_of_ble_eq_true rfl, Nat.le_of_ble_eq_true rfl⟩) hK hP rfl rfl rfl hl.1 rfl (Nat.le_of_ble_eq_true rfl) dX2_highest_3 ⟨Nat.zero_le _, Nat.zero_le _⟩ ?_
  refine lv_aload_n hx hb dX2_highest_6 rfl (lv_at hl 0 rfl) ?_
  refine lv_iload_n hx hb dX2_highest_7 rfl (lv_at hl 1 rfl) ?_
  refine lv_iconst (v := nI (1)) hx hb dX2_highest_8 (by decide) ?_
  refine ro_V (As := [.int (nI (t)), .int (nI (1))]) (rest := [.int (nI (v.1.2.1 (gc v.1 t 0)))]) (q0 := 0) (ci := 2) hx hb hml hown hts (c_X2_cornerY l dC dI cI cL cZ a v t 1 hv (by omega) (by omega)) (cwV 2 hts gX2_highest_X2_cornerY rfl rfl rfl (by decide +kernel) ⟨Nat.le_of_ble_eq_true rfl, Nat.le_of_ble_eq_true rfl⟩) hK hP rfl rfl rfl hl.1 rfl (Nat.le_of_ble_eq_true rfl) dX2_highest_9 ⟨Nat.zero_le _, Nat.zero_le _⟩ ?_
  refine lv_aload_n hx hb dX2_highest_12 rfl (lv_at hl 0 rfl) ?_
  refine lv_iload_n hx hb dX2_highest_13 rfl (lv_at hl 1 rfl) ?_
  refine lv_iconst (v := nI (2)) hx hb dX2_highest_14 (by decide) ?_
  refine ro_V (As := [.int (nI (t)), .int (nI (2))]) (rest := [.int (nI (v.1.2.1 (gc v.1 t 1))), .int (nI (v.1.2.1 (gc v.1 t 0)))]) (q0 := 0) (ci := 2) hx hb hml hown hts (c_X2_cornerY l dC dI cI cL cZ a v t 2 hv (by omega) (by omega)) (cwV 2 hts gX2_highest_X2_cornerY rfl rfl rfl (by decide +kernel) ⟨Nat.le_of_ble_eq_true rfl, Nat.le_of_ble_eq_true rfl⟩) hK hP rfl rfl rfl hl.1 rfl (Nat.le_of_ble_eq_true rfl) dX2_highest_15 ⟨Nat.zero_le _, Nat.zero_le _⟩ ?_
  refine va_mmax hx hb (hml.trans hl.1.symm) hown (hts (.methodLink RX2 239 Lib.Math.max.name) (by decide +kernel)) (hts (.static Lib.Math.max.name) (by decide +kernel)) (hts (.initialized "java/lang/Math") (by decide +kernel)) (hts (.code Lib.Math.max.name Lib.Math.max.code 2 (some .int)) (by decide +kernel)) (Nat.le_of_ble_eq_true rfl) (Nat.le_of_ble_eq_true rfl) (Nat.zero_le _) (Nat.zero_le _) dX2_highest_18 ?_
  refine rt_i (y := (nI (max (v.1.2.1 (gc v.1 t 1)) (v.1.2.1 (gc v.1 t 2))))) (mmax_n (by omega) (by omega)) ?_
  refine va_mmax hx hb (hml.trans hl.1.symm) hown (hts (.methodLink RX2 239 Lib.Math.max.name) (by decide +kernel)) (hts (.static Lib.Math.max.name) (by decide +kernel)) (hts (.initialized "java/lang/Math") (by decide +kernel)) (hts (.code Lib.Math.max.name Lib.Math.max.code 2 (some .int)) (by decide +kernel)) (Nat.le_of_ble_eq_true rfl) (Nat.le_of_ble_eq_true rfl) (Nat.zero_le _) (Nat.zero_le _) dX2_highest_21 ?_
  refine rt_i (y := (nI (max (v.1.2.1 (gc v.1 t 0)) (max (v.1.2.1 (gc v.1 t 1)) (v.1.2.1 (gc v.1 t 2)))))) (mmax_n (by omega) (by omega)) ?_
  exact ro_iret hx hb hr rfl dX2_highest_24 hlocks
set_option maxHeartbeats 4000000 in
set_option maxRecDepth 100000 in
theorem c_X2_areFarApart (l : Launch) (dC : Nat → ClassId) (dI : Nat → Nat → Nat) (cI cL cZ : ClassId) (a : Nat → Nat) (v : SV) (t u : Nat) (hv : okS v) (ht : t < 200) (hu : u < 200) : Met l yX2_areFarApart wsX2_areFarApart ({ frames := 3, cells := 0, slots := 0, locals := 65 }) (va_Pc [.ref (a 0), .int (nI (t)), .int (nI (u))] (ro_B (dC, dI) vwCl (wS cI cL a v) (tyS cI cL cZ))) (k2_QcV (.int (bI (far v.1 t u)))) 0 0 (fun _ => False) := by
  refine ro_Met (cc := cX2_areFarApart) (maxL := 3) (ret := (some .boolean)) (by decide) rfl (Nat.le_of_ble_eq_true rfl) ?_
  intro pr en s m below meth co ls hx hb hml hr hlocks hown hts hP hK hl
  have hl : lv_has ls 3 [(0, .ref (a 0)), (1, .int (nI (t))), (2, .int (nI (u)))] := hl
  have hown : s.vm.findClass RX2 = some m.cls := hown
  have hvp : sPn v ≤ 60 ∧ sTn v ≤ 60 ∧ sTm v ≤ 200 := ⟨hv.2.1, hv.2.2.2.1, hv.2.2.2.2.1⟩
  refine lv_aload_n hx hb dX2_areFarApart_0 rfl (lv_at hl 0 rfl) ?_
  refine lv_iload_n hx hb dX2_areFarApart_1 rfl (lv_at hl 1 rfl) ?_
  refine ro_V (As := [.int (nI (t))]) (rest := []) (q0 := 0) (ci := 2) hx hb hml hown hts (c_X2_rightmost l dC dI cI cL cZ a v t hv (by omega)) (cwV 1 hts gX2_areFarApart_X2_rightmost rfl rfl rfl (by decide +kernel) ⟨Nat.le_of_ble_eq_true rfl, Nat.le_of_ble_eq_true rfl⟩) hK hP rfl rfl rfl hl.1 rfl (Nat.le_of_ble_eq_true rfl) dX2_areFarApart_2 ⟨Nat.zero_le _, Nat.zero_le _⟩ ?_
  have ps_1 : rig v.1 t < 512 := rig_lt hv.1
  refine lv_aload_n hx hb dX2_areFarApart_5 rfl (lv_at hl 0 rfl) ?_
  refine lv_iload_n hx hb dX2_areFarApart_6 rfl (lv_at hl 2 rfl) ?_
  refine ro_V (As := [.int (nI (u))]) (rest := [.int (nI (rig v.1 t))]) (q0 := 0) (ci := 2) hx hb hml hown hts (c_X2_leftmost l dC dI cI cL cZ a v u hv (by omega)) (cwV 1 hts gX2_areFarApart_X2_leftmost rfl rfl rfl (by decide +kernel) ⟨Nat.le_of_ble_eq_true rfl, Nat.le_of_ble_eq_true rfl⟩) hK hP rfl rfl rfl hl.1 rfl (Nat.le_of_ble_eq_true rfl) dX2_areFarApart_7 ⟨Nat.zero_le _, Nat.zero_le _⟩ ?_
  have ps_2 : lef v.1 u < 512 := lef_lt hv.1
  refine lv_icmp_lt (tgt := 52) hx hb dX2_areFarApart_10 (by decide) (fun c_3 => ?_) (fun c_3 => ?_)
  · skip
    have c_3 : rig v.1 t < lef v.1 u := (nI_ltI (a := rig v.1 t) (b := lef v.1 u) (by omega) (by omega)).mp c_3
    refine lv_iconst (v := nI (1)) hx hb dX2_areFarApart_52 (by decide) ?_
    refine lv_goto (tgt := 57) hx hb dX2_areFarApart_53 (by decide) ?_
    exact ro_zret hx hb hr (by decide) (rb_1 (by first | (simp [far, c_3]; done) | (simp [far, c_3]; omega) | (simp [far]; omega))) dX2_areFarApart_57 hlocks
  · skip
    have c_3 : ¬ (rig v.1 t < lef v.1 u) := fun hq9 => c_3 ((nI_ltI (a := rig v.1 t) (b := lef v.1 u) (by omega) (by omega)).mpr hq9)
    refine lv_aload_n hx hb dX2_areFarApart_13 rfl (lv_at hl 0 rfl) ?_
    refine lv_iload_n hx hb dX2_areFarApart_14 rfl (lv_at hl 2 rfl) ?_
    refine ro_V (As := [.int (nI (u))]) (rest := []) (q0 := 0) (ci := 2) hx hb hml hown hts (c_X2_rightmost l dC dI cI cL cZ a v u hv (by omega)) (cwV 1 hts gX2_areFarApart_X2_rightmost rfl rfl rfl (by decide +kernel) ⟨Nat.le_of_ble_eq_true rfl, Nat.le_of_ble_eq_true rfl⟩) hK hP rfl rfl rfl hl.1 rfl (Nat.le_of_ble_eq_true rfl) dX2_areFarApart_15 ⟨Nat.zero_le _, Nat.zero_le _⟩ ?_
    have ps_4 : rig v.1 u < 512 := rig_lt hv.1
    refine lv_aload_n hx hb dX2_areFarApart_18 rfl (lv_at hl 0 rfl) ?_
    refine lv_iload_n hx hb dX2_areFarApart_19 rfl (lv_at hl 1 rfl) ?_
    refine ro_V (As := [.int (nI (t))]) (rest := [.int (nI (rig v.1 u))]) (q0 := 0) (ci := 2) hx hb hml hown hts (c_X2_leftmost l dC dI cI cL cZ a v t hv (by omega)) (cwV 1 hts gX2_areFarApart_X2_leftmost rfl rfl rfl (by decide +kernel) ⟨Nat.le_of_ble_eq_true rfl, Nat.le_of_ble_eq_true rfl⟩) hK hP rfl rfl rfl hl.1 rfl (Nat.le_of_ble_eq_true rfl) dX2_areFarApart_20 ⟨Nat.zero_le _, Nat.zero_le _⟩ ?_
    have ps_5 : lef v.1 t < 512 := lef_lt hv.1
    refine lv_icmp_lt (tgt := 52) hx hb dX2_areFarApart_23 (by decide) (fun c_6 => ?_) (fun c_6 => ?_)
    · skip
      have c_6 : rig v.1 u < lef v.1 t := (nI_ltI (a := rig v.1 u) (b := lef v.1 t) (by omega) (by omega)).mp c_6
      refine lv_iconst (v := nI (1)) hx hb dX2_areFarApart_52 (by decide) ?_
      refine lv_goto (tgt := 57) hx hb dX2_areFarApart_53 (by decide) ?_
      exact ro_zret hx hb hr (by decide) (rb_1 (by first | (simp [far, c_3, c_6]; done) | (simp [far, c_3, c_6]; omega) | (simp [far]; omega))) dX2_areFarApart_57 hlocks
    · skip
      have c_6 : ¬ (rig v.1 u < lef v.1 t) := fun hq9 => c_6 ((nI_ltI (a := rig v.1 u) (b := lef v.1 t) (by omega) (by omega)).mpr hq9)
      refine lv_aload_n hx hb dX2_areFarApart_26 rfl (lv_at hl 0 rfl) ?_
      refine lv_iload_n hx hb dX2_areFarApart_27 rfl (lv_at hl 1 rfl) ?_
      refine ro_V (As := [.int (nI (t))]) (rest := []) (q0 := 0) (ci := 2) hx hb hml hown hts (c_X2_highest l dC dI cI cL cZ a v t hv (by omega)) (cwV 1 hts gX2_areFarApart_X2_highest rfl rfl rfl (by decide +kernel) ⟨Nat.le_of_ble_eq_true rfl, Nat.le_of_ble_eq_true rfl⟩) hK hP rfl rfl rfl hl.1 rfl (Nat.le_of_ble_eq_true rfl) dX2_areFarApart_28 ⟨Nat.zero_le _, Nat.zero_le _⟩ ?_
      have ps_7 : hig v.1 t < 512 := hig_lt hv.1
      refine lv_aload_n hx hb dX2_areFarApart_31 rfl (lv_at hl 0 rfl) ?_
      refine lv_iload_n hx hb dX2_areFarApart_32 rfl (lv_at hl 2 rfl) ?_
      refine ro_V (As := [.int (nI (u))]) (rest := [.int (nI (hig v.1 t))]) (q0 := 0) (ci := 2) hx hb hml hown hts (c_X2_lowest l dC dI cI cL cZ a v u hv (by omega)) (cwV 1 hts gX2_areFarApart_X2_lowest rfl rfl rfl (by decide +kernel) ⟨Nat.le_of_ble_eq_true rfl, Nat.le_of_ble_eq_true rfl⟩) hK hP rfl rfl rfl hl.1 rfl (Nat.le_of_ble_eq_true rfl) dX2_areFarApart_33 ⟨Nat.zero_le _, Nat.zero_le _⟩ ?_
      have ps_8 : low v.1 u < 512 := low_lt hv.1
      refine lv_icmp_lt (tgt := 52) hx hb dX2_areFarApart_36 (by decide) (fun c_9 => ?_) (fun c_9 => ?_)
      · skip
        have c_9 : hig v.1 t < low v.1 u := (nI_ltI (a := hig v.1 t) (b := low v.1 u) (by omega) (by omega)).mp c_9
        refine lv_iconst (v := nI (1)) hx hb dX2_areFarApart_52 (by decide) ?_
        refine lv_goto (tgt := 57) hx hb dX2_areFarApart_53 (by decide) ?_
        exact ro_zret hx hb hr (by decide) (rb_1 (by first | (simp [far, c_3, c_6, c_9]; done) | (simp [far, c_3, c_6, c_9]; omega) | (simp [far]; omega))) dX2_areFarApart_57 hlocks
      · skip
        have c_9 : ¬ (hig v.1 t < low v.1 u) := fun hq9 => c_9 ((nI_ltI (a := hig v.1 t) (b := low v.1 u) (by omega) (by omega)).mpr hq9)
        refine lv_aload_n hx hb dX2_areFarApart_39 rfl (lv_at hl 0 rfl) ?_
        refine lv_iload_n hx hb dX2_areFarApart_40 rfl (lv_at hl 2 rfl) ?_
        refine ro_V (As := [.int (nI (u))]) (rest := []) (q0 := 0) (ci := 2) hx hb hml hown hts (c_X2_highest l dC dI cI cL cZ a v u hv (by omega)) (cwV 1 hts gX2_areFarApart_X2_highest rfl rfl rfl (by decide +kernel) ⟨Nat.le_of_ble_eq_true rfl, Nat.le_of_ble_eq_true rfl⟩) hK hP rfl rfl rfl hl.1 rfl (Nat.le_of_ble_eq_true rfl) dX2_areFarApart_41 ⟨Nat.zero_le _, Nat.zero_le _⟩ ?_
        have ps_10 : hig v.1 u < 512 := hig_lt hv.1
        refine lv_aload_n hx hb dX2_areFarApart_44 rfl (lv_at hl 0 rfl) ?_
        refine lv_iload_n hx hb dX2_areFarApart_45 rfl (lv_at hl 1 rfl) ?_
        refine ro_V (As := [.int (nI (t))]) (rest := [.int (nI (hig v.1 u))]) (q0 := 0) (ci := 2) hx hb hml hown hts (c_X2_lowest l dC dI cI cL cZ a v t hv (by omega)) (cwV 1 hts gX2_areFarApart_X2_lowest rfl rfl rfl (by decide +kernel) ⟨Nat.le_of_ble_eq_true rfl, Nat.le_of_ble_eq_true rfl⟩) hK hP rfl rfl rfl hl.1 rfl (Nat.le_of_ble_eq_true rfl) dX2_areFarApart_46 ⟨Nat.zero_le _, Nat.zero_le _⟩ ?_
        have ps_11 : low v.1 t < 512 := low_lt hv.1
        refine lv_icmp_ge (tgt := 56) hx hb dX2_areFarApart_49 (by decide) (fun c_12 => ?_) (fun c_12 => ?_)
        · skip
          have c_12 : low v.1 t ≤ hig v.1 u := (nI_leI (a := low v.1 t) (b := hig v.1 u) (by omega) (by omega)).mp c_12
          refine lv_iconst (v := nI (0)) hx hb dX2_areFarApart_56 (by decide) ?_
          exact ro_zret hx hb hr (by decide) (rb_0 (by first | (simp [far, c_3, c_6, c_9, c_12]; done) | (simp [far, c_3, c_6, c_9, c_12]; omega) | (simp [far]; omega))) dX2_areFarApart_57 hlocks
        · skip
          have c_12 : ¬ (low v.1 t ≤ hig v.1 u) := fun hq9 => c_12 ((nI_leI (a := low v.1 t) (b := hig v.1 u) (by omega) (by omega)).mpr hq9)
          refine lv_iconst (v := nI (1)) hx hb dX2_areFarApart_52 (by decide) ?_
          refine lv_goto (tgt := 57) hx hb dX2_areFarApart_53 (by decide) ?_
          exact ro_zret hx hb hr (by decide) (rb_1 (by first | (simp [far, c_3, c_6, c_9, c_12]; done) | (simp [far, c_3, c_6, c_9, c_12]; omega) | (simp [far]; omega))) dX2_areFarApart_57 hlocks
set_option maxHeartbeats 4000000 in
set_option maxRecDepth 100000 in
theorem c_X2_haveSameCorners (l : Launch) (dC : Nat → ClassId) (dI : Nat → Nat → Nat) (cI cL cZ : ClassId) (a : Nat → Nat) (v : SV) (t u : Nat) (hv : okS v) (ht : t < 200) (hu : u < 200) : Met l yX2_haveSameCorners wsX2_haveSameCorners ({ frames := 1, cells := 0, slots := 0, locals := 22 }) (va_Pc [.ref (a 0), .int (nI (t)), .int (nI (u))] (ro_B (dC, dI) vwCl (wS cI cL a v) (tyS cI cL cZ))) (k2_QcV (.int (bI (sam v.1 t u)))) 0 0 (fun _ => False) := by
  refine ro_Met (cc := cX2_haveSameCorners) (maxL := 4) (ret := (some .boolean)) (by decide) rfl (Nat.le_of_ble_eq_true rfl) ?_
  intro pr en s m below meth co ls hx hb hml hr hlocks hown hts hP hK hl
  have hl : lv_has ls 4 [(0, .ref (a 0)), (1, .int (nI (t))), (2, .int (nI (u)))] := hl
  have hown : s.vm.findClass RX2 = some m.cls := hown
  have hvp : sPn v ≤ 60 ∧ sTn v ≤ 60 ∧ sTm v ≤ 200 := ⟨hv.2.1, hv.2.2.2.1, hv.2.2.2.2.1⟩
  refine lv_iconst (v := nI (0)) hx hb dX2_haveSameCorners_0 (by decide) ?_
  refine lv_istore_n (lv' := [(3, .int (nI (0))), (0, .ref (a 0)), (1, .int (nI (t))), (2, .int (nI (u)))]) hx hb dX2_haveSameCorners_1 rfl hl (by decide) rfl (fun ls hl => ?_)
  refine lp (σ := Nat) (LV := fun n => [(0, .ref (a 0)), (1, .int (nI (t))), (2, .int (nI (u))), (3, .int (nI (n)))]) (I := fun k n => n + k = 3 ∧ sam v.1 t u = alf (fun k => hcr v.1 u (gc v.1 t k)) k n) (fun k n ls hI_k hl ih_k => ?_) (3) (0) ls ⟨by omega, rfl⟩ (lv_sub hl [1, 2, 3, 0] rfl)
  obtain ⟨hk, hi⟩ := hI_k
  refine lv_iload_n hx hb dX2_haveSameCorners_2 rfl (lv_at hl 3 rfl) ?_
  refine lv_iconst (v := nI (3)) hx hb dX2_haveSameCorners_3 (by decide) ?_
  refine lv_icmp_ge (tgt := 35) hx hb dX2_haveSameCorners_4 (by decide) (fun c_1 => ?_) (fun c_1 => ?_)
  · skip
    have c_1 : 3 ≤ n := (nI_leI (a := 3) (b := n) (by omega) (by omega)).mp c_1
    refine lv_iconst (v := nI (1)) hx hb dX2_haveSameCorners_35 (by decide) ?_
    exact ro_zret hx hb hr (by decide) (rb_1 (by rw [hi, show k = 0 by omega]; rfl)) dX2_haveSameCorners_36 hlocks
  · skip
    have c_1 : ¬ (3 ≤ n) := fun hq9 => c_1 ((nI_leI (a := 3) (b := n) (by omega) (by omega)).mpr hq9)
    refine lv_aload_n hx hb dX2_haveSameCorners_7 rfl (lv_at hl 0 rfl) ?_
    refine va_get (D := (dC, dI)) (ci := 2) (v := .ref (a 4)) (C := RX2) (T := TX2) (N := 6) hx hb hts (by decide +kernel) hown hK hP 0 rfl rfl 1 (by decide) (hts (.fieldLink RX2 19 "TriangleSheet" "triangles" "LTriangleSheet$Triangles;") (by decide +kernel)) (fun _ h9 => h9) rfl dX2_haveSameCorners_8 ?_
    refine lv_iload_n hx hb dX2_haveSameCorners_11 rfl (lv_at hl 2 rfl) ?_
    refine lv_aload_n hx hb dX2_haveSameCorners_12 rfl (lv_at hl 0 rfl) ?_
    refine va_get (D := (dC, dI)) (ci := 2) (v := .ref (a 4)) (C := RX2) (T := TX2) (N := 6) hx hb hts (by decide +kernel) hown hK hP 0 rfl rfl 1 (by decide) (hts (.fieldLink RX2 19 "TriangleSheet" "triangles" "LTriangleSheet$Triangles;") (by decide +kernel)) (fun _ h9 => h9) rfl dX2_haveSameCorners_13 ?_
    refine lv_iload_n hx hb dX2_haveSameCorners_16 rfl (lv_at hl 1 rfl) ?_
    refine lv_iload_n hx hb dX2_haveSameCorners_17 rfl (lv_at hl 3 rfl) ?_
    refine ro_V (As := [.int (nI (t)), .int (nI (n))]) (rest := [.int (nI (u)), .ref (a 4)]) (q0 := 4) (ci := 1) hx hb hml hown hts (c_X1_cornerOf l dC dI cI cL cZ a v t n (by omega) (by omega)) (cwV 2 hts gX2_haveSameCorners_X1_cornerOf rfl rfl rfl (by decide +kernel) ⟨Nat.le_of_ble_eq_true rfl, Nat.le_of_ble_eq_true rfl⟩) hK hP rfl rfl rfl hl.1 rfl (Nat.le_of_ble_eq_true rfl) dX2_haveSameCorners_18 ⟨Nat.zero_le _, Nat.zero_le _⟩ ?_
    refine ro_V (As := [.int (nI (u)), .int (nI (gc v.1 t n))]) (rest := []) (q0 := 4) (ci := 1) hx hb hml hown hts (c_X1_hasCorner l dC dI cI cL cZ a v u (gc v.1 t n) hv (by omega) (gc_lt hv.1)) (cwV 2 hts gX2_haveSameCorners_X1_hasCorner rfl rfl rfl (by decide +kernel) ⟨Nat.le_of_ble_eq_true rfl, Nat.le_of_ble_eq_true rfl⟩) hK hP rfl rfl rfl hl.1 rfl (Nat.le_of_ble_eq_true rfl) dX2_haveSameCorners_21 ⟨Nat.zero_le _, Nat.zero_le _⟩ ?_
    refine lv_if_ne (tgt := 29) hx hb dX2_haveSameCorners_24 (by decide) (fun c_2 => ?_) (fun c_2 => ?_)
    · skip
      have c_2 : (hcr v.1 u (gc v.1 t n)) = true := bI_t c_2
      refine lv_iinc (v := nI (n + 1)) (lv' := [(3, .int (nI (n + 1))), (0, .ref (a 0)), (1, .int (nI (t))), (2, .int (nI (u)))]) hx hb dX2_haveSameCorners_29 hl (k := 3) rfl (nI_1 (n)) (by decide) rfl (fun ls hl => ?_)
      refine lv_goto (tgt := 2) hx hb dX2_haveSameCorners_32 (by decide) ?_
      exact ih_k (k - 1) (n + 1) ls (by omega) ⟨by omega, hi.trans (alf_t (by omega) (by simp [c_1, c_2]))⟩ (lv_sub hl [1, 2, 3, 0] rfl)
    · skip
      have c_2 : (hcr v.1 u (gc v.1 t n)) = false := bI_f c_2
      refine lv_iconst (v := nI (0)) hx hb dX2_haveSameCorners_27 (by decide) ?_
      exact ro_zret hx hb hr (by decide) (rb_0 (by rw [hi, alf_f (by omega) (by assumption)])) dX2_haveSameCorners_28 hlocks
set_option maxHeartbeats 4000000 in
set_option maxRecDepth 100000 in
theorem c_X2_reachesInto (l : Launch) (dC : Nat → ClassId) (dI : Nat → Nat → Nat) (cI cL cZ : ClassId) (a : Nat → Nat) (v : SV) (t u : Nat) (hv : okS v) (ht : t < 200) (hu : u < 200) : Met l yX2_reachesInto wsX2_reachesInto ({ frames := 3, cells := 0, slots := 0, locals := 72 }) (va_Pc [.ref (a 0), .int (nI (t)), .int (nI (u))] (ro_B (dC, dI) vwCl (wS cI cL a v) (tyS cI cL cZ))) (k2_QcV (.int (bI (rea v.1 t u)))) 0 0 (fun _ => False) := by
  refine ro_Met (cc := cX2_reachesInto) (maxL := 5) (ret := (some .boolean)) (by decide) rfl (Nat.le_of_ble_eq_true rfl) ?_
  intro pr en s m below meth co ls hx hb hml hr hlocks hown hts hP hK hl
  have hl : lv_has ls 5 [(0, .ref (a 0)), (1, .int (nI (t))), (2, .int (nI (u)))] := hl
  have hown : s.vm.findClass RX2 = some m.cls := hown
  have hvp : sPn v ≤ 60 ∧ sTn v ≤ 60 ∧ sTm v ≤ 200 := ⟨hv.2.1, hv.2.2.2.1, hv.2.2.2.2.1⟩
  refine lv_iconst (v := nI (0)) hx hb dX2_reachesInto_0 (by decide) ?_
  refine lv_istore_n (lv' := [(3, .int (nI (0))), (0, .ref (a 0)), (1, .int (nI (t))), (2, .int (nI (u)))]) hx hb dX2_reachesInto_1 rfl hl (by decide) rfl (fun ls hl => ?_)
  refine lp (σ := Nat) (LV := fun n => [(0, .ref (a 0)), (1, .int (nI (t))), (2, .int (nI (u))), (3, .int (nI (n)))]) (I := fun k n => n + k = 3 ∧ fnd (fun k => !hcr v.1 u (gc v.1 t k) && has v.1 u (gx v.1 (gc v.1 t k)) (gy v.1 (gc v.1 t k))) 3 0 = fnd (fun k => !hcr v.1 u (gc v.1 t k) && has v.1 u (gx v.1 (gc v.1 t k)) (gy v.1 (gc v.1 t k))) k n) (fun k n ls hI_k hl ih_k => ?_) (3) (0) ls ⟨by omega, rfl⟩ (lv_sub hl [1, 2, 3, 0] rfl)
  obtain ⟨hk, hi⟩ := hI_k
  refine lv_iload_n hx hb dX2_reachesInto_2 rfl (lv_at hl 3 rfl) ?_
  refine lv_iconst (v := nI (3)) hx hb dX2_reachesInto_3 (by decide) ?_
  refine lv_icmp_ge (tgt := 65) hx hb dX2_reachesInto_4 (by decide) (fun c_1 => ?_) (fun c_1 => ?_)
  · skip
    have c_1 : 3 ≤ n := (nI_leI (a := 3) (b := n) (by omega) (by omega)).mp c_1
    refine lv_iconst (v := nI (0)) hx hb dX2_reachesInto_65 (by decide) ?_
    exact ro_zret hx hb hr (by decide) (rb_0 (by rw [rea, hi, show k = 0 by omega]; rfl)) dX2_reachesInto_66 hlocks
  · skip
    have c_1 : ¬ (3 ≤ n) := fun hq9 => c_1 ((nI_leI (a := 3) (b := n) (by omega) (by omega)).mpr hq9)
    refine lv_aload_n hx hb dX2_reachesInto_7 rfl (lv_at hl 0 rfl) ?_
    refine va_get (D := (dC, dI)) (ci := 2) (v := .ref (a 4)) (C := RX2) (T := TX2) (N := 6) hx hb hts (by decide +kernel) hown hK hP 0 rfl rfl 1 (by decide) (hts (.fieldLink RX2 19 "TriangleSheet" "triangles" "LTriangleSheet$Triangles;") (by decide +kernel)) (fun _ h9 => h9) rfl dX2_reachesInto_8 ?_
    refine lv_iload_n hx hb dX2_reachesInto_11 rfl (lv_at hl 1 rfl) ?_
    refine lv_iload_n hx hb dX2_reachesInto_12 rfl (lv_at hl 3 rfl) ?_
    refine ro_V (As := [.int (nI (t)), .int (nI (n))]) (rest := []) (q0 := 4) (ci := 1) hx hb hml hown hts (c_X1_cornerOf l dC dI cI cL cZ a v t n (by omega) (by omega)) (cwV 2 hts gX2_reachesInto_X1_cornerOf rfl rfl rfl (by decide +kernel) ⟨Nat.le_of_ble_eq_true rfl, Nat.le_of_ble_eq_true rfl⟩) hK hP rfl rfl rfl hl.1 rfl (Nat.le_of_ble_eq_true rfl) dX2_reachesInto_13 ⟨Nat.zero_le _, Nat.zero_le _⟩ ?_
    refine lv_istore (lv' := [(4, .int (nI (gc v.1 t n))), (0, .ref (a 0)), (1, .int (nI (t))), (2, .int (nI (u))), (3, .int (nI (n)))]) hx hb dX2_reachesInto_16 hl (by decide) rfl (fun ls hl => ?_)
    refine lv_aload_n hx hb dX2_reachesInto_18 rfl (lv_at hl 1 rfl) ?_
    refine va_get (D := (dC, dI)) (ci := 2) (v := .ref (a 4)) (C := RX2) (T := TX2) (N := 6) hx hb hts (by decide +kernel) hown hK hP 0 rfl rfl 1 (by decide) (hts (.fieldLink RX2 19 "TriangleSheet" "triangles" "LTriangleSheet$Triangles;") (by decide +kernel)) (fun _ h9 => h9) rfl dX2_reachesInto_19 ?_
    refine lv_iload_n hx hb dX2_reachesInto_22 rfl (lv_at hl 3 rfl) ?_
    refine lv_iload hx hb dX2_reachesInto_23 (lv_at hl 0 rfl) ?_
    refine ro_V (As := [.int (nI (u)), .int (nI (gc v.1 t n))]) (rest := []) (q0 := 4) (ci := 1) hx hb hml hown hts (c_X1_hasCorner l dC dI cI cL cZ a v u (gc v.1 t n) hv (by omega) (gc_lt hv.1)) (cwV 2 hts gX2_reachesInto_X1_hasCorner rfl rfl rfl (by decide +kernel) ⟨Nat.le_of_ble_eq_true rfl, Nat.le_of_ble_eq_true rfl⟩) hK hP rfl rfl rfl hl.1 rfl (Nat.le_of_ble_eq_true rfl) dX2_reachesInto_25 ⟨Nat.zero_le _, Nat.zero_le _⟩ ?_
    refine lv_if_ne (tgt := 59) hx hb dX2_reachesInto_28 (by decide) (fun c_2 => ?_) (fun c_2 => ?_)
    · skip
      have c_2 : (hcr v.1 u (gc v.1 t n)) = true := bI_t c_2
      refine lv_iinc (v := nI (n + 1)) (lv' := [(3, .int (nI (n + 1))), (4, .int (nI (gc v.1 t n))), (0, .ref (a 0)), (1, .int (nI (t))), (2, .int (nI (u)))]) hx hb dX2_reachesInto_59 hl (k := 4) rfl (nI_1 (n)) (by decide) rfl (fun ls hl => ?_)
      refine lv_goto (tgt := 2) hx hb dX2_reachesInto_62 (by decide) ?_
      exact ih_k (k - 1) (n + 1) ls (by omega) ⟨by omega, hi.trans (fnd_miss (by omega) (by simp [c_1, c_2]))⟩ (lv_sub hl [2, 3, 4, 0] rfl)
    · skip
      have c_2 : (hcr v.1 u (gc v.1 t n)) = false := bI_f c_2
      refine lv_aload_n hx hb dX2_reachesInto_31 rfl (lv_at hl 1 rfl) ?_
      refine lv_iload_n hx hb dX2_reachesInto_32 rfl (lv_at hl 3 rfl) ?_
      refine lv_aload_n hx hb dX2_reachesInto_33 rfl (lv_at hl 1 rfl) ?_
      refine va_get (D := (dC, dI)) (ci := 2) (v := .ref (a 1)) (C := RX2) (T := TX2) (N := 6) hx hb hts (by decide +kernel) hown hK hP 0 rfl rfl 0 (by decide) (hts (.fieldLink RX2 10 "TriangleSheet" "points" "LTriangleSheet$Points;") (by decide +kernel)) (fun _ h9 => h9) rfl dX2_reachesInto_34 ?_
      refine lv_iload hx hb dX2_reachesInto_37 (lv_at hl 0 rfl) ?_
      refine ro_V (As := [.int (nI (gc v.1 t n))]) (rest := [.int (nI (u)), .ref (a 0)]) (q0 := 1) (ci := 0) hx hb hml hown hts (c_X0_x l dC dI cI cL cZ a v (gc v.1 t n) (gc_lt hv.1)) (cwV 1 hts gX2_reachesInto_X0_x rfl rfl rfl (by decide +kernel) ⟨Nat.le_of_ble_eq_true rfl, Nat.le_of_ble_eq_true rfl⟩) hK hP rfl rfl rfl hl.1 rfl (Nat.le_of_ble_eq_true rfl) dX2_reachesInto_39 ⟨Nat.zero_le _, Nat.zero_le _⟩ ?_
      refine lv_aload_n hx hb dX2_reachesInto_42 rfl (lv_at hl 1 rfl) ?_
      refine va_get (D := (dC, dI)) (ci := 2) (v := .ref (a 1)) (C := RX2) (T := TX2) (N := 6) hx hb hts (by decide +kernel) hown hK hP 0 rfl rfl 0 (by decide) (hts (.fieldLink RX2 10 "TriangleSheet" "points" "LTriangleSheet$Points;") (by decide +kernel)) (fun _ h9 => h9) rfl dX2_reachesInto_43 ?_
      refine lv_iload hx hb dX2_reachesInto_46 (lv_at hl 0 rfl) ?_
      refine ro_V (As := [.int (nI (gc v.1 t n))]) (rest := [.int (nI (v.1.1 (gc v.1 t n))), .int (nI (u)), .ref (a 0)]) (q0 := 1) (ci := 0) hx hb hml hown hts (c_X0_y l dC dI cI cL cZ a v (gc v.1 t n) (gc_lt hv.1)) (cwV 1 hts gX2_reachesInto_X0_y rfl rfl rfl (by decide +kernel) ⟨Nat.le_of_ble_eq_true rfl, Nat.le_of_ble_eq_true rfl⟩) hK hP rfl rfl rfl hl.1 rfl (Nat.le_of_ble_eq_true rfl) dX2_reachesInto_48 ⟨Nat.zero_le _, Nat.zero_le _⟩ ?_
      refine ro_V (As := [.int (nI (u)), .int (nI (v.1.1 (gc v.1 t n))), .int (nI (v.1.2.1 (gc v.1 t n)))]) (rest := []) (q0 := 0) (ci := 2) hx hb hml hown hts (c_X2_hasPlace l dC dI cI cL cZ a v u (v.1.1 (gc v.1 t n)) (v.1.2.1 (gc v.1 t n)) hv (by omega) (hv.1.1 _) (hv.1.2.1 _)) (cwV 3 hts gX2_reachesInto_X2_hasPlace rfl rfl rfl (by decide +kernel) ⟨Nat.le_of_ble_eq_true rfl, Nat.le_of_ble_eq_true rfl⟩) hK hP rfl rfl rfl hl.1 rfl (Nat.le_of_ble_eq_true rfl) dX2_reachesInto_51 ⟨Nat.zero_le _, Nat.zero_le _⟩ ?_
      refine rt_i (y := (bI (has v.1 u (gx v.1 (gc v.1 t (n))) (gy v.1 (gc v.1 t (n)))))) rfl ?_
      refine lv_if_eq (tgt := 59) hx hb dX2_reachesInto_54 (by decide) (fun c_3 => ?_) (fun c_3 => ?_)
      · skip
        have c_3 : (has v.1 u (gx v.1 (gc v.1 t (n))) (gy v.1 (gc v.1 t (n)))) = false := bI_f c_3
        refine lv_iinc (v := nI (n + 1)) (lv' := [(3, .int (nI (n + 1))), (4, .int (nI (gc v.1 t n))), (0, .ref (a 0)), (1, .int (nI (t))), (2, .int (nI (u)))]) hx hb dX2_reachesInto_59 hl (k := 4) rfl (nI_1 (n)) (by decide) rfl (fun ls hl => ?_)
        refine lv_goto (tgt := 2) hx hb dX2_reachesInto_62 (by decide) ?_
        exact ih_k (k - 1) (n + 1) ls (by omega) ⟨by omega, hi.trans (fnd_miss (by omega) (by simp [c_1, c_2, c_3]))⟩ (lv_sub hl [2, 3, 4, 0] rfl)
      · skip
        have c_3 : (has v.1 u (gx v.1 (gc v.1 t (n))) (gy v.1 (gc v.1 t (n)))) = true := bI_t c_3
        refine lv_iconst (v := nI (1)) hx hb dX2_reachesInto_57 (by decide) ?_
        exact ro_zret hx hb hr (by decide) (rb_1 (by rw [rea, hi, fnd_hit (by omega) (by simp [c_1, c_2, c_3])]; rfl)) dX2_reachesInto_58 hlocks
set_option maxHeartbeats 4000000 in
set_option maxRecDepth 100000 in
theorem c_X2_crossesAnEdgeOf (l : Launch) (dC : Nat → ClassId) (dI : Nat → Nat → Nat) (cI cL cZ : ClassId) (a : Nat → Nat) (v : SV) (t u : Nat) (hv : okS v) (ht : t < 200) (hu : u < 200) : Met l yX2_crossesAnEdgeOf wsX2_crossesAnEdgeOf ({ frames := 3, cells := 0, slots := 0, locals := 71 }) (va_Pc [.ref (a 0), .int (nI (t)), .int (nI (u))] (ro_B (dC, dI) vwCl (wS cI cL a v) (tyS cI cL cZ))) (k2_QcV (.int (bI (cre v.1 t u)))) 0 0 (fun _ => False) := by
  refine ro_Met (cc := cX2_crossesAnEdgeOf) (maxL := 5) (ret := (some .boolean)) (by decide) rfl (Nat.le_of_ble_eq_true rfl) ?_
  intro pr en s m below meth co ls hx hb hml hr hlocks hown hts hP hK hl
  have hl : lv_has ls 5 [(0, .ref (a 0)), (1, .int (nI (t))), (2, .int (nI (u)))] := hl
  have hown : s.vm.findClass RX2 = some m.cls := hown
  have hvp : sPn v ≤ 60 ∧ sTn v ≤ 60 ∧ sTm v ≤ 200 := ⟨hv.2.1, hv.2.2.2.1, hv.2.2.2.2.1⟩
  refine lv_iconst (v := nI (0)) hx hb dX2_crossesAnEdgeOf_0 (by decide) ?_
  refine lv_istore_n (lv' := [(3, .int (nI (0))), (0, .ref (a 0)), (1, .int (nI (t))), (2, .int (nI (u)))]) hx hb dX2_crossesAnEdgeOf_1 rfl hl (by decide) rfl (fun ls hl => ?_)
  refine lp (σ := Nat) (LV := fun n => [(0, .ref (a 0)), (1, .int (nI (t))), (2, .int (nI (u))), (3, .int (nI (n)))]) (I := fun k n => n + k = 3 ∧ fnd (fun k => cr1 v.1 t u k) 3 0 = fnd (fun k => cr1 v.1 t u k) k n) (fun k n ls hI_k hl ih_k => ?_) (3) (0) ls ⟨by omega, rfl⟩ (lv_sub hl [1, 2, 3, 0] rfl)
  obtain ⟨hk, hi⟩ := hI_k
  refine lv_iload_n hx hb dX2_crossesAnEdgeOf_2 rfl (lv_at hl 3 rfl) ?_
  refine lv_iconst (v := nI (3)) hx hb dX2_crossesAnEdgeOf_3 (by decide) ?_
  refine lv_icmp_ge (tgt := 82) hx hb dX2_crossesAnEdgeOf_4 (by decide) (fun c_1 => ?_) (fun c_1 => ?_)
  · skip
    have c_1 : 3 ≤ n := (nI_leI (a := 3) (b := n) (by omega) (by omega)).mp c_1
    refine lv_iconst (v := nI (0)) hx hb dX2_crossesAnEdgeOf_82 (by decide) ?_
    exact ro_zret hx hb hr (by decide) (rb_0 (by rw [cre, hi, show k = 0 by omega]; rfl)) dX2_crossesAnEdgeOf_83 hlocks
  · skip
    have c_1 : ¬ (3 ≤ n) := fun hq9 => c_1 ((nI_leI (a := 3) (b := n) (by omega) (by omega)).mpr hq9)
    refine lv_iconst (v := nI (0)) hx hb dX2_crossesAnEdgeOf_7 (by decide) ?_
    refine lv_istore (lv' := [(4, .int (nI (0))), (0, .ref (a 0)), (1, .int (nI (t))), (2, .int (nI (u))), (3, .int (nI (n)))]) hx hb dX2_crossesAnEdgeOf_8 hl (by decide) rfl (fun ls hl => ?_)
    refine lp (σ := Nat) (LV := fun m2 => [(0, .ref (a 0)), (1, .int (nI (t))), (2, .int (nI (u))), (3, .int (nI (n))), (4, .int (nI (m2)))]) (I := fun k2 m2 => m2 + k2 = 3 ∧ fnd (fun m => crs v.1 (gc v.1 t n) (gc v.1 t (n + 1)) (gc v.1 u m) (gc v.1 u (m + 1))) 3 0 = fnd (fun m => crs v.1 (gc v.1 t n) (gc v.1 t (n + 1)) (gc v.1 u m) (gc v.1 u (m + 1))) k2 m2) (fun k2 m2 ls hI_k2 hl ih_k2 => ?_) (3) (0) ls ⟨by omega, rfl⟩ (lv_sub hl [1, 2, 3, 4, 0] rfl)
    obtain ⟨hk2, hi2⟩ := hI_k2
    refine lv_iload hx hb dX2_crossesAnEdgeOf_10 (lv_at hl 4 rfl) ?_
    refine lv_iconst (v := nI (3)) hx hb dX2_crossesAnEdgeOf_12 (by decide) ?_
    refine lv_icmp_ge (tgt := 76) hx hb dX2_crossesAnEdgeOf_13 (by decide) (fun c_2 => ?_) (fun c_2 => ?_)
    · skip
      have c_2 : 3 ≤ m2 := (nI_leI (a := 3) (b := m2) (by omega) (by omega)).mp c_2
      refine lv_iinc (v := nI (n + 1)) (lv' := [(3, .int (nI (n + 1))), (0, .ref (a 0)), (1, .int (nI (t))), (2, .int (nI (u))), (4, .int (nI (m2)))]) hx hb dX2_crossesAnEdgeOf_76 hl (k := 3) rfl (nI_1 (n)) (by decide) rfl (fun ls hl => ?_)
      refine lv_goto (tgt := 2) hx hb dX2_crossesAnEdgeOf_79 (by decide) ?_
      exact ih_k (k - 1) (n + 1) ls (by omega) ⟨by omega, hi.trans (fnd_miss (by omega) (by rw [cr1, hi2, show k2 = 0 by omega]; rfl))⟩ (lv_sub hl [1, 2, 3, 0] rfl)
    · skip
      have c_2 : ¬ (3 ≤ m2) := fun hq9 => c_2 ((nI_leI (a := 3) (b := m2) (by omega) (by omega)).mpr hq9)
      refine lv_aload_n hx hb dX2_crossesAnEdgeOf_16 rfl (lv_at hl 0 rfl) ?_
      refine va_get (D := (dC, dI)) (ci := 2) (v := .ref (a 1)) (C := RX2) (T := TX2) (N := 6) hx hb hts (by decide +kernel) hown hK hP 0 rfl rfl 0 (by decide) (hts (.fieldLink RX2 10 "TriangleSheet" "points" "LTriangleSheet$Points;") (by decide +kernel)) (fun _ h9 => h9) rfl dX2_crossesAnEdgeOf_17 ?_
      refine lv_aload_n hx hb dX2_crossesAnEdgeOf_20 rfl (lv_at hl 0 rfl) ?_
      refine va_get (D := (dC, dI)) (ci := 2) (v := .ref (a 4)) (C := RX2) (T := TX2) (N := 6) hx hb hts (by decide +kernel) hown hK hP 0 rfl rfl 1 (by decide) (hts (.fieldLink RX2 19 "TriangleSheet" "triangles" "LTriangleSheet$Triangles;") (by decide +kernel)) (fun _ h9 => h9) rfl dX2_crossesAnEdgeOf_21 ?_
      refine lv_iload_n hx hb dX2_crossesAnEdgeOf_24 rfl (lv_at hl 1 rfl) ?_
      refine lv_iload_n hx hb dX2_crossesAnEdgeOf_25 rfl (lv_at hl 3 rfl) ?_
      refine ro_V (As := [.int (nI (t)), .int (nI (n))]) (rest := [.ref (a 1)]) (q0 := 4) (ci := 1) hx hb hml hown hts (c_X1_cornerOf l dC dI cI cL cZ a v t n (by omega) (by omega)) (cwV 2 hts gX2_crossesAnEdgeOf_X1_cornerOf rfl rfl rfl (by decide +kernel) ⟨Nat.le_of_ble_eq_true rfl, Nat.le_of_ble_eq_true rfl⟩) hK hP rfl rfl rfl hl.1 rfl (Nat.le_of_ble_eq_true rfl) dX2_crossesAnEdgeOf_26 ⟨Nat.zero_le _, Nat.zero_le _⟩ ?_
      refine lv_aload_n hx hb dX2_crossesAnEdgeOf_29 rfl (lv_at hl 0 rfl) ?_
      refine va_get (D := (dC, dI)) (ci := 2) (v := .ref (a 4)) (C := RX2) (T := TX2) (N := 6) hx hb hts (by decide +kernel) hown hK hP 0 rfl rfl 1 (by decide) (hts (.fieldLink RX2 19 "TriangleSheet" "triangles" "LTriangleSheet$Triangles;") (by decide +kernel)) (fun _ h9 => h9) rfl dX2_crossesAnEdgeOf_30 ?_
      refine lv_iload_n hx hb dX2_crossesAnEdgeOf_33 rfl (lv_at hl 1 rfl) ?_
      refine lv_iload_n hx hb dX2_crossesAnEdgeOf_34 rfl (lv_at hl 3 rfl) ?_
      refine lv_iconst (v := nI (1)) hx hb dX2_crossesAnEdgeOf_35 (by decide) ?_
      refine lv_iadd hx hb dX2_crossesAnEdgeOf_36 ?_
      refine rt_i (y := (nI (n + 1))) (nn_add (n) (1)) ?_
      refine ro_V (As := [.int (nI (t)), .int (nI (n + 1))]) (rest := [.int (nI (gc v.1 t n)), .ref (a 1)]) (q0 := 4) (ci := 1) hx hb hml hown hts (c_X1_cornerOf l dC dI cI cL cZ a v t (n + 1) (by omega) (by omega)) (cwV 2 hts gX2_crossesAnEdgeOf_X1_cornerOf rfl rfl rfl (by decide +kernel) ⟨Nat.le_of_ble_eq_true rfl, Nat.le_of_ble_eq_true rfl⟩) hK hP rfl rfl rfl hl.1 rfl (Nat.le_of_ble_eq_true rfl) dX2_crossesAnEdgeOf_37 ⟨Nat.zero_le _, Nat.zero_le _⟩ ?_
      refine lv_aload_n hx hb dX2_crossesAnEdgeOf_40 rfl (lv_at hl 0 rfl) ?_
      refine va_get (D := (dC, dI)) (ci := 2) (v := .ref (a 4)) (C := RX2) (T := TX2) (N := 6) hx hb hts (by decide +kernel) hown hK hP 0 rfl rfl 1 (by decide) (hts (.fieldLink RX2 19 "TriangleSheet" "triangles" "LTriangleSheet$Triangles;") (by decide +kernel)) (fun _ h9 => h9) rfl dX2_crossesAnEdgeOf_41 ?_
      refine lv_iload_n hx hb dX2_crossesAnEdgeOf_44 rfl (lv_at hl 2 rfl) ?_
      refine lv_iload hx hb dX2_crossesAnEdgeOf_45 (lv_at hl 4 rfl) ?_
      refine ro_V (As := [.int (nI (u)), .int (nI (m2))]) (rest := [.int (nI (gc v.1 t (n + 1))), .int (nI (gc v.1 t n)), .ref (a 1)]) (q0 := 4) (ci := 1) hx hb hml hown hts (c_X1_cornerOf l dC dI cI cL cZ a v u m2 (by omega) (by omega)) (cwV 2 hts gX2_crossesAnEdgeOf_X1_cornerOf rfl rfl rfl (by decide +kernel) ⟨Nat.le_of_ble_eq_true rfl, Nat.le_of_ble_eq_true rfl⟩) hK hP rfl rfl rfl hl.1 rfl (Nat.le_of_ble_eq_true rfl) dX2_crossesAnEdgeOf_47 ⟨Nat.zero_le _, Nat.zero_le _⟩ ?_
      refine lv_aload_n hx hb dX2_crossesAnEdgeOf_50 rfl (lv_at hl 0 rfl) ?_
      refine va_get (D := (dC, dI)) (ci := 2) (v := .ref (a 4)) (C := RX2) (T := TX2) (N := 6) hx hb hts (by decide +kernel) hown hK hP 0 rfl rfl 1 (by decide) (hts (.fieldLink RX2 19 "TriangleSheet" "triangles" "LTriangleSheet$Triangles;") (by decide +kernel)) (fun _ h9 => h9) rfl dX2_crossesAnEdgeOf_51 ?_
      refine lv_iload_n hx hb dX2_crossesAnEdgeOf_54 rfl (lv_at hl 2 rfl) ?_
      refine lv_iload hx hb dX2_crossesAnEdgeOf_55 (lv_at hl 4 rfl) ?_
      refine lv_iconst (v := nI (1)) hx hb dX2_crossesAnEdgeOf_57 (by decide) ?_
      refine lv_iadd hx hb dX2_crossesAnEdgeOf_58 ?_
      refine rt_i (y := (nI (m2 + 1))) (nn_add (m2) (1)) ?_
      refine ro_V (As := [.int (nI (u)), .int (nI (m2 + 1))]) (rest := [.int (nI (gc v.1 u m2)), .int (nI (gc v.1 t (n + 1))), .int (nI (gc v.1 t n)), .ref (a 1)]) (q0 := 4) (ci := 1) hx hb hml hown hts (c_X1_cornerOf l dC dI cI cL cZ a v u (m2 + 1) (by omega) (by omega)) (cwV 2 hts gX2_crossesAnEdgeOf_X1_cornerOf rfl rfl rfl (by decide +kernel) ⟨Nat.le_of_ble_eq_true rfl, Nat.le_of_ble_eq_true rfl⟩) hK hP rfl rfl rfl hl.1 rfl (Nat.le_of_ble_eq_true rfl) dX2_crossesAnEdgeOf_59 ⟨Nat.zero_le _, Nat.zero_le _⟩ ?_
      refine ro_V (As := [.int (nI (gc v.1 t n)), .int (nI (gc v.1 t (n + 1))), .int (nI (gc v.1 u m2)), .int (nI (gc v.1 u (m2 + 1)))]) (rest := []) (q0 := 1) (ci := 0) hx hb hml hown hts (c_X0_isCrossing l dC dI cI cL cZ a v (gc v.1 t n) (gc v.1 t (n + 1)) (gc v.1 u m2) (gc v.1 u (m2 + 1)) hv (gc_lt hv.1) (gc_lt hv.1) (gc_lt hv.1) (gc_lt hv.1)) (cwV 4 hts gX2_crossesAnEdgeOf_X0_isCrossing rfl rfl rfl (by decide +kernel) ⟨Nat.le_of_ble_eq_true rfl, Nat.le_of_ble_eq_true rfl⟩) hK hP rfl rfl rfl hl.1 rfl (Nat.le_of_ble_eq_true rfl) dX2_crossesAnEdgeOf_62 ⟨Nat.zero_le _, Nat.zero_le _⟩ ?_
      refine lv_if_eq (tgt := 70) hx hb dX2_crossesAnEdgeOf_65 (by decide) (fun c_3 => ?_) (fun c_3 => ?_)
      · skip
        have c_3 : (crs v.1 (gc v.1 t n) (gc v.1 t (n + 1)) (gc v.1 u m2) (gc v.1 u (m2 + 1))) = false := bI_f c_3
        refine lv_iinc (v := nI (m2 + 1)) (lv' := [(4, .int (nI (m2 + 1))), (0, .ref (a 0)), (1, .int (nI (t))), (2, .int (nI (u))), (3, .int (nI (n)))]) hx hb dX2_crossesAnEdgeOf_70 hl (k := 4) rfl (nI_1 (m2)) (by decide) rfl (fun ls hl => ?_)
        refine lv_goto (tgt := 10) hx hb dX2_crossesAnEdgeOf_73 (by decide) ?_
        exact ih_k2 (k2 - 1) (m2 + 1) ls (by omega) ⟨by omega, hi2.trans (fnd_miss (by omega) (by simp [c_1, c_2, c_3]))⟩ (lv_sub hl [1, 2, 3, 4, 0] rfl)
      · skip
        have c_3 : (crs v.1 (gc v.1 t n) (gc v.1 t (n + 1)) (gc v.1 u m2) (gc v.1 u (m2 + 1))) = true := bI_t c_3
        refine lv_iconst (v := nI (1)) hx hb dX2_crossesAnEdgeOf_68 (by decide) ?_
        exact ro_zret hx hb hr (by decide) (rb_1 (by rw [cre, hi, fnd_hit (by omega) (by rw [cr1, hi2, fnd_hit (by omega) (by assumption)]; rfl)]; rfl)) dX2_crossesAnEdgeOf_69 hlocks
set_option maxHeartbeats 4000000 in
set_option maxRecDepth 100000 in
theorem c_X2_areTidy (l : Launch) (dC : Nat → ClassId) (dI : Nat → Nat → Nat) (cI cL cZ : ClassId) (a : Nat → Nat) (v : SV) (t u : Nat) (hv : okS v) (ht : t < 200) (hu : u < 200) : Met l yX2_areTidy wsX2_areTidy ({ frames := 4, cells := 0, slots := 0, locals := 96 }) (va_Pc [.ref (a 0), .int (nI (t)), .int (nI (u))] (ro_B (dC, dI) vwCl (wS cI cL a v) (tyS cI cL cZ))) (k2_QcV (.int (bI (tid v.1 t u)))) 0 0 (fun _ => False) := by
  refine ro_Met (cc := cX2_areTidy) (maxL := 3) (ret := (some .boolean)) (by decide) rfl (Nat.le_of_ble_eq_true rfl) ?_
  intro pr en s m below meth co ls hx hb hml hr hlocks hown hts hP hK hl
  have hl : lv_has ls 3 [(0, .ref (a 0)), (1, .int (nI (t))), (2, .int (nI (u)))] := hl
  have hown : s.vm.findClass RX2 = some m.cls := hown
  have hvp : sPn v ≤ 60 ∧ sTn v ≤ 60 ∧ sTm v ≤ 200 := ⟨hv.2.1, hv.2.2.2.1, hv.2.2.2.2.1⟩
  refine lv_aload_n hx hb dX2_areTidy_0 rfl (lv_at hl 0 rfl) ?_
  refine lv_iload_n hx hb dX2_areTidy_1 rfl (lv_at hl 1 rfl) ?_
  refine lv_iload_n hx hb dX2_areTidy_2 rfl (lv_at hl 2 rfl) ?_
  refine ro_V (As := [.int (nI (t)), .int (nI (u))]) (rest := []) (q0 := 0) (ci := 2) hx hb hml hown hts (c_X2_areFarApart l dC dI cI cL cZ a v t u hv (by omega) (by omega)) (cwV 2 hts gX2_areTidy_X2_areFarApart rfl rfl rfl (by decide +kernel) ⟨Nat.le_of_ble_eq_true rfl, Nat.le_of_ble_eq_true rfl⟩) hK hP rfl rfl rfl hl.1 rfl (Nat.le_of_ble_eq_true rfl) dX2_areTidy_3 ⟨Nat.zero_le _, Nat.zero_le _⟩ ?_
  refine lv_if_eq (tgt := 11) hx hb dX2_areTidy_6 (by decide) (fun c_1 => ?_) (fun c_1 => ?_)
  · skip
    have c_1 : (far v.1 t u) = false := bI_f c_1
    refine lv_aload_n hx hb dX2_areTidy_11 rfl (lv_at hl 0 rfl) ?_
    refine lv_iload_n hx hb dX2_areTidy_12 rfl (lv_at hl 1 rfl) ?_
    refine lv_iload_n hx hb dX2_areTidy_13 rfl (lv_at hl 2 rfl) ?_
    refine ro_V (As := [.int (nI (t)), .int (nI (u))]) (rest := []) (q0 := 0) (ci := 2) hx hb hml hown hts (c_X2_haveSameCorners l dC dI cI cL cZ a v t u hv (by omega) (by omega)) (cwV 2 hts gX2_areTidy_X2_haveSameCorners rfl rfl rfl (by decide +kernel) ⟨Nat.le_of_ble_eq_true rfl, Nat.le_of_ble_eq_true rfl⟩) hK hP rfl rfl rfl hl.1 rfl (Nat.le_of_ble_eq_true rfl) dX2_areTidy_14 ⟨Nat.zero_le _, Nat.zero_le _⟩ ?_
    refine lv_if_ne (tgt := 51) hx hb dX2_areTidy_17 (by decide) (fun c_2 => ?_) (fun c_2 => ?_)
    · skip
      have c_2 : (sam v.1 t u) = true := bI_t c_2
      refine lv_iconst (v := nI (0)) hx hb dX2_areTidy_51 (by decide) ?_
      exact ro_zret hx hb hr (by decide) (rb_0 (by simp [tid, c_1, c_2])) dX2_areTidy_52 hlocks
    · skip
      have c_2 : (sam v.1 t u) = false := bI_f c_2
      refine lv_aload_n hx hb dX2_areTidy_20 rfl (lv_at hl 0 rfl) ?_
      refine lv_iload_n hx hb dX2_areTidy_21 rfl (lv_at hl 1 rfl) ?_
      refine lv_iload_n hx hb dX2_areTidy_22 rfl (lv_at hl 2 rfl) ?_
      refine ro_V (As := [.int (nI (t)), .int (nI (u))]) (rest := []) (q0 := 0) (ci := 2) hx hb hml hown hts (c_X2_reachesInto l dC dI cI cL cZ a v t u hv (by omega) (by omega)) (cwV 2 hts gX2_areTidy_X2_reachesInto rfl rfl rfl (by decide +kernel) ⟨Nat.le_of_ble_eq_true rfl, Nat.le_of_ble_eq_true rfl⟩) hK hP rfl rfl rfl hl.1 rfl (Nat.le_of_ble_eq_true rfl) dX2_areTidy_23 ⟨Nat.zero_le _, Nat.zero_le _⟩ ?_
      refine lv_if_ne (tgt := 51) hx hb dX2_areTidy_26 (by decide) (fun c_3 => ?_) (fun c_3 => ?_)
      · skip
        have c_3 : (rea v.1 t u) = true := bI_t c_3
        refine lv_iconst (v := nI (0)) hx hb dX2_areTidy_51 (by decide) ?_
        exact ro_zret hx hb hr (by decide) (rb_0 (by simp [tid, c_1, c_2, c_3])) dX2_areTidy_52 hlocks
      · skip
        have c_3 : (rea v.1 t u) = false := bI_f c_3
        refine lv_aload_n hx hb dX2_areTidy_29 rfl (lv_at hl 0 rfl) ?_
        refine lv_iload_n hx hb dX2_areTidy_30 rfl (lv_at hl 2 rfl) ?_
        refine lv_iload_n hx hb dX2_areTidy_31 rfl (lv_at hl 1 rfl) ?_
        refine ro_V (As := [.int (nI (u)), .int (nI (t))]) (rest := []) (q0 := 0) (ci := 2) hx hb hml hown hts (c_X2_reachesInto l dC dI cI cL cZ a v u t hv (by omega) (by omega)) (cwV 2 hts gX2_areTidy_X2_reachesInto rfl rfl rfl (by decide +kernel) ⟨Nat.le_of_ble_eq_true rfl, Nat.le_of_ble_eq_true rfl⟩) hK hP rfl rfl rfl hl.1 rfl (Nat.le_of_ble_eq_true rfl) dX2_areTidy_32 ⟨Nat.zero_le _, Nat.zero_le _⟩ ?_
        refine lv_if_ne (tgt := 51) hx hb dX2_areTidy_35 (by decide) (fun c_4 => ?_) (fun c_4 => ?_)
        · skip
          have c_4 : (rea v.1 u t) = true := bI_t c_4
          refine lv_iconst (v := nI (0)) hx hb dX2_areTidy_51 (by decide) ?_
          exact ro_zret hx hb hr (by decide) (rb_0 (by simp [tid, c_1, c_2, c_3, c_4])) dX2_areTidy_52 hlocks
        · skip
          have c_4 : (rea v.1 u t) = false := bI_f c_4
          refine lv_aload_n hx hb dX2_areTidy_38 rfl (lv_at hl 0 rfl) ?_
          refine lv_iload_n hx hb dX2_areTidy_39 rfl (lv_at hl 1 rfl) ?_
          refine lv_iload_n hx hb dX2_areTidy_40 rfl (lv_at hl 2 rfl) ?_
          refine ro_V (As := [.int (nI (t)), .int (nI (u))]) (rest := []) (q0 := 0) (ci := 2) hx hb hml hown hts (c_X2_crossesAnEdgeOf l dC dI cI cL cZ a v t u hv (by omega) (by omega)) (cwV 2 hts gX2_areTidy_X2_crossesAnEdgeOf rfl rfl rfl (by decide +kernel) ⟨Nat.le_of_ble_eq_true rfl, Nat.le_of_ble_eq_true rfl⟩) hK hP rfl rfl rfl hl.1 rfl (Nat.le_of_ble_eq_true rfl) dX2_areTidy_41 ⟨Nat.zero_le _, Nat.zero_le _⟩ ?_
          refine lv_if_ne (tgt := 51) hx hb dX2_areTidy_44 (by decide) (fun c_5 => ?_) (fun c_5 => ?_)
          · skip
            have c_5 : (cre v.1 t u) = true := bI_t c_5
            refine lv_iconst (v := nI (0)) hx hb dX2_areTidy_51 (by decide) ?_
            exact ro_zret hx hb hr (by decide) (rb_0 (by simp [tid, c_1, c_2, c_3, c_4, c_5])) dX2_areTidy_52 hlocks
          · skip
            have c_5 : (cre v.1 t u) = false := bI_f c_5
            refine lv_iconst (v := nI (1)) hx hb dX2_areTidy_47 (by decide) ?_
            refine lv_goto (tgt := 52) hx hb dX2_areTidy_48 (by decide) ?_
            exact ro_zret hx hb hr (by decide) (rb_1 (by simp [tid, c_1, c_2, c_3, c_4, c_5])) dX2_areTidy_52 hlocks
  · skip
    have c_1 : (far v.1 t u) = true := bI_t c_1
    refine lv_iconst (v := nI (1)) hx hb dX2_areTidy_9 (by decide) ?_
    exact ro_zret hx hb hr (by decide) (rb_1 (by simp [tid, c_1])) dX2_areTidy_10 hlocks
set_option maxHeartbeats 4000000 in
set_option maxRecDepth 100000 in
theorem c_X2_firstUntidyBefore (l : Launch) (dC : Nat → ClassId) (dI : Nat → Nat → Nat) (cI cL cZ : ClassId) (a : Nat → Nat) (v : SV) (i : Nat) (hv : okS v) (hi : i < 60) : Met l yX2_firstUntidyBefore wsX2_firstUntidyBefore ({ frames := 5, cells := 0, slots := 0, locals := 118 }) (va_Pc [.ref (a 0), .int (nI (i))] (ro_B (dC, dI) vwCl (wS cI cL a v) (tyS cI cL cZ))) (k2_QcV (.int (oI (fub v.1 (sTh v) i)))) 0 0 (fun _ => False) := by
  refine ro_Met (cc := cX2_firstUntidyBefore) (maxL := 5) (ret := (some .int)) (by decide) rfl (Nat.le_of_ble_eq_true rfl) ?_
  intro pr en s m below meth co ls hx hb hml hr hlocks hown hts hP hK hl
  have hl : lv_has ls 5 [(0, .ref (a 0)), (1, .int (nI (i)))] := hl
  have hown : s.vm.findClass RX2 = some m.cls := hown
  have hvp : sPn v ≤ 60 ∧ sTn v ≤ 60 ∧ sTm v ≤ 200 := ⟨hv.2.1, hv.2.2.2.1, hv.2.2.2.2.1⟩
  refine lv_aload_n hx hb dX2_firstUntidyBefore_0 rfl (lv_at hl 0 rfl) ?_
  refine va_get (D := (dC, dI)) (ci := 2) (v := .ref (a 4)) (C := RX2) (T := TX2) (N := 6) hx hb hts (by decide +kernel) hown hK hP 0 rfl rfl 1 (by decide) (hts (.fieldLink RX2 19 "TriangleSheet" "triangles" "LTriangleSheet$Triangles;") (by decide +kernel)) (fun _ h9 => h9) rfl dX2_firstUntidyBefore_1 ?_
  refine lv_iload_n hx hb dX2_firstUntidyBefore_4 rfl (lv_at hl 1 rfl) ?_
  refine ro_V (As := [.int (nI (i))]) (rest := []) (q0 := 4) (ci := 1) hx hb hml hown hts (c_X1_numberAt l dC dI cI cL cZ a v i (by omega)) (cwV 1 hts gX2_firstUntidyBefore_X1_numberAt rfl rfl rfl (by decide +kernel) ⟨Nat.le_of_ble_eq_true rfl, Nat.le_of_ble_eq_true rfl⟩) hK hP rfl rfl rfl hl.1 rfl (Nat.le_of_ble_eq_true rfl) dX2_firstUntidyBefore_5 ⟨Nat.zero_le _, Nat.zero_le _⟩ ?_
  refine lv_istore_n (lv' := [(2, .int (nI (sTh v i))), (0, .ref (a 0)), (1, .int (nI (i)))]) hx hb dX2_firstUntidyBefore_8 rfl hl (by decide) rfl (fun ls hl => ?_)
  refine lv_iconst (v := nI (0)) hx hb dX2_firstUntidyBefore_9 (by decide) ?_
  refine lv_istore_n (lv' := [(3, .int (nI (0))), (2, .int (nI (sTh v i))), (0, .ref (a 0)), (1, .int (nI (i)))]) hx hb dX2_firstUntidyBefore_10 rfl hl (by decide) rfl (fun ls hl => ?_)
  refine lp (σ := Nat) (LV := fun n => [(0, .ref (a 0)), (1, .int (nI (i))), (2, .int (nI (sTh v i))), (3, .int (nI (n)))]) (I := fun k n => n + k = i ∧ fnd (fun j => !tid v.1 (sTh v i) (sTh v j)) i 0 = fnd (fun j => !tid v.1 (sTh v i) (sTh v j)) k n) (fun k n ls hI_k hl ih_k => ?_) (i) (0) ls ⟨by omega, rfl⟩ (lv_sub hl [2, 3, 1, 0] rfl)
  obtain ⟨hk, hi3⟩ := hI_k
  refine lv_iload_n hx hb dX2_firstUntidyBefore_11 rfl (lv_at hl 3 rfl) ?_
  refine lv_iload_n hx hb dX2_firstUntidyBefore_12 rfl (lv_at hl 1 rfl) ?_
  refine lv_icmp_ge (tgt := 45) hx hb dX2_firstUntidyBefore_13 (by decide) (fun c_1 => ?_) (fun c_1 => ?_)
  · skip
    have c_1 : i ≤ n := (nI_leI (a := i) (b := n) (by omega) (by omega)).mp c_1
    refine lv_iconst (v := iI (-1)) hx hb dX2_firstUntidyBefore_45 (by decide) ?_
    exact ro_iret hx hb hr (rO (by rw [fub, hi3, show k = 0 by omega]; rfl)) dX2_firstUntidyBefore_46 hlocks
  · skip
    have c_1 : ¬ (i ≤ n) := fun hq9 => c_1 ((nI_leI (a := i) (b := n) (by omega) (by omega)).mpr hq9)
    refine lv_aload_n hx hb dX2_firstUntidyBefore_16 rfl (lv_at hl 0 rfl) ?_
    refine va_get (D := (dC, dI)) (ci := 2) (v := .ref (a 4)) (C := RX2) (T := TX2) (N := 6) hx hb hts (by decide +kernel) hown hK hP 0 rfl rfl 1 (by decide) (hts (.fieldLink RX2 19 "TriangleSheet" "triangles" "LTriangleSheet$Triangles;") (by decide +kernel)) (fun _ h9 => h9) rfl dX2_firstUntidyBefore_17 ?_
    refine lv_iload_n hx hb dX2_firstUntidyBefore_20 rfl (lv_at hl 3 rfl) ?_
    refine ro_V (As := [.int (nI (n))]) (rest := []) (q0 := 4) (ci := 1) hx hb hml hown hts (c_X1_numberAt l dC dI cI cL cZ a v n (by omega)) (cwV 1 hts gX2_firstUntidyBefore_X1_numberAt rfl rfl rfl (by decide +kernel) ⟨Nat.le_of_ble_eq_true rfl, Nat.le_of_ble_eq_true rfl⟩) hK hP rfl rfl rfl hl.1 rfl (Nat.le_of_ble_eq_true rfl) dX2_firstUntidyBefore_21 ⟨Nat.zero_le _, Nat.zero_le _⟩ ?_
    refine lv_istore (lv' := [(4, .int (nI (sTh v n))), (0, .ref (a 0)), (1, .int (nI (i))), (2, .int (nI (sTh v i))), (3, .int (nI (n)))]) hx hb dX2_firstUntidyBefore_24 hl (by decide) rfl (fun ls hl => ?_)
    refine lv_aload_n hx hb dX2_firstUntidyBefore_26 rfl (lv_at hl 1 rfl) ?_
    refine lv_iload_n hx hb dX2_firstUntidyBefore_27 rfl (lv_at hl 3 rfl) ?_
    refine lv_iload hx hb dX2_firstUntidyBefore_28 (lv_at hl 0 rfl) ?_
    refine ro_V (As := [.int (nI (sTh v i)), .int (nI (sTh v n))]) (rest := []) (q0 := 0) (ci := 2) hx hb hml hown hts (c_X2_areTidy l dC dI cI cL cZ a v (sTh v i) (sTh v n) hv (hv.2.2.1 _) (hv.2.2.1 _)) (cwV 2 hts gX2_firstUntidyBefore_X2_areTidy rfl rfl rfl (by decide +kernel) ⟨Nat.le_of_ble_eq_true rfl, Nat.le_of_ble_eq_true rfl⟩) hK hP rfl rfl rfl hl.1 rfl (Nat.le_of_ble_eq_true rfl) dX2_firstUntidyBefore_30 ⟨Nat.zero_le _, Nat.zero_le _⟩ ?_
    refine lv_if_ne (tgt := 39) hx hb dX2_firstUntidyBefore_33 (by decide) (fun c_2 => ?_) (fun c_2 => ?_)
    · skip
      have c_2 : (tid v.1 (sTh v i) (sTh v n)) = true := bI_t c_2
      refine lv_iinc (v := nI (n + 1)) (lv' := [(3, .int (nI (n + 1))), (4, .int (nI (sTh v n))), (0, .ref (a 0)), (1, .int (nI (i))), (2, .int (nI (sTh v i)))]) hx hb dX2_firstUntidyBefore_39 hl (k := 4) rfl (nI_1 (n)) (by decide) rfl (fun ls hl => ?_)
      refine lv_goto (tgt := 11) hx hb dX2_firstUntidyBefore_42 (by decide) ?_
      exact ih_k (k - 1) (n + 1) ls (by omega) ⟨by omega, hi3.trans (fnd_miss (by omega) (by simp [c_1, c_2]))⟩ (lv_sub hl [2, 3, 4, 0] rfl)
    · skip
      have c_2 : (tid v.1 (sTh v i) (sTh v n)) = false := bI_f c_2
      refine lv_iload hx hb dX2_firstUntidyBefore_36 (lv_at hl 0 rfl) ?_
      exact ro_iret hx hb hr (rO (by rw [fub, hi3, fnd_hit (by omega) (by simp [c_1, c_2])]; rfl)) dX2_firstUntidyBefore_38 hlocks
