set_option maxHeartbeats 4000000 in
set_option maxRecDepth 100000 in
theorem c_X3_in (l : Launch) (dC : Nat → ClassId) (dI : Nat → Nat → Nat)  (x : Int32) (u : Nat) (hu : u < 2 ^ 31) : Met l yX3_in wsX3_in ({ frames := 0, cells := 0, slots := 0, locals := 0 }) (va_Pc [.int (x), .int (nI (u))] (ro_B (dC, dI) vwCl [] [])) (k2_QcV (.int (bI (inB x u)))) 0 0 (fun _ => False) := by
  refine ro_Met (cc := cX3_in) (maxL := 2) (ret := (some .boolean)) (by decide) rfl (Nat.le_of_ble_eq_true rfl) ?_
  intro pr en s m below meth co ls hx hb hml hr hlocks hown hts hP hK hl
  have hl : lv_has ls 2 [(0, .int (x)), (1, .int (nI (u)))] := hl
  have hown : s.vm.findClass RX3 = some m.cls := hown
  refine lv_iload_n hx hb dX3_in_0 rfl (lv_at hl 0 rfl) ?_
  refine lv_if_lt (tgt := 13) hx hb dX3_in_1 (by decide) (fun c_1 => ?_) (fun c_1 => ?_)
  · skip
    refine lv_iconst (v := nI (0)) hx hb dX3_in_13 (by decide) ?_
    exact ro_zret hx hb hr (by decide) (rb_0 (by first | exact inB_neg (by assumption) | exact inB_big (by omega) (by assumption))) dX3_in_14 hlocks
  · skip
    refine lv_iload_n hx hb dX3_in_4 rfl (lv_at hl 0 rfl) ?_
    refine lv_iload_n hx hb dX3_in_5 rfl (lv_at hl 1 rfl) ?_
    refine lv_icmp_ge (tgt := 13) hx hb dX3_in_6 (by decide) (fun c_2 => ?_) (fun c_2 => ?_)
    · skip
      refine lv_iconst (v := nI (0)) hx hb dX3_in_13 (by decide) ?_
      exact ro_zret hx hb hr (by decide) (rb_0 (by first | exact inB_neg (by assumption) | exact inB_big (by omega) (by assumption))) dX3_in_14 hlocks
    · skip
      refine lv_iconst (v := nI (1)) hx hb dX3_in_9 (by decide) ?_
      refine lv_goto (tgt := 14) hx hb dX3_in_10 (by decide) ?_
      exact ro_zret hx hb hr (by decide) (rb_1 (by exact inB_in (by omega) (by assumption) (by assumption))) dX3_in_14 hlocks
set_option maxHeartbeats 4000000 in
set_option maxRecDepth 100000 in
theorem c_X3_turnOf (l : Launch) (dC : Nat → ClassId) (dI : Nat → Nat → Nat)  (ax ay bx b_y cx cy : Int)  : Met l yX3_turnOf wsX3_turnOf ({ frames := 0, cells := 0, slots := 0, locals := 0 }) (va_Pc [.long (lI (ax)), .long (lI (ay)), .long (lI (bx)), .long (lI (b_y)), .long (lI (cx)), .long (lI (cy))] (ro_B (dC, dI) vwCl [] [])) (k2_QcV (.long (lI (trn ax ay bx b_y cx cy)))) 0 0 (fun _ => False) := by
  refine ro_Met (cc := cX3_turnOf) (maxL := 12) (ret := (some .long)) (by decide) rfl (Nat.le_of_ble_eq_true rfl) ?_
  intro pr en s m below meth co ls hx hb hml hr hlocks hown hts hP hK hl
  have hl : lv_has ls 12 [(0, .long (lI (ax))), (2, .long (lI (ay))), (4, .long (lI (bx))), (6, .long (lI (b_y))), (8, .long (lI (cx))), (10, .long (lI (cy)))] := hl
  have hown : s.vm.findClass RX3 = some m.cls := hown
  refine lv_lload hx hb dX3_turnOf_0 (lv_at hl 2 rfl) ?_
  refine lv_lload_n hx hb dX3_turnOf_2 rfl (lv_at hl 0 rfl) ?_
  refine lv_lsub hx hb dX3_turnOf_3 ?_
  refine rt_l (y := (lI ((bx) - (ax)))) (lI_sub (bx) (ax)) ?_
  refine lv_lload hx hb dX3_turnOf_4 (lv_at hl 5 rfl) ?_
  refine lv_lload_n hx hb dX3_turnOf_6 rfl (lv_at hl 1 rfl) ?_
  refine lv_lsub hx hb dX3_turnOf_7 ?_
  refine rt_l (y := (lI ((cy) - (ay)))) (lI_sub (cy) (ay)) ?_
  refine lv_lmul hx hb dX3_turnOf_8 ?_
  refine rt_l (y := (lI (((bx) - (ax)) * ((cy) - (ay))))) (lI_mul ((bx) - (ax)) ((cy) - (ay))) ?_
  refine lv_lload hx hb dX3_turnOf_9 (lv_at hl 3 rfl) ?_
  refine lv_lload_n hx hb dX3_turnOf_11 rfl (lv_at hl 1 rfl) ?_
  refine lv_lsub hx hb dX3_turnOf_12 ?_
  refine rt_l (y := (lI ((b_y) - (ay)))) (lI_sub (b_y) (ay)) ?_
  refine lv_lload hx hb dX3_turnOf_13 (lv_at hl 4 rfl) ?_
  refine lv_lload_n hx hb dX3_turnOf_15 rfl (lv_at hl 0 rfl) ?_
  refine lv_lsub hx hb dX3_turnOf_16 ?_
  refine rt_l (y := (lI ((cx) - (ax)))) (lI_sub (cx) (ax)) ?_
  refine lv_lmul hx hb dX3_turnOf_17 ?_
  refine rt_l (y := (lI (((b_y) - (ay)) * ((cx) - (ax))))) (lI_mul ((b_y) - (ay)) ((cx) - (ax))) ?_
  refine lv_lsub hx hb dX3_turnOf_18 ?_
  refine rt_l (y := (lI ((((bx) - (ax)) * ((cy) - (ay))) - (((b_y) - (ay)) * ((cx) - (ax)))))) (lI_sub (((bx) - (ax)) * ((cy) - (ay))) (((b_y) - (ay)) * ((cx) - (ax)))) ?_
  exact ro_lret hx hb hr rfl dX3_turnOf_19 hlocks
set_option maxHeartbeats 4000000 in
set_option maxRecDepth 100000 in
theorem c_X3_turnOfPoints (l : Launch) (dC : Nat → ClassId) (dI : Nat → Nat → Nat) (cI cL cZ : ClassId) (b : Nat → Nat) (w : MV) (p q r : Nat) (hv : okM w) (hp : p < 60) (hq : q < 60) (hr9 : r < 60) : Met l yX3_turnOfPoints wsX3_turnOfPoints ({ frames := 1, cells := 0, slots := 0, locals := 31 }) (va_Pc [.ref (b 0), .int (nI (p)), .int (nI (q)), .int (nI (r))] (ro_B (dC, dI) vwCl (wM cI cZ b w) (tyS cI cL cZ))) (k2_QcV (.long (lI (tof w.1 p q r)))) 0 0 (fun _ => False) := by
  refine ro_Met (cc := cX3_turnOfPoints) (maxL := 4) (ret := (some .long)) (by decide) rfl (Nat.le_of_ble_eq_true rfl) ?_
  intro pr en s m below meth co ls hx hb hml hr hlocks hown hts hP hK hl
  have hl : lv_has ls 4 [(0, .ref (b 0)), (1, .int (nI (p))), (2, .int (nI (q))), (3, .int (nI (r)))] := hl
  have hown : s.vm.findClass RX3 = some m.cls := hown
  have hvp : mPn w ≤ 60 ∧ mTm w ≤ 200 ∧ mTn w ≤ 60 := ⟨hv.2.1, hv.2.2.1, hv.2.2.2.1⟩
  refine lv_aload_n hx hb dX3_turnOfPoints_0 rfl (lv_at hl 0 rfl) ?_
  refine va_get (D := (dC, dI)) (ci := 3) (v := .ref (b 1)) (C := RX3) (T := TX3) (N := 11) hx hb hts (by decide +kernel) hown hK hP 0 rfl rfl 4 (by decide) (hts (.fieldLink RX3 7 "TriangleSheetModel" "px" "[I") (by decide +kernel)) (fun _ h9 => h9) rfl dX3_turnOfPoints_1 ?_
  refine lv_iload_n hx hb dX3_turnOfPoints_4 rfl (lv_at hl 1 rfl) ?_
  refine ia_ld (k := p) hx hb hK hP 1 0 rfl rfl (by omega) (by decide) dX3_turnOfPoints_5 ?_
  refine W.eq (g2 := F0 m 6 ls [.int (nI (w.1.1 (p)))]) rfl ?_
  have bd_1 := hv.1.1 (p)
  refine lv_i2l (v := lI (((w.1.1 (p) : Nat) : Int))) hx hb dX3_turnOfPoints_6 (nzI_l (by omega)) ?_
  refine lv_aload_n hx hb dX3_turnOfPoints_7 rfl (lv_at hl 0 rfl) ?_
  refine va_get (D := (dC, dI)) (ci := 3) (v := .ref (b 2)) (C := RX3) (T := TX3) (N := 11) hx hb hts (by decide +kernel) hown hK hP 0 rfl rfl 5 (by decide) (hts (.fieldLink RX3 13 "TriangleSheetModel" "py" "[I") (by decide +kernel)) (fun _ h9 => h9) rfl dX3_turnOfPoints_8 ?_
  refine lv_iload_n hx hb dX3_turnOfPoints_11 rfl (lv_at hl 1 rfl) ?_
  refine ia_ld (k := p) hx hb hK hP 2 0 rfl rfl (by omega) (by decide) dX3_turnOfPoints_12 ?_
  refine W.eq (g2 := F0 m 13 ls [.int (nI (w.1.2.1 (p))), .long (lI (((w.1.1 (p) : Nat) : Int)))]) rfl ?_
  have bd_2 := hv.1.2.1 (p)
  refine lv_i2l (v := lI (((w.1.2.1 (p) : Nat) : Int))) hx hb dX3_turnOfPoints_13 (nzI_l (by omega)) ?_
  refine lv_aload_n hx hb dX3_turnOfPoints_14 rfl (lv_at hl 0 rfl) ?_
  refine va_get (D := (dC, dI)) (ci := 3) (v := .ref (b 1)) (C := RX3) (T := TX3) (N := 11) hx hb hts (by decide +kernel) hown hK hP 0 rfl rfl 4 (by decide) (hts (.fieldLink RX3 7 "TriangleSheetModel" "px" "[I") (by decide +kernel)) (fun _ h9 => h9) rfl dX3_turnOfPoints_15 ?_
  refine lv_iload_n hx hb dX3_turnOfPoints_18 rfl (lv_at hl 2 rfl) ?_
  refine ia_ld (k := q) hx hb hK hP 1 0 rfl rfl (by omega) (by decide) dX3_turnOfPoints_19 ?_
  refine W.eq (g2 := F0 m 20 ls [.int (nI (w.1.1 (q))), .long (lI (((w.1.2.1 (p) : Nat) : Int))), .long (lI (((w.1.1 (p) : Nat) : Int)))]) rfl ?_
  have bd_3 := hv.1.1 (q)
  refine lv_i2l (v := lI (((w.1.1 (q) : Nat) : Int))) hx hb dX3_turnOfPoints_20 (nzI_l (by omega)) ?_
  refine lv_aload_n hx hb dX3_turnOfPoints_21 rfl (lv_at hl 0 rfl) ?_
  refine va_get (D := (dC, dI)) (ci := 3) (v := .ref (b 2)) (C := RX3) (T := TX3) (N := 11) hx hb hts (by decide +kernel) hown hK hP 0 rfl rfl 5 (by decide) (hts (.fieldLink RX3 13 "TriangleSheetModel" "py" "[I") (by decide +kernel)) (fun _ h9 => h9) rfl dX3_turnOfPoints_22 ?_
  refine lv_iload_n hx hb dX3_turnOfPoints_25 rfl (lv_at hl 2 rfl) ?_
  refine ia_ld (k := q) hx hb hK hP 2 0 rfl rfl (by omega) (by decide) dX3_turnOfPoints_26 ?_
  refine W.eq (g2 := F0 m 27 ls [.int (nI (w.1.2.1 (q))), .long (lI (((w.1.1 (q) : Nat) : Int))), .long (lI (((w.1.2.1 (p) : Nat) : Int))), .long (lI (((w.1.1 (p) : Nat) : Int)))]) rfl ?_
  have bd_4 := hv.1.2.1 (q)
  refine lv_i2l (v := lI (((w.1.2.1 (q) : Nat) : Int))) hx hb dX3_turnOfPoints_27 (nzI_l (by omega)) ?_
  refine lv_aload_n hx hb dX3_turnOfPoints_28 rfl (lv_at hl 0 rfl) ?_
  refine va_get (D := (dC, dI)) (ci := 3) (v := .ref (b 1)) (C := RX3) (T := TX3) (N := 11) hx hb hts (by decide +kernel) hown hK hP 0 rfl rfl 4 (by decide) (hts (.fieldLink RX3 7 "TriangleSheetModel" "px" "[I") (by decide +kernel)) (fun _ h9 => h9) rfl dX3_turnOfPoints_29 ?_
  refine lv_iload_n hx hb dX3_turnOfPoints_32 rfl (lv_at hl 3 rfl) ?_
  refine ia_ld (k := r) hx hb hK hP 1 0 rfl rfl (by omega) (by decide) dX3_turnOfPoints_33 ?_
  refine W.eq (g2 := F0 m 34 ls [.int (nI (w.1.1 (r))), .long (lI (((w.1.2.1 (q) : Nat) : Int))), .long (lI (((w.1.1 (q) : Nat) : Int))), .long (lI (((w.1.2.1 (p) : Nat) : Int))), .long (lI (((w.1.1 (p) : Nat) : Int)))]) rfl ?_
  have bd_5 := hv.1.1 (r)
  refine lv_i2l (v := lI (((w.1.1 (r) : Nat) : Int))) hx hb dX3_turnOfPoints_34 (nzI_l (by omega)) ?_
  refine lv_aload_n hx hb dX3_turnOfPoints_35 rfl (lv_at hl 0 rfl) ?_
  refine va_get (D := (dC, dI)) (ci := 3) (v := .ref (b 2)) (C := RX3) (T := TX3) (N := 11) hx hb hts (by decide +kernel) hown hK hP 0 rfl rfl 5 (by decide) (hts (.fieldLink RX3 13 "TriangleSheetModel" "py" "[I") (by decide +kernel)) (fun _ h9 => h9) rfl dX3_turnOfPoints_36 ?_
  refine lv_iload_n hx hb dX3_turnOfPoints_39 rfl (lv_at hl 3 rfl) ?_
  refine ia_ld (k := r) hx hb hK hP 2 0 rfl rfl (by omega) (by decide) dX3_turnOfPoints_40 ?_
  refine W.eq (g2 := F0 m 41 ls [.int (nI (w.1.2.1 (r))), .long (lI (((w.1.1 (r) : Nat) : Int))), .long (lI (((w.1.2.1 (q) : Nat) : Int))), .long (lI (((w.1.1 (q) : Nat) : Int))), .long (lI (((w.1.2.1 (p) : Nat) : Int))), .long (lI (((w.1.1 (p) : Nat) : Int)))]) rfl ?_
  have bd_6 := hv.1.2.1 (r)
  refine lv_i2l (v := lI (((w.1.2.1 (r) : Nat) : Int))) hx hb dX3_turnOfPoints_41 (nzI_l (by omega)) ?_
  refine ro_S (As := [.long (lI (((w.1.1 (p) : Nat) : Int))), .long (lI (((w.1.2.1 (p) : Nat) : Int))), .long (lI (((w.1.1 (q) : Nat) : Int))), .long (lI (((w.1.2.1 (q) : Nat) : Int))), .long (lI (((w.1.1 (r) : Nat) : Int))), .long (lI (((w.1.2.1 (r) : Nat) : Int)))]) (rest := []) hx hb hml hown hts (c_X3_turnOf l dC dI  (((w.1.1 (p) : Nat) : Int)) (((w.1.2.1 (p) : Nat) : Int)) (((w.1.1 (q) : Nat) : Int)) (((w.1.2.1 (q) : Nat) : Int)) (((w.1.1 (r) : Nat) : Int)) (((w.1.2.1 (r) : Nat) : Int)) ) (va_cwS 6 hts gX3_turnOfPoints_X3_turnOf rfl rfl rfl (by decide +kernel) ⟨Nat.le_of_ble_eq_true rfl, Nat.le_of_ble_eq_true rfl⟩) (hK.sub [] rfl) (hP.sub [] rfl) rfl hl.1 rfl (Nat.le_of_ble_eq_true rfl) dX3_turnOfPoints_42 ⟨Nat.zero_le _, Nat.zero_le _⟩ ?_
  exact ro_lret hx hb hr rfl dX3_turnOfPoints_45 hlocks
set_option maxHeartbeats 4000000 in
set_option maxRecDepth 100000 in
theorem c_X3_pointAt (l : Launch) (dC : Nat → ClassId) (dI : Nat → Nat → Nat) (cI cL cZ : ClassId) (b : Nat → Nat) (w : MV) (x y : Int32) (hv : okM w) : Met l yX3_pointAt wsX3_pointAt ({ frames := 0, cells := 0, slots := 0, locals := 0 }) (va_Pc [.ref (b 0), .int (x), .int (y)] (ro_B (dC, dI) vwCl (wM cI cZ b w) (tyS cI cL cZ))) (k2_QcV (.int (oI (pAt w.1 (mPn w) x y)))) 0 0 (fun _ => False) := by
  refine ro_Met (cc := cX3_pointAt) (maxL := 4) (ret := (some .int)) (by decide) rfl (Nat.le_of_ble_eq_true rfl) ?_
  intro pr en s m below meth co ls hx hb hml hr hlocks hown hts hP hK hl
  have hl : lv_has ls 4 [(0, .ref (b 0)), (1, .int (x)), (2, .int (y))] := hl
  have hown : s.vm.findClass RX3 = some m.cls := hown
  have hvp : mPn w ≤ 60 ∧ mTm w ≤ 200 ∧ mTn w ≤ 60 := ⟨hv.2.1, hv.2.2.1, hv.2.2.2.1⟩
  refine lv_iconst (v := nI (0)) hx hb dX3_pointAt_0 (by decide) ?_
  refine lv_istore_n (lv' := [(3, .int (nI (0))), (0, .ref (b 0)), (1, .int (x)), (2, .int (y))]) hx hb dX3_pointAt_1 rfl hl (by decide) rfl (fun ls hl => ?_)
  refine lp (σ := Nat) (LV := fun n => [(0, .ref (b 0)), (1, .int (x)), (2, .int (y)), (3, .int (nI (n)))]) (I := fun k n => n + k = mPn w ∧ pAt w.1 (mPn w) x y = fnd (fun q => decide (nI (w.1.1 q) = x) && decide (nI (w.1.2.1 q) = y)) k n) (fun k n ls hI_k hl ih_k => ?_) (mPn w) (0) ls ⟨by omega, rfl⟩ (lv_sub hl [1, 2, 3, 0] rfl)
  obtain ⟨hk, hi⟩ := hI_k
  refine lv_iload_n hx hb dX3_pointAt_2 rfl (lv_at hl 3 rfl) ?_
  refine lv_aload_n hx hb dX3_pointAt_3 rfl (lv_at hl 0 rfl) ?_
  refine va_get (D := (dC, dI)) (ci := 3) (v := .int (nI (mPn w))) (C := RX3) (T := TX3) (N := 11) hx hb hts (by decide +kernel) hown hK hP 0 rfl rfl 1 (by decide) (hts (.fieldLink RX3 40 "TriangleSheetModel" "points" "I") (by decide +kernel)) (fun _ h9 => h9) rfl dX3_pointAt_4 ?_
  refine lv_icmp_ge (tgt := 38) hx hb dX3_pointAt_7 (by decide) (fun c_1 => ?_) (fun c_1 => ?_)
  · skip
    have c_1 : mPn w ≤ n := (nI_leI (a := mPn w) (b := n) (by omega) (by omega)).mp c_1
    refine lv_iconst (v := iI (-1)) hx hb dX3_pointAt_38 (by decide) ?_
    exact ro_iret hx hb hr (rO (by rw [hi, show k = 0 by omega]; rfl)) dX3_pointAt_39 hlocks
  · skip
    have c_1 : ¬ (mPn w ≤ n) := fun hq9 => c_1 ((nI_leI (a := mPn w) (b := n) (by omega) (by omega)).mpr hq9)
    refine lv_aload_n hx hb dX3_pointAt_10 rfl (lv_at hl 0 rfl) ?_
    refine va_get (D := (dC, dI)) (ci := 3) (v := .ref (b 1)) (C := RX3) (T := TX3) (N := 11) hx hb hts (by decide +kernel) hown hK hP 0 rfl rfl 4 (by decide) (hts (.fieldLink RX3 7 "TriangleSheetModel" "px" "[I") (by decide +kernel)) (fun _ h9 => h9) rfl dX3_pointAt_11 ?_
    refine lv_iload_n hx hb dX3_pointAt_14 rfl (lv_at hl 3 rfl) ?_
    refine ia_ld (k := n) hx hb hK hP 1 0 rfl rfl (by omega) (by decide) dX3_pointAt_15 ?_
    refine W.eq (g2 := F0 m 16 ls [.int (nI (w.1.1 (n)))]) rfl ?_
    have bd_2 := hv.1.1 (n)
    refine lv_iload_n hx hb dX3_pointAt_16 rfl (lv_at hl 1 rfl) ?_
    refine lv_icmp_ne (tgt := 32) hx hb dX3_pointAt_17 (by decide) (fun c_3 => ?_) (fun c_3 => ?_)
    · skip
      refine lv_iinc (v := nI (n + 1)) (lv' := [(3, .int (nI (n + 1))), (0, .ref (b 0)), (1, .int (x)), (2, .int (y))]) hx hb dX3_pointAt_32 hl (k := 3) rfl (nI_1 (n)) (by decide) rfl (fun ls hl => ?_)
      refine lv_goto (tgt := 2) hx hb dX3_pointAt_35 (by decide) ?_
      exact ih_k (k - 1) (n + 1) ls (by omega) ⟨by omega, hi.trans (fnd_miss (by omega) (by simp [c_1, c_3]))⟩ (lv_sub hl [1, 2, 3, 0] rfl)
    · skip
      refine lv_aload_n hx hb dX3_pointAt_20 rfl (lv_at hl 0 rfl) ?_
      refine va_get (D := (dC, dI)) (ci := 3) (v := .ref (b 2)) (C := RX3) (T := TX3) (N := 11) hx hb hts (by decide +kernel) hown hK hP 0 rfl rfl 5 (by decide) (hts (.fieldLink RX3 13 "TriangleSheetModel" "py" "[I") (by decide +kernel)) (fun _ h9 => h9) rfl dX3_pointAt_21 ?_
      refine lv_iload_n hx hb dX3_pointAt_24 rfl (lv_at hl 3 rfl) ?_
      refine ia_ld (k := n) hx hb hK hP 2 0 rfl rfl (by omega) (by decide) dX3_pointAt_25 ?_
      refine W.eq (g2 := F0 m 26 ls [.int (nI (w.1.2.1 (n)))]) rfl ?_
      have bd_4 := hv.1.2.1 (n)
      refine lv_iload_n hx hb dX3_pointAt_26 rfl (lv_at hl 2 rfl) ?_
      refine lv_icmp_ne (tgt := 32) hx hb dX3_pointAt_27 (by decide) (fun c_5 => ?_) (fun c_5 => ?_)
      · skip
        refine lv_iinc (v := nI (n + 1)) (lv' := [(3, .int (nI (n + 1))), (0, .ref (b 0)), (1, .int (x)), (2, .int (y))]) hx hb dX3_pointAt_32 hl (k := 3) rfl (nI_1 (n)) (by decide) rfl (fun ls hl => ?_)
        refine lv_goto (tgt := 2) hx hb dX3_pointAt_35 (by decide) ?_
        exact ih_k (k - 1) (n + 1) ls (by omega) ⟨by omega, hi.trans (fnd_miss (by omega) (by simp [c_1, c_3, c_5]))⟩ (lv_sub hl [1, 2, 3, 0] rfl)
      · skip
        refine lv_iload_n hx hb dX3_pointAt_30 rfl (lv_at hl 3 rfl) ?_
        exact ro_iret hx hb hr (rO (by rw [hi, fnd_hit (by omega) (by simp [c_1, c_3, c_5])]; rfl)) dX3_pointAt_31 hlocks
set_option maxHeartbeats 4000000 in
set_option maxRecDepth 100000 in
theorem c_X3_at (l : Launch) (dC : Nat → ClassId) (dI : Nat → Nat → Nat) (cI cL cZ : ClassId) (b : Nat → Nat) (w : MV) (t j : Nat) (ht : t < 200) (hj : j < 6) : Met l yX3_at wsX3_at ({ frames := 0, cells := 0, slots := 0, locals := 0 }) (va_Pc [.ref (b 0), .int (nI (t)), .int (nI (j))] (ro_B (dC, dI) vwCl (wM cI cZ b w) (tyS cI cL cZ))) (k2_QcV (.int (nI (gc w.1 t j)))) 0 0 (fun _ => False) := by
  refine ro_Met (cc := cX3_at) (maxL := 3) (ret := (some .int)) (by decide) rfl (Nat.le_of_ble_eq_true rfl) ?_
  intro pr en s m below meth co ls hx hb hml hr hlocks hown hts hP hK hl
  have hl : lv_has ls 3 [(0, .ref (b 0)), (1, .int (nI (t))), (2, .int (nI (j)))] := hl
  have hown : s.vm.findClass RX3 = some m.cls := hown
  refine lv_aload_n hx hb dX3_at_0 rfl (lv_at hl 0 rfl) ?_
  refine va_get (D := (dC, dI)) (ci := 3) (v := .ref (b 4)) (C := RX3) (T := TX3) (N := 11) hx hb hts (by decide +kernel) hown hK hP 0 rfl rfl 7 (by decide) (hts (.fieldLink RX3 20 "TriangleSheetModel" "corners" "[I") (by decide +kernel)) (fun _ h9 => h9) rfl dX3_at_1 ?_
  refine lv_iconst (v := nI (3)) hx hb dX3_at_4 (by decide) ?_
  refine lv_iload_n hx hb dX3_at_5 rfl (lv_at hl 1 rfl) ?_
  refine lv_imul hx hb dX3_at_6 ?_
  refine rt_i (y := (nI ((3) * (t)))) (nn_mul (3) (t)) ?_
  refine lv_iload_n hx hb dX3_at_7 rfl (lv_at hl 2 rfl) ?_
  refine lv_iconst (v := nI (3)) hx hb dX3_at_8 (by decide) ?_
  refine lv_irem hx hb dX3_at_9 (by decide) ?_
  refine rt_i (y := (nI ((j) % 3))) (pk_rem (by omega) (by decide) (by decide)) ?_
  refine lv_iadd hx hb dX3_at_10 ?_
  refine rt_i (y := (nI ((3) * (t) + (j) % 3))) (nn_add ((3) * (t)) ((j) % 3)) ?_
  refine ia_ld (k := (3) * (t) + (j) % 3) hx hb hK hP 4 0 rfl rfl (by omega) (by decide) dX3_at_11 ?_
  refine W.eq (g2 := F0 m 12 ls [.int (nI (w.1.2.2 ((3) * (t) + (j) % 3)))]) rfl ?_
  exact ro_iret hx hb hr rfl dX3_at_12 hlocks
set_option maxHeartbeats 4000000 in
set_option maxRecDepth 100000 in
theorem c_X3_isThere (l : Launch) (dC : Nat → ClassId) (dI : Nat → Nat → Nat) (cI cL cZ : ClassId) (b : Nat → Nat) (w : MV) (t : Int32) (hv : okM w) : Met l yX3_isThere wsX3_isThere ({ frames := 1, cells := 0, slots := 0, locals := 21 }) (va_Pc [.ref (b 0), .int (t)] (ro_B (dC, dI) vwCl (wM cI cZ b w) (tyS cI cL cZ))) (k2_QcV (.int (bI (mth w t)))) 0 0 (fun _ => False) := by
  refine ro_Met (cc := cX3_isThere) (maxL := 2) (ret := (some .boolean)) (by decide) rfl (Nat.le_of_ble_eq_true rfl) ?_
  intro pr en s m below meth co ls hx hb hml hr hlocks hown hts hP hK hl
  have hl : lv_has ls 2 [(0, .ref (b 0)), (1, .int (t))] := hl
  have hown : s.vm.findClass RX3 = some m.cls := hown
  have hvp : mPn w ≤ 60 ∧ mTm w ≤ 200 ∧ mTn w ≤ 60 := ⟨hv.2.1, hv.2.2.1, hv.2.2.2.1⟩
  refine lv_iload_n hx hb dX3_isThere_0 rfl (lv_at hl 1 rfl) ?_
  refine lv_aload_n hx hb dX3_isThere_1 rfl (lv_at hl 0 rfl) ?_
  refine va_get (D := (dC, dI)) (ci := 3) (v := .int (nI (mTm w))) (C := RX3) (T := TX3) (N := 11) hx hb hts (by decide +kernel) hown hK hP 0 rfl rfl 2 (by decide) (hts (.fieldLink RX3 43 "TriangleSheetModel" "came" "I") (by decide +kernel)) (fun _ h9 => h9) rfl dX3_isThere_2 ?_
  refine ro_S (As := [.int (t), .int (nI (mTm w))]) (rest := []) hx hb hml hown hts (c_X3_in l dC dI  t (mTm w) (by omega)) (va_cwS 2 hts gX3_isThere_X3_in rfl rfl rfl (by decide +kernel) ⟨Nat.le_of_ble_eq_true rfl, Nat.le_of_ble_eq_true rfl⟩) (hK.sub [] rfl) (hP.sub [] rfl) rfl hl.1 rfl (Nat.le_of_ble_eq_true rfl) dX3_isThere_5 ⟨Nat.zero_le _, Nat.zero_le _⟩ ?_
  refine lv_if_eq (tgt := 24) hx hb dX3_isThere_8 (by decide) (fun c_1 => ?_) (fun c_1 => ?_)
  · skip
    have c_1 : (inB t (mTm w)) = false := bI_f c_1
    refine lv_iconst (v := nI (0)) hx hb dX3_isThere_24 (by decide) ?_
    exact ro_zret hx hb hr (by decide) (rb_0 (by first | (simp [mth, c_1]; done) | (rw [mth, ej, nI_clamp (by omega), ← ej]; simp [c_1]))) dX3_isThere_25 hlocks
  · skip
    have c_1 : (inB t (mTm w)) = true := bI_t c_1
    obtain ⟨j, hj, ej⟩ := inB_of (by omega) c_1
    refine lv_aload_n hx hb dX3_isThere_11 rfl (lv_at hl 0 rfl) ?_
    refine va_get (D := (dC, dI)) (ci := 3) (v := .ref (b 3)) (C := RX3) (T := TX3) (N := 11) hx hb hts (by decide +kernel) hown hK hP 0 rfl rfl 6 (by decide) (hts (.fieldLink RX3 16 "TriangleSheetModel" "is" "[Z") (by decide +kernel)) (fun _ h9 => h9) rfl dX3_isThere_12 ?_
    refine lv_iload_n hx hb dX3_isThere_15 rfl (lv_at hl 1 rfl) ?_
    refine rt_i (y := nI (j)) ej ?_
    refine za_ld (k := j) hx hb hK hP 3 2 rfl rfl (by omega) (by decide) dX3_isThere_16 ?_
    refine W.eq (g2 := F0 m 17 ls [.int (bI (mIs w (j)))]) rfl ?_
    refine lv_if_eq (tgt := 24) hx hb dX3_isThere_17 (by decide) (fun c_2 => ?_) (fun c_2 => ?_)
    · skip
      have c_2 : (mIs w (j)) = false := bI_f c_2
      refine lv_iconst (v := nI (0)) hx hb dX3_isThere_24 (by decide) ?_
      exact ro_zret hx hb hr (by decide) (rb_0 (by first | (simp [mth, c_1, c_2]; done) | (rw [mth, ej, nI_clamp (by omega), ← ej]; simp [c_1, c_2]))) dX3_isThere_25 hlocks
    · skip
      have c_2 : (mIs w (j)) = true := bI_t c_2
      refine lv_iconst (v := nI (1)) hx hb dX3_isThere_20 (by decide) ?_
      refine lv_goto (tgt := 25) hx hb dX3_isThere_21 (by decide) ?_
      exact ro_zret hx hb hr (by decide) (rb_1 (by rw [mth, ej, nI_clamp (by omega), ← ej]; simp [c_1, c_2])) dX3_isThere_25 hlocks
set_option maxHeartbeats 4000000 in
set_option maxRecDepth 100000 in
theorem c_X3_twice (l : Launch) (dC : Nat → ClassId) (dI : Nat → Nat → Nat) (cI cL cZ : ClassId) (b : Nat → Nat) (w : MV) (t : Nat) (hv : okM w) (ht : t < 200) : Met l yX3_twice wsX3_twice ({ frames := 2, cells := 0, slots := 0, locals := 54 }) (va_Pc [.ref (b 0), .int (nI (t))] (ro_B (dC, dI) vwCl (wM cI cZ b w) (tyS cI cL cZ))) (k2_QcV (.long (lI (twi w.1 t)))) 0 0 (fun _ => False) := by
  refine ro_Met (cc := cX3_twice) (maxL := 2) (ret := (some .long)) (by decide) rfl (Nat.le_of_ble_eq_true rfl) ?_
  intro pr en s m below meth co ls hx hb hml hr hlocks hown hts hP hK hl
  have hl : lv_has ls 2 [(0, .ref (b 0)), (1, .int (nI (t)))] := hl
  have hown : s.vm.findClass RX3 = some m.cls := hown
  have hvp : mPn w ≤ 60 ∧ mTm w ≤ 200 ∧ mTn w ≤ 60 := ⟨hv.2.1, hv.2.2.1, hv.2.2.2.1⟩
  have hg0 := gc_lt hv.1 (t := t) (k := 0)
  have hg1 := gc_lt hv.1 (t := t) (k := 1)
  have hg2 := gc_lt hv.1 (t := t) (k := 2)
  refine lv_aload_n hx hb dX3_twice_0 rfl (lv_at hl 0 rfl) ?_
  refine lv_aload_n hx hb dX3_twice_1 rfl (lv_at hl 0 rfl) ?_
  refine lv_iload_n hx hb dX3_twice_2 rfl (lv_at hl 1 rfl) ?_
  refine lv_iconst (v := nI (0)) hx hb dX3_twice_3 (by decide) ?_
  refine ro_V (As := [.int (nI (t)), .int (nI (0))]) (rest := [.ref (b 0)]) (q0 := 0) (ci := 3) hx hb hml hown hts (c_X3_at l dC dI cI cL cZ b w t 0 (by omega) (by omega)) (cwV 2 hts gX3_twice_X3_at rfl rfl rfl (by decide +kernel) ⟨Nat.le_of_ble_eq_true rfl, Nat.le_of_ble_eq_true rfl⟩) hK hP rfl rfl rfl hl.1 rfl (Nat.le_of_ble_eq_true rfl) dX3_twice_4 ⟨Nat.zero_le _, Nat.zero_le _⟩ ?_
  refine lv_aload_n hx hb dX3_twice_7 rfl (lv_at hl 0 rfl) ?_
  refine lv_iload_n hx hb dX3_twice_8 rfl (lv_at hl 1 rfl) ?_
  refine lv_iconst (v := nI (1)) hx hb dX3_twice_9 (by decide) ?_
  refine ro_V (As := [.int (nI (t)), .int (nI (1))]) (rest := [.int (nI (gc w.1 t 0)), .ref (b 0)]) (q0 := 0) (ci := 3) hx hb hml hown hts (c_X3_at l dC dI cI cL cZ b w t 1 (by omega) (by omega)) (cwV 2 hts gX3_twice_X3_at rfl rfl rfl (by decide +kernel) ⟨Nat.le_of_ble_eq_true rfl, Nat.le_of_ble_eq_true rfl⟩) hK hP rfl rfl rfl hl.1 rfl (Nat.le_of_ble_eq_true rfl) dX3_twice_10 ⟨Nat.zero_le _, Nat.zero_le _⟩ ?_
  refine lv_aload_n hx hb dX3_twice_13 rfl (lv_at hl 0 rfl) ?_
  refine lv_iload_n hx hb dX3_twice_14 rfl (lv_at hl 1 rfl) ?_
  refine lv_iconst (v := nI (2)) hx hb dX3_twice_15 (by decide) ?_
  refine ro_V (As := [.int (nI (t)), .int (nI (2))]) (rest := [.int (nI (gc w.1 t 1)), .int (nI (gc w.1 t 0)), .ref (b 0)]) (q0 := 0) (ci := 3) hx hb hml hown hts (c_X3_at l dC dI cI cL cZ b w t 2 (by omega) (by omega)) (cwV 2 hts gX3_twice_X3_at rfl rfl rfl (by decide +kernel) ⟨Nat.le_of_ble_eq_true rfl, Nat.le_of_ble_eq_true rfl⟩) hK hP rfl rfl rfl hl.1 rfl (Nat.le_of_ble_eq_true rfl) dX3_twice_16 ⟨Nat.zero_le _, Nat.zero_le _⟩ ?_
  refine ro_V (As := [.int (nI (gc w.1 t 0)), .int (nI (gc w.1 t 1)), .int (nI (gc w.1 t 2))]) (rest := []) (q0 := 0) (ci := 3) hx hb hml hown hts (c_X3_turnOfPoints l dC dI cI cL cZ b w (gc w.1 t 0) (gc w.1 t 1) (gc w.1 t 2) hv (by omega) (by omega) (by omega)) (cwV 3 hts gX3_twice_X3_turnOfPoints rfl rfl rfl (by decide +kernel) ⟨Nat.le_of_ble_eq_true rfl, Nat.le_of_ble_eq_true rfl⟩) hK hP rfl rfl rfl hl.1 rfl (Nat.le_of_ble_eq_true rfl) dX3_twice_19 ⟨Nat.zero_le _, Nat.zero_le _⟩ ?_
  have ps_1 : lOk (tof w.1 (gc w.1 t 0) (gc w.1 t 1) (gc w.1 t 2)) := (tof_ok hv.1).l
  exact ro_lret hx hb hr rfl dX3_twice_22 hlocks
set_option maxHeartbeats 4000000 in
set_option maxRecDepth 100000 in
theorem c_X3_isRight (l : Launch) (dC : Nat → ClassId) (dI : Nat → Nat → Nat) (cI cL cZ : ClassId) (b : Nat → Nat) (w : MV) (t : Nat) (hv : okM w) (ht : t < 200) : Met l yX3_isRight wsX3_isRight ({ frames := 3, cells := 0, slots := 0, locals := 75 }) (va_Pc [.ref (b 0), .int (nI (t))] (ro_B (dC, dI) vwCl (wM cI cZ b w) (tyS cI cL cZ))) (k2_QcV (.int (bI (rgt w.1 t)))) 0 0 (fun _ => False) := by
  refine ro_Met (cc := cX3_isRight) (maxL := 2) (ret := (some .boolean)) (by decide) rfl (Nat.le_of_ble_eq_true rfl) ?_
  intro pr en s m below meth co ls hx hb hml hr hlocks hown hts hP hK hl
  have hl : lv_has ls 2 [(0, .ref (b 0)), (1, .int (nI (t)))] := hl
  have hown : s.vm.findClass RX3 = some m.cls := hown
  have hvp : mPn w ≤ 60 ∧ mTm w ≤ 200 ∧ mTn w ≤ 60 := ⟨hv.2.1, hv.2.2.1, hv.2.2.2.1⟩
  refine lv_aload_n hx hb dX3_isRight_0 rfl (lv_at hl 0 rfl) ?_
  refine lv_iload_n hx hb dX3_isRight_1 rfl (lv_at hl 1 rfl) ?_
  refine ro_V (As := [.int (nI (t))]) (rest := []) (q0 := 0) (ci := 3) hx hb hml hown hts (c_X3_twice l dC dI cI cL cZ b w t hv (by omega)) (cwV 1 hts gX3_isRight_X3_twice rfl rfl rfl (by decide +kernel) ⟨Nat.le_of_ble_eq_true rfl, Nat.le_of_ble_eq_true rfl⟩) hK hP rfl rfl rfl hl.1 rfl (Nat.le_of_ble_eq_true rfl) dX3_isRight_2 ⟨Nat.zero_le _, Nat.zero_le _⟩ ?_
  have ps_1 : lOk (twi w.1 t) := (tof_ok hv.1).l
  refine lv_lconst (v := lI 0) hx hb dX3_isRight_5 (by decide) ?_
  refine W.lcmp hx hb dX3_isRight_6 ?_
  refine lv_if_le (tgt := 14) hx hb dX3_isRight_7 (by decide) (fun c_2 => ?_) (fun c_2 => ?_)
  · skip
    have c_2 : (twi w.1 t) ≤ 0 := (lc_le (a := twi w.1 t) (b := 0) (by assumption) lOk_0).mp c_2
    refine lv_iconst (v := nI (0)) hx hb dX3_isRight_14 (by decide) ?_
    exact ro_zret hx hb hr (by decide) (rb_0 (by simp [rgt]; omega)) dX3_isRight_15 hlocks
  · skip
    have c_2 : ¬ ((twi w.1 t) ≤ 0) := fun hq9 => c_2 ((lc_le (a := twi w.1 t) (b := 0) (by assumption) lOk_0).mpr hq9)
    refine lv_iconst (v := nI (1)) hx hb dX3_isRight_10 (by decide) ?_
    refine lv_goto (tgt := 15) hx hb dX3_isRight_11 (by decide) ?_
    exact ro_zret hx hb hr (by decide) (rb_1 (by simp [rgt]; omega)) dX3_isRight_15 hlocks
set_option maxHeartbeats 4000000 in
set_option maxRecDepth 100000 in
theorem c_X3_hasPlace (l : Launch) (dC : Nat → ClassId) (dI : Nat → Nat → Nat) (cI cL cZ : ClassId) (b : Nat → Nat) (w : MV) (t : Nat) (x y : Int) (hv : okM w) (ht : t < 200) (hx9 : zOk x) (hy9 : zOk y) : Met l yX3_hasPlace wsX3_hasPlace ({ frames := 1, cells := 0, slots := 0, locals := 31 }) (va_Pc [.ref (b 0), .int (nI (t)), .long (lI (x)), .long (lI (y))] (ro_B (dC, dI) vwCl (wM cI cZ b w) (tyS cI cL cZ))) (k2_QcV (.int (bI (has w.1 t x y)))) 0 0 (fun _ => False) := by
  refine ro_Met (cc := cX3_hasPlace) (maxL := 8) (ret := (some .boolean)) (by decide) rfl (Nat.le_of_ble_eq_true rfl) ?_
  intro pr en s m below meth co ls hx hb hml hr hlocks hown hts hP hK hl
  have hl : lv_has ls 8 [(0, .ref (b 0)), (1, .int (nI (t))), (2, .long (lI (x))), (4, .long (lI (y)))] := hl
  have hown : s.vm.findClass RX3 = some m.cls := hown
  have hvp : mPn w ≤ 60 ∧ mTm w ≤ 200 ∧ mTn w ≤ 60 := ⟨hv.2.1, hv.2.2.1, hv.2.2.2.1⟩
  refine lv_iconst (v := nI (1)) hx hb dX3_hasPlace_0 (by decide) ?_
  refine lv_istore (lv' := [(6, .int (nI (1))), (0, .ref (b 0)), (1, .int (nI (t))), (2, .long (lI (x))), (4, .long (lI (y)))]) hx hb dX3_hasPlace_1 hl (by decide) rfl (fun ls hl => ?_)
  refine lv_iconst (v := nI (0)) hx hb dX3_hasPlace_3 (by decide) ?_
  refine lv_istore (lv' := [(7, .int (nI (0))), (6, .int (nI (1))), (0, .ref (b 0)), (1, .int (nI (t))), (2, .long (lI (x))), (4, .long (lI (y)))]) hx hb dX3_hasPlace_4 hl (by decide) rfl (fun ls hl => ?_)
  refine lp (σ := Nat × Bool) (LV := fun (n, hb2) => [(0, .ref (b 0)), (1, .int (nI (t))), (2, .long (lI (x))), (4, .long (lI (y))), (6, .int (bI (hb2))), (7, .int (nI (n)))]) (I := fun k (n, hb2) => n + k = 3 ∧ has w.1 t x y = (hb2 && alf (fun k => decide (0 ≤ tbe w.1 t k x y)) k n)) (fun k (n, hb2) ls hI_k hl ih_k => ?_) (3) (0, true) ls ⟨by omega, (Bool.true_and _).symm⟩ (lv_sub hl [2, 3, 4, 5, 1, 0] rfl)
  obtain ⟨hk, hi⟩ := hI_k
  have hg0 := gc_lt hv.1 (t := t) (k := n)
  have hg1 := gc_lt hv.1 (t := t) (k := n + 1)
  refine lv_iload hx hb dX3_hasPlace_6 (lv_at hl 5 rfl) ?_
  refine lv_iconst (v := nI (3)) hx hb dX3_hasPlace_8 (by decide) ?_
  refine lv_icmp_ge (tgt := 97) hx hb dX3_hasPlace_9 (by decide) (fun c_1 => ?_) (fun c_1 => ?_)
  · skip
    have c_1 : 3 ≤ n := (nI_leI (a := 3) (b := n) (by omega) (by omega)).mp c_1
    refine lv_iload hx hb dX3_hasPlace_97 (lv_at hl 4 rfl) ?_
    exact ro_zret hx hb hr (nar_b _) (congrArg (fun q => Value.int (bI q)) (by rw [hi, show k = 0 by omega]; simp [alf])) dX3_hasPlace_99 hlocks
  · skip
    have c_1 : ¬ (3 ≤ n) := fun hq9 => c_1 ((nI_leI (a := 3) (b := n) (by omega) (by omega)).mpr hq9)
    refine lv_iload hx hb dX3_hasPlace_12 (lv_at hl 4 rfl) ?_
    refine lv_if_eq (tgt := 88) hx hb dX3_hasPlace_14 (by decide) (fun c_2 => ?_) (fun c_2 => ?_)
    · skip
      have c_2 : (hb2) = false := bI_f c_2
      refine lv_iconst (v := nI (0)) hx hb dX3_hasPlace_88 (by decide) ?_
      refine lv_istore (lv' := [(6, .int (nI (0))), (0, .ref (b 0)), (1, .int (nI (t))), (2, .long (lI (x))), (4, .long (lI (y))), (7, .int (nI (n)))]) hx hb dX3_hasPlace_89 hl (by decide) rfl (fun ls hl => ?_)
      refine lv_iinc (v := nI (n + 1)) (lv' := [(7, .int (nI (n + 1))), (6, .int (nI (0))), (0, .ref (b 0)), (1, .int (nI (t))), (2, .long (lI (x))), (4, .long (lI (y)))]) hx hb dX3_hasPlace_91 hl (k := 5) rfl (nI_1 (n)) (by decide) rfl (fun ls hl => ?_)
      refine lv_goto (tgt := 6) hx hb dX3_hasPlace_94 (by decide) ?_
      exact ih_k (k - 1) (n + 1, false) ls (by omega) ⟨by omega, by rw [hi, alf_s (by omega)]; first | (simp [c_1, c_2]; done) | (have e9 : decide (0 ≤ tbe w.1 t n x y) = false := (by simp; omega); simp [e9]; done) | (have e9 : decide (0 ≤ tbe w.1 t n x y) = true := (by simp; omega); simp [e9, c_1, c_2])⟩ (lv_sub hl [2, 3, 4, 5, 1, 0] rfl)
    · skip
      have c_2 : (hb2) = true := bI_t c_2
      refine lv_aload_n hx hb dX3_hasPlace_17 rfl (lv_at hl 0 rfl) ?_
      refine va_get (D := (dC, dI)) (ci := 3) (v := .ref (b 1)) (C := RX3) (T := TX3) (N := 11) hx hb hts (by decide +kernel) hown hK hP 0 rfl rfl 4 (by decide) (hts (.fieldLink RX3 7 "TriangleSheetModel" "px" "[I") (by decide +kernel)) (fun _ h9 => h9) rfl dX3_hasPlace_18 ?_
      refine lv_aload_n hx hb dX3_hasPlace_21 rfl (lv_at hl 0 rfl) ?_
      refine lv_iload_n hx hb dX3_hasPlace_22 rfl (lv_at hl 1 rfl) ?_
      refine lv_iload hx hb dX3_hasPlace_23 (lv_at hl 5 rfl) ?_
      refine ro_V (As := [.int (nI (t)), .int (nI (n))]) (rest := [.ref (b 1)]) (q0 := 0) (ci := 3) hx hb hml hown hts (c_X3_at l dC dI cI cL cZ b w t n (by omega) (by omega)) (cwV 2 hts gX3_hasPlace_X3_at rfl rfl rfl (by decide +kernel) ⟨Nat.le_of_ble_eq_true rfl, Nat.le_of_ble_eq_true rfl⟩) hK hP rfl rfl rfl hl.1 rfl (Nat.le_of_ble_eq_true rfl) dX3_hasPlace_25 ⟨Nat.zero_le _, Nat.zero_le _⟩ ?_
      refine ia_ld (k := gc w.1 t n) hx hb hK hP 1 0 rfl rfl (by omega) (by decide) dX3_hasPlace_28 ?_
      refine W.eq (g2 := F0 m 29 ls [.int (nI (w.1.1 (gc w.1 t n)))]) rfl ?_
      have bd_3 := hv.1.1 (gc w.1 t n)
      refine lv_i2l (v := lI (((w.1.1 (gc w.1 t n) : Nat) : Int))) hx hb dX3_hasPlace_29 (nzI_l (by omega)) ?_
      refine lv_aload_n hx hb dX3_hasPlace_30 rfl (lv_at hl 0 rfl) ?_
      refine va_get (D := (dC, dI)) (ci := 3) (v := .ref (b 2)) (C := RX3) (T := TX3) (N := 11) hx hb hts (by decide +kernel) hown hK hP 0 rfl rfl 5 (by decide) (hts (.fieldLink RX3 13 "TriangleSheetModel" "py" "[I") (by decide +kernel)) (fun _ h9 => h9) rfl dX3_hasPlace_31 ?_
      refine lv_aload_n hx hb dX3_hasPlace_34 rfl (lv_at hl 0 rfl) ?_
      refine lv_iload_n hx hb dX3_hasPlace_35 rfl (lv_at hl 1 rfl) ?_
      refine lv_iload hx hb dX3_hasPlace_36 (lv_at hl 5 rfl) ?_
      refine ro_V (As := [.int (nI (t)), .int (nI (n))]) (rest := [.ref (b 2), .long (lI (((w.1.1 (gc w.1 t n) : Nat) : Int)))]) (q0 := 0) (ci := 3) hx hb hml hown hts (c_X3_at l dC dI cI cL cZ b w t n (by omega) (by omega)) (cwV 2 hts gX3_hasPlace_X3_at rfl rfl rfl (by decide +kernel) ⟨Nat.le_of_ble_eq_true rfl, Nat.le_of_ble_eq_true rfl⟩) hK hP rfl rfl rfl hl.1 rfl (Nat.le_of_ble_eq_true rfl) dX3_hasPlace_38 ⟨Nat.zero_le _, Nat.zero_le _⟩ ?_
      refine ia_ld (k := gc w.1 t n) hx hb hK hP 2 0 rfl rfl (by omega) (by decide) dX3_hasPlace_41 ?_
      refine W.eq (g2 := F0 m 42 ls [.int (nI (w.1.2.1 (gc w.1 t n))), .long (lI (((w.1.1 (gc w.1 t n) : Nat) : Int)))]) rfl ?_
      have bd_4 := hv.1.2.1 (gc w.1 t n)
      refine lv_i2l (v := lI (((w.1.2.1 (gc w.1 t n) : Nat) : Int))) hx hb dX3_hasPlace_42 (nzI_l (by omega)) ?_
      refine lv_aload_n hx hb dX3_hasPlace_43 rfl (lv_at hl 0 rfl) ?_
      refine va_get (D := (dC, dI)) (ci := 3) (v := .ref (b 1)) (C := RX3) (T := TX3) (N := 11) hx hb hts (by decide +kernel) hown hK hP 0 rfl rfl 4 (by decide) (hts (.fieldLink RX3 7 "TriangleSheetModel" "px" "[I") (by decide +kernel)) (fun _ h9 => h9) rfl dX3_hasPlace_44 ?_
      refine lv_aload_n hx hb dX3_hasPlace_47 rfl (lv_at hl 0 rfl) ?_
      refine lv_iload_n hx hb dX3_hasPlace_48 rfl (lv_at hl 1 rfl) ?_
      refine lv_iload hx hb dX3_hasPlace_49 (lv_at hl 5 rfl) ?_
      refine lv_iconst (v := nI (1)) hx hb dX3_hasPlace_51 (by decide) ?_
      refine lv_iadd hx hb dX3_hasPlace_52 ?_
      refine rt_i (y := (nI (n + 1))) (nn_add (n) (1)) ?_
      refine ro_V (As := [.int (nI (t)), .int (nI (n + 1))]) (rest := [.ref (b 1), .long (lI (((w.1.2.1 (gc w.1 t n) : Nat) : Int))), .long (lI (((w.1.1 (gc w.1 t n) : Nat) : Int)))]) (q0 := 0) (ci := 3) hx hb hml hown hts (c_X3_at l dC dI cI cL cZ b w t (n + 1) (by omega) (by omega)) (cwV 2 hts gX3_hasPlace_X3_at rfl rfl rfl (by decide +kernel) ⟨Nat.le_of_ble_eq_true rfl, Nat.le_of_ble_eq_true rfl⟩) hK hP rfl rfl rfl hl.1 rfl (Nat.le_of_ble_eq_true rfl) dX3_hasPlace_53 ⟨Nat.zero_le _, Nat.zero_le _⟩ ?_
      refine ia_ld (k := gc w.1 t (n + 1)) hx hb hK hP 1 0 rfl rfl (by omega) (by decide) dX3_hasPlace_56 ?_
      refine W.eq (g2 := F0 m 57 ls [.int (nI (w.1.1 (gc w.1 t (n + 1)))), .long (lI (((w.1.2.1 (gc w.1 t n) : Nat) : Int))), .long (lI (((w.1.1 (gc w.1 t n) : Nat) : Int)))]) rfl ?_
      have bd_5 := hv.1.1 (gc w.1 t (n + 1))
      refine lv_i2l (v := lI (((w.1.1 (gc w.1 t (n + 1)) : Nat) : Int))) hx hb dX3_hasPlace_57 (nzI_l (by omega)) ?_
      refine lv_aload_n hx hb dX3_hasPlace_58 rfl (lv_at hl 0 rfl) ?_
      refine va_get (D := (dC, dI)) (ci := 3) (v := .ref (b 2)) (C := RX3) (T := TX3) (N := 11) hx hb hts (by decide +kernel) hown hK hP 0 rfl rfl 5 (by decide) (hts (.fieldLink RX3 13 "TriangleSheetModel" "py" "[I") (by decide +kernel)) (fun _ h9 => h9) rfl dX3_hasPlace_59 ?_
      refine lv_aload_n hx hb dX3_hasPlace_62 rfl (lv_at hl 0 rfl) ?_
      refine lv_iload_n hx hb dX3_hasPlace_63 rfl (lv_at hl 1 rfl) ?_
      refine lv_iload hx hb dX3_hasPlace_64 (lv_at hl 5 rfl) ?_
      refine lv_iconst (v := nI (1)) hx hb dX3_hasPlace_66 (by decide) ?_
      refine lv_iadd hx hb dX3_hasPlace_67 ?_
      refine rt_i (y := (nI (n + 1))) (nn_add (n) (1)) ?_
      refine ro_V (As := [.int (nI (t)), .int (nI (n + 1))]) (rest := [.ref (b 2), .long (lI (((w.1.1 (gc w.1 t (n + 1)) : Nat) : Int))), .long (lI (((w.1.2.1 (gc w.1 t n) : Nat) : Int))), .long (lI (((w.1.1 (gc w.1 t n) : Nat) : Int)))]) (q0 := 0) (ci := 3) hx hb hml hown hts (c_X3_at l dC dI cI cL cZ b w t (n + 1) (by omega) (by omega)) (cwV 2 hts gX3_hasPlace_X3_at rfl rfl rfl (by decide +kernel) ⟨Nat.le_of_ble_eq_true rfl, Nat.le_of_ble_eq_true rfl⟩) hK hP rfl rfl rfl hl.1 rfl (Nat.le_of_ble_eq_true rfl) dX3_hasPlace_68 ⟨Nat.zero_le _, Nat.zero_le _⟩ ?_
      refine ia_ld (k := gc w.1 t (n + 1)) hx hb hK hP 2 0 rfl rfl (by omega) (by decide) dX3_hasPlace_71 ?_
      refine W.eq (g2 := F0 m 72 ls [.int (nI (w.1.2.1 (gc w.1 t (n + 1)))), .long (lI (((w.1.1 (gc w.1 t (n + 1)) : Nat) : Int))), .long (lI (((w.1.2.1 (gc w.1 t n) : Nat) : Int))), .long (lI (((w.1.1 (gc w.1 t n) : Nat) : Int)))]) rfl ?_
      have bd_6 := hv.1.2.1 (gc w.1 t (n + 1))
      refine lv_i2l (v := lI (((w.1.2.1 (gc w.1 t (n + 1)) : Nat) : Int))) hx hb dX3_hasPlace_72 (nzI_l (by omega)) ?_
      refine lv_lload_n hx hb dX3_hasPlace_73 rfl (lv_at hl 2 rfl) ?_
      refine lv_lload hx hb dX3_hasPlace_74 (lv_at hl 3 rfl) ?_
      refine ro_S (As := [.long (lI (((w.1.1 (gc w.1 t n) : Nat) : Int))), .long (lI (((w.1.2.1 (gc w.1 t n) : Nat) : Int))), .long (lI (((w.1.1 (gc w.1 t (n + 1)) : Nat) : Int))), .long (lI (((w.1.2.1 (gc w.1 t (n + 1)) : Nat) : Int))), .long (lI (x)), .long (lI (y))]) (rest := []) hx hb hml hown hts (c_X3_turnOf l dC dI  (((w.1.1 (gc w.1 t n) : Nat) : Int)) (((w.1.2.1 (gc w.1 t n) : Nat) : Int)) (((w.1.1 (gc w.1 t (n + 1)) : Nat) : Int)) (((w.1.2.1 (gc w.1 t (n + 1)) : Nat) : Int)) x y ) (va_cwS 6 hts gX3_hasPlace_X3_turnOf rfl rfl rfl (by decide +kernel) ⟨Nat.le_of_ble_eq_true rfl, Nat.le_of_ble_eq_true rfl⟩) (hK.sub [] rfl) (hP.sub [] rfl) rfl hl.1 rfl (Nat.le_of_ble_eq_true rfl) dX3_hasPlace_76 ⟨Nat.zero_le _, Nat.zero_le _⟩ ?_
      refine rt_l (y := (lI (tbe w.1 t (n) x y))) rfl ?_
      refine lv_lconst (v := lI 0) hx hb dX3_hasPlace_79 (by decide) ?_
      refine W.lcmp hx hb dX3_hasPlace_80 ?_
      refine lv_if_lt (tgt := 88) hx hb dX3_hasPlace_81 (by decide) (fun c_7 => ?_) (fun c_7 => ?_)
      · skip
        have c_7 : (tbe w.1 t (n) x y) < 0 := (lc_lt (a := tbe w.1 t (n) x y) (b := 0) (tat_lok hv.1 hx9 hy9) lOk_0).mp c_7
        refine lv_iconst (v := nI (0)) hx hb dX3_hasPlace_88 (by decide) ?_
        refine lv_istore (lv' := [(6, .int (nI (0))), (0, .ref (b 0)), (1, .int (nI (t))), (2, .long (lI (x))), (4, .long (lI (y))), (7, .int (nI (n)))]) hx hb dX3_hasPlace_89 hl (by decide) rfl (fun ls hl => ?_)
        refine lv_iinc (v := nI (n + 1)) (lv' := [(7, .int (nI (n + 1))), (6, .int (nI (0))), (0, .ref (b 0)), (1, .int (nI (t))), (2, .long (lI (x))), (4, .long (lI (y)))]) hx hb dX3_hasPlace_91 hl (k := 5) rfl (nI_1 (n)) (by decide) rfl (fun ls hl => ?_)
        refine lv_goto (tgt := 6) hx hb dX3_hasPlace_94 (by decide) ?_
        exact ih_k (k - 1) (n + 1, false) ls (by omega) ⟨by omega, by rw [hi, alf_s (by omega)]; first | (simp [c_1, c_2, c_7]; done) | (have e9 : decide (0 ≤ tbe w.1 t n x y) = false := (by simp; omega); simp [e9]; done) | (have e9 : decide (0 ≤ tbe w.1 t n x y) = true := (by simp; omega); simp [e9, c_1, c_2, c_7])⟩ (lv_sub hl [2, 3, 4, 5, 1, 0] rfl)
      · skip
        have c_7 : ¬ ((tbe w.1 t (n) x y) < 0) := fun hq9 => c_7 ((lc_lt (a := tbe w.1 t (n) x y) (b := 0) (tat_lok hv.1 hx9 hy9) lOk_0).mpr hq9)
        refine lv_iconst (v := nI (1)) hx hb dX3_hasPlace_84 (by decide) ?_
        refine lv_goto (tgt := 89) hx hb dX3_hasPlace_85 (by decide) ?_
        refine lv_istore (lv' := [(6, .int (nI (1))), (0, .ref (b 0)), (1, .int (nI (t))), (2, .long (lI (x))), (4, .long (lI (y))), (7, .int (nI (n)))]) hx hb dX3_hasPlace_89 hl (by decide) rfl (fun ls hl => ?_)
        refine lv_iinc (v := nI (n + 1)) (lv' := [(7, .int (nI (n + 1))), (6, .int (nI (1))), (0, .ref (b 0)), (1, .int (nI (t))), (2, .long (lI (x))), (4, .long (lI (y)))]) hx hb dX3_hasPlace_91 hl (k := 5) rfl (nI_1 (n)) (by decide) rfl (fun ls hl => ?_)
        refine lv_goto (tgt := 6) hx hb dX3_hasPlace_94 (by decide) ?_
        exact ih_k (k - 1) (n + 1, true) ls (by omega) ⟨by omega, by rw [hi, alf_s (by omega)]; first | (simp [c_1, c_2, c_7]; done) | (have e9 : decide (0 ≤ tbe w.1 t n x y) = false := (by simp; omega); simp [e9]; done) | (have e9 : decide (0 ≤ tbe w.1 t n x y) = true := (by simp; omega); simp [e9, c_1, c_2, c_7])⟩ (lv_sub hl [2, 3, 4, 5, 1, 0] rfl)
set_option maxHeartbeats 4000000 in
set_option maxRecDepth 100000 in
theorem c_X3_isCorner (l : Launch) (dC : Nat → ClassId) (dI : Nat → Nat → Nat) (cI cL cZ : ClassId) (b : Nat → Nat) (w : MV) (t q : Nat) (hv : okM w) (ht : t < 200) (hq : q < 60) : Met l yX3_isCorner wsX3_isCorner ({ frames := 1, cells := 0, slots := 0, locals := 22 }) (va_Pc [.ref (b 0), .int (nI (t)), .int (nI (q))] (ro_B (dC, dI) vwCl (wM cI cZ b w) (tyS cI cL cZ))) (k2_QcV (.int (bI (hcr w.1 t q)))) 0 0 (fun _ => False) := by
  refine ro_Met (cc := cX3_isCorner) (maxL := 3) (ret := (some .boolean)) (by decide) rfl (Nat.le_of_ble_eq_true rfl) ?_
  intro pr en s m below meth co ls hx hb hml hr hlocks hown hts hP hK hl
  have hl : lv_has ls 3 [(0, .ref (b 0)), (1, .int (nI (t))), (2, .int (nI (q)))] := hl
  have hown : s.vm.findClass RX3 = some m.cls := hown
  have hvp : mPn w ≤ 60 ∧ mTm w ≤ 200 ∧ mTn w ≤ 60 := ⟨hv.2.1, hv.2.2.1, hv.2.2.2.1⟩
  have hg0 := gc_lt hv.1 (t := t) (k := 0)
  have hg1 := gc_lt hv.1 (t := t) (k := 1)
  have hg2 := gc_lt hv.1 (t := t) (k := 2)
  refine lv_aload_n hx hb dX3_isCorner_0 rfl (lv_at hl 0 rfl) ?_
  refine lv_iload_n hx hb dX3_isCorner_1 rfl (lv_at hl 1 rfl) ?_
  refine lv_iconst (v := nI (0)) hx hb dX3_isCorner_2 (by decide) ?_
  refine ro_V (As := [.int (nI (t)), .int (nI (0))]) (rest := []) (q0 := 0) (ci := 3) hx hb hml hown hts (c_X3_at l dC dI cI cL cZ b w t 0 (by omega) (by omega)) (cwV 2 hts gX3_isCorner_X3_at rfl rfl rfl (by decide +kernel) ⟨Nat.le_of_ble_eq_true rfl, Nat.le_of_ble_eq_true rfl⟩) hK hP rfl rfl rfl hl.1 rfl (Nat.le_of_ble_eq_true rfl) dX3_isCorner_3 ⟨Nat.zero_le _, Nat.zero_le _⟩ ?_
  refine lv_iload_n hx hb dX3_isCorner_6 rfl (lv_at hl 2 rfl) ?_
  refine lv_icmp_eq (tgt := 30) hx hb dX3_isCorner_7 (by decide) (fun c_1 => ?_) (fun c_1 => ?_)
  · skip
    have c_1 : gc w.1 t 0 = q := (nI_eq (a := gc w.1 t 0) (b := q) (by omega) (by omega)).mp c_1
    refine lv_iconst (v := nI (1)) hx hb dX3_isCorner_30 (by decide) ?_
    refine lv_goto (tgt := 35) hx hb dX3_isCorner_31 (by decide) ?_
    exact ro_zret hx hb hr (by decide) (rb_1 (by simp [hcr, c_1])) dX3_isCorner_35 hlocks
  · skip
    have c_1 : ¬ (gc w.1 t 0 = q) := fun hq9 => c_1 ((nI_eq (a := gc w.1 t 0) (b := q) (by omega) (by omega)).mpr hq9)
    refine lv_aload_n hx hb dX3_isCorner_10 rfl (lv_at hl 0 rfl) ?_
    refine lv_iload_n hx hb dX3_isCorner_11 rfl (lv_at hl 1 rfl) ?_
    refine lv_iconst (v := nI (1)) hx hb dX3_isCorner_12 (by decide) ?_
    refine ro_V (As := [.int (nI (t)), .int (nI (1))]) (rest := []) (q0 := 0) (ci := 3) hx hb hml hown hts (c_X3_at l dC dI cI cL cZ b w t 1 (by omega) (by omega)) (cwV 2 hts gX3_isCorner_X3_at rfl rfl rfl (by decide +kernel) ⟨Nat.le_of_ble_eq_true rfl, Nat.le_of_ble_eq_true rfl⟩) hK hP rfl rfl rfl hl.1 rfl (Nat.le_of_ble_eq_true rfl) dX3_isCorner_13 ⟨Nat.zero_le _, Nat.zero_le _⟩ ?_
    refine lv_iload_n hx hb dX3_isCorner_16 rfl (lv_at hl 2 rfl) ?_
    refine lv_icmp_eq (tgt := 30) hx hb dX3_isCorner_17 (by decide) (fun c_2 => ?_) (fun c_2 => ?_)
    · skip
      have c_2 : gc w.1 t 1 = q := (nI_eq (a := gc w.1 t 1) (b := q) (by omega) (by omega)).mp c_2
      refine lv_iconst (v := nI (1)) hx hb dX3_isCorner_30 (by decide) ?_
      refine lv_goto (tgt := 35) hx hb dX3_isCorner_31 (by decide) ?_
      exact ro_zret hx hb hr (by decide) (rb_1 (by simp [hcr, c_1, c_2])) dX3_isCorner_35 hlocks
    · skip
      have c_2 : ¬ (gc w.1 t 1 = q) := fun hq9 => c_2 ((nI_eq (a := gc w.1 t 1) (b := q) (by omega) (by omega)).mpr hq9)
      refine lv_aload_n hx hb dX3_isCorner_20 rfl (lv_at hl 0 rfl) ?_
      refine lv_iload_n hx hb dX3_isCorner_21 rfl (lv_at hl 1 rfl) ?_
      refine lv_iconst (v := nI (2)) hx hb dX3_isCorner_22 (by decide) ?_
      refine ro_V (As := [.int (nI (t)), .int (nI (2))]) (rest := []) (q0 := 0) (ci := 3) hx hb hml hown hts (c_X3_at l dC dI cI cL cZ b w t 2 (by omega) (by omega)) (cwV 2 hts gX3_isCorner_X3_at rfl rfl rfl (by decide +kernel) ⟨Nat.le_of_ble_eq_true rfl, Nat.le_of_ble_eq_true rfl⟩) hK hP rfl rfl rfl hl.1 rfl (Nat.le_of_ble_eq_true rfl) dX3_isCorner_23 ⟨Nat.zero_le _, Nat.zero_le _⟩ ?_
      refine lv_iload_n hx hb dX3_isCorner_26 rfl (lv_at hl 2 rfl) ?_
      refine lv_icmp_ne (tgt := 34) hx hb dX3_isCorner_27 (by decide) (fun c_3 => ?_) (fun c_3 => ?_)
      · skip
        have c_3 : ¬ (gc w.1 t 2 = q) := fun hq9 => c_3 ((nI_eq (a := gc w.1 t 2) (b := q) (by omega) (by omega)).mpr hq9)
        refine lv_iconst (v := nI (0)) hx hb dX3_isCorner_34 (by decide) ?_
        exact ro_zret hx hb hr (by decide) (rb_0 (by simp [hcr, c_1, c_2, c_3])) dX3_isCorner_35 hlocks
      · skip
        have c_3 : gc w.1 t 2 = q := (nI_eq (a := gc w.1 t 2) (b := q) (by omega) (by omega)).mp c_3
        refine lv_iconst (v := nI (1)) hx hb dX3_isCorner_30 (by decide) ?_
        refine lv_goto (tgt := 35) hx hb dX3_isCorner_31 (by decide) ?_
        exact ro_zret hx hb hr (by decide) (rb_1 (by simp [hcr, c_1, c_2, c_3])) dX3_isCorner_35 hlocks
set_option maxHeartbeats 4000000 in
set_option maxRecDepth 100000 in
theorem c_X3_sign (l : Launch) (dC : Nat → ClassId) (dI : Nat → Nat → Nat)  (x : Int) (hxo : lOk x) : Met l yX3_sign wsX3_sign ({ frames := 0, cells := 0, slots := 0, locals := 0 }) (va_Pc [.long (lI (x))] (ro_B (dC, dI) vwCl [] [])) (k2_QcV (.int (iI (sgn x)))) 0 0 (fun _ => False) := by
  refine ro_Met (cc := cX3_sign) (maxL := 2) (ret := (some .int)) (by decide) rfl (Nat.le_of_ble_eq_true rfl) ?_
  intro pr en s m below meth co ls hx hb hml hr hlocks hown hts hP hK hl
  have hl : lv_has ls 2 [(0, .long (lI (x)))] := hl
  have hown : s.vm.findClass RX3 = some m.cls := hown
  refine lv_lload_n hx hb dX3_sign_0 rfl (lv_at hl 0 rfl) ?_
  refine lv_lconst (v := lI 0) hx hb dX3_sign_1 (by decide) ?_
  refine W.lcmp hx hb dX3_sign_2 ?_
  refine lv_if_ge (tgt := 10) hx hb dX3_sign_3 (by decide) (fun c_1 => ?_) (fun c_1 => ?_)
  · skip
    have c_1 : 0 ≤ x := (lc_ge (a := x) (b := 0) (by assumption) lOk_0).mp c_1
    refine lv_lload_n hx hb dX3_sign_10 rfl (lv_at hl 0 rfl) ?_
    refine lv_lconst (v := lI 0) hx hb dX3_sign_11 (by decide) ?_
    refine W.lcmp hx hb dX3_sign_12 ?_
    refine lv_if_le (tgt := 20) hx hb dX3_sign_13 (by decide) (fun c_2 => ?_) (fun c_2 => ?_)
    · skip
      have c_2 : x ≤ 0 := (lc_le (a := x) (b := 0) (by assumption) lOk_0).mp c_2
      refine lv_iconst (v := nI (0)) hx hb dX3_sign_20 (by decide) ?_
      exact ro_iret hx hb hr (rnz (by simp [sgn]; omega)) dX3_sign_21 hlocks
    · skip
      have c_2 : ¬ (x ≤ 0) := fun hq9 => c_2 ((lc_le (a := x) (b := 0) (by assumption) lOk_0).mpr hq9)
      refine lv_iconst (v := nI (1)) hx hb dX3_sign_16 (by decide) ?_
      refine lv_goto (tgt := 21) hx hb dX3_sign_17 (by decide) ?_
      exact ro_iret hx hb hr (rnz (by simp [sgn]; omega)) dX3_sign_21 hlocks
  · skip
    have c_1 : ¬ (0 ≤ x) := fun hq9 => c_1 ((lc_ge (a := x) (b := 0) (by assumption) lOk_0).mpr hq9)
    refine lv_iconst (v := iI (-1)) hx hb dX3_sign_6 (by decide) ?_
    refine lv_goto (tgt := 21) hx hb dX3_sign_7 (by decide) ?_
    exact ro_iret hx hb hr (rz (by simp [sgn]; omega)) dX3_sign_21 hlocks
set_option maxHeartbeats 4000000 in
set_option maxRecDepth 100000 in
theorem c_X3_isBetween (l : Launch) (dC : Nat → ClassId) (dI : Nat → Nat → Nat) (cI cL cZ : ClassId) (b : Nat → Nat) (w : MV) (q i j : Nat) (hv : okM w) (hq : q < 60) (hi : i < 60) (hj : j < 60) : Met l yX3_isBetween wsX3_isBetween ({ frames := 2, cells := 0, slots := 0, locals := 54 }) (va_Pc [.ref (b 0), .int (nI (q)), .int (nI (i)), .int (nI (j))] (ro_B (dC, dI) vwCl (wM cI cZ b w) (tyS cI cL cZ))) (k2_QcV (.int (bI (bet w.1 q i j)))) 0 0 (fun _ => False) := by
  refine ro_Met (cc := cX3_isBetween) (maxL := 8) (ret := (some .boolean)) (by decide) rfl (Nat.le_of_ble_eq_true rfl) ?_
  intro pr en s m below meth co ls hx hb hml hr hlocks hown hts hP hK hl
  have hl : lv_has ls 8 [(0, .ref (b 0)), (1, .int (nI (q))), (2, .int (nI (i))), (3, .int (nI (j)))] := hl
  have hown : s.vm.findClass RX3 = some m.cls := hown
  have hvp : mPn w ≤ 60 ∧ mTm w ≤ 200 ∧ mTn w ≤ 60 := ⟨hv.2.1, hv.2.2.1, hv.2.2.2.1⟩
  refine lv_aload_n hx hb dX3_isBetween_0 rfl (lv_at hl 0 rfl) ?_
  refine lv_iload_n hx hb dX3_isBetween_1 rfl (lv_at hl 2 rfl) ?_
  refine lv_iload_n hx hb dX3_isBetween_2 rfl (lv_at hl 3 rfl) ?_
  refine lv_iload_n hx hb dX3_isBetween_3 rfl (lv_at hl 1 rfl) ?_
  refine ro_V (As := [.int (nI (i)), .int (nI (j)), .int (nI (q))]) (rest := []) (q0 := 0) (ci := 3) hx hb hml hown hts (c_X3_turnOfPoints l dC dI cI cL cZ b w i j q hv (by omega) (by omega) (by omega)) (cwV 3 hts gX3_isBetween_X3_turnOfPoints rfl rfl rfl (by decide +kernel) ⟨Nat.le_of_ble_eq_true rfl, Nat.le_of_ble_eq_true rfl⟩) hK hP rfl rfl rfl hl.1 rfl (Nat.le_of_ble_eq_true rfl) dX3_isBetween_4 ⟨Nat.zero_le _, Nat.zero_le _⟩ ?_
  have ps_1 : lOk (tof w.1 i j q) := (tof_ok hv.1).l
  refine lv_lconst (v := lI 0) hx hb dX3_isBetween_7 (by decide) ?_
  refine W.lcmp hx hb dX3_isBetween_8 ?_
  refine lv_if_eq (tgt := 14) hx hb dX3_isBetween_9 (by decide) (fun c_2 => ?_) (fun c_2 => ?_)
  · skip
    have c_2 : (tof w.1 i j q) = 0 := (lc_eq (a := tof w.1 i j q) (b := 0) (by assumption) lOk_0).mp c_2
    refine lv_aload_n hx hb dX3_isBetween_14 rfl (lv_at hl 0 rfl) ?_
    refine va_get (D := (dC, dI)) (ci := 3) (v := .ref (b 1)) (C := RX3) (T := TX3) (N := 11) hx hb hts (by decide +kernel) hown hK hP 0 rfl rfl 4 (by decide) (hts (.fieldLink RX3 7 "TriangleSheetModel" "px" "[I") (by decide +kernel)) (fun _ h9 => h9) rfl dX3_isBetween_15 ?_
    refine lv_iload_n hx hb dX3_isBetween_18 rfl (lv_at hl 2 rfl) ?_
    refine ia_ld (k := i) hx hb hK hP 1 0 rfl rfl (by omega) (by decide) dX3_isBetween_19 ?_
    refine W.eq (g2 := F0 m 20 ls [.int (nI (w.1.1 (i)))]) rfl ?_
    have bd_3 := hv.1.1 (i)
    refine lv_aload_n hx hb dX3_isBetween_20 rfl (lv_at hl 0 rfl) ?_
    refine va_get (D := (dC, dI)) (ci := 3) (v := .ref (b 1)) (C := RX3) (T := TX3) (N := 11) hx hb hts (by decide +kernel) hown hK hP 0 rfl rfl 4 (by decide) (hts (.fieldLink RX3 7 "TriangleSheetModel" "px" "[I") (by decide +kernel)) (fun _ h9 => h9) rfl dX3_isBetween_21 ?_
    refine lv_iload_n hx hb dX3_isBetween_24 rfl (lv_at hl 3 rfl) ?_
    refine ia_ld (k := j) hx hb hK hP 1 0 rfl rfl (by omega) (by decide) dX3_isBetween_25 ?_
    refine W.eq (g2 := F0 m 26 ls [.int (nI (w.1.1 (j))), .int (nI (w.1.1 (i)))]) rfl ?_
    have bd_4 := hv.1.1 (j)
    have hj_5 : W pr l en ({ frames := 2, cells := 0, slots := 0, locals := 54 }) s m [.ref (b 0), .int (nI (q)), .int (nI (i)), .int (nI (j))].toArray below meth co s.heap [] 0 0 (MQ below (k2_QcV (.int (bI (bet w.1 q i j)))) [.ref (b 0), .int (nI (q)), .int (nI (i)), .int (nI (j))].toArray s 0 0 (fun _ => False)) (F0 m 44 ls [.int (nI (min (w.1.1 (i)) (w.1.1 (j))))]) := by
      refine lv_istore (lv' := [(4, .int (nI (min (w.1.1 (i)) (w.1.1 (j))))), (0, .ref (b 0)), (1, .int (nI (q))), (2, .int (nI (i))), (3, .int (nI (j)))]) hx hb dX3_isBetween_44 hl (by decide) rfl (fun ls hl => ?_)
      refine lv_aload_n hx hb dX3_isBetween_46 rfl (lv_at hl 1 rfl) ?_
      refine va_get (D := (dC, dI)) (ci := 3) (v := .ref (b 1)) (C := RX3) (T := TX3) (N := 11) hx hb hts (by decide +kernel) hown hK hP 0 rfl rfl 4 (by decide) (hts (.fieldLink RX3 7 "TriangleSheetModel" "px" "[I") (by decide +kernel)) (fun _ h9 => h9) rfl dX3_isBetween_47 ?_
      refine lv_iload_n hx hb dX3_isBetween_50 rfl (lv_at hl 3 rfl) ?_
      refine ia_ld (k := i) hx hb hK hP 1 0 rfl rfl (by omega) (by decide) dX3_isBetween_51 ?_
      refine W.eq (g2 := F0 m 52 ls [.int (nI (w.1.1 (i)))]) rfl ?_
      have bd_6 := hv.1.1 (i)
      refine lv_aload_n hx hb dX3_isBetween_52 rfl (lv_at hl 1 rfl) ?_
      refine va_get (D := (dC, dI)) (ci := 3) (v := .ref (b 1)) (C := RX3) (T := TX3) (N := 11) hx hb hts (by decide +kernel) hown hK hP 0 rfl rfl 4 (by decide) (hts (.fieldLink RX3 7 "TriangleSheetModel" "px" "[I") (by decide +kernel)) (fun _ h9 => h9) rfl dX3_isBetween_53 ?_
      refine lv_iload_n hx hb dX3_isBetween_56 rfl (lv_at hl 4 rfl) ?_
      refine ia_ld (k := j) hx hb hK hP 1 0 rfl rfl (by omega) (by decide) dX3_isBetween_57 ?_
      refine W.eq (g2 := F0 m 58 ls [.int (nI (w.1.1 (j))), .int (nI (w.1.1 (i)))]) rfl ?_
      have bd_7 := hv.1.1 (j)
      have hj_8 : W pr l en ({ frames := 2, cells := 0, slots := 0, locals := 54 }) s m [.ref (b 0), .int (nI (q)), .int (nI (i)), .int (nI (j))].toArray below meth co s.heap [] 0 0 (MQ below (k2_QcV (.int (bI (bet w.1 q i j)))) [.ref (b 0), .int (nI (q)), .int (nI (i)), .int (nI (j))].toArray s 0 0 (fun _ => False)) (F0 m 76 ls [.int (nI (max (w.1.1 (i)) (w.1.1 (j))))]) := by
        refine lv_istore (lv' := [(5, .int (nI (max (w.1.1 (i)) (w.1.1 (j))))), (4, .int (nI (min (w.1.1 (i)) (w.1.1 (j))))), (0, .ref (b 0)), (1, .int (nI (q))), (2, .int (nI (i))), (3, .int (nI (j)))]) hx hb dX3_isBetween_76 hl (by decide) rfl (fun ls hl => ?_)
        refine lv_aload_n hx hb dX3_isBetween_78 rfl (lv_at hl 2 rfl) ?_
        refine va_get (D := (dC, dI)) (ci := 3) (v := .ref (b 2)) (C := RX3) (T := TX3) (N := 11) hx hb hts (by decide +kernel) hown hK hP 0 rfl rfl 5 (by decide) (hts (.fieldLink RX3 13 "TriangleSheetModel" "py" "[I") (by decide +kernel)) (fun _ h9 => h9) rfl dX3_isBetween_79 ?_
        refine lv_iload_n hx hb dX3_isBetween_82 rfl (lv_at hl 4 rfl) ?_
        refine ia_ld (k := i) hx hb hK hP 2 0 rfl rfl (by omega) (by decide) dX3_isBetween_83 ?_
        refine W.eq (g2 := F0 m 84 ls [.int (nI (w.1.2.1 (i)))]) rfl ?_
        have bd_9 := hv.1.2.1 (i)
        refine lv_aload_n hx hb dX3_isBetween_84 rfl (lv_at hl 2 rfl) ?_
        refine va_get (D := (dC, dI)) (ci := 3) (v := .ref (b 2)) (C := RX3) (T := TX3) (N := 11) hx hb hts (by decide +kernel) hown hK hP 0 rfl rfl 5 (by decide) (hts (.fieldLink RX3 13 "TriangleSheetModel" "py" "[I") (by decide +kernel)) (fun _ h9 => h9) rfl dX3_isBetween_85 ?_
        refine lv_iload_n hx hb dX3_isBetween_88 rfl (lv_at hl 5 rfl) ?_
        refine ia_ld (k := j) hx hb hK hP 2 0 rfl rfl (by omega) (by decide) dX3_isBetween_89 ?_
        refine W.eq (g2 := F0 m 90 ls [.int (nI (w.1.2.1 (j))), .int (nI (w.1.2.1 (i)))]) rfl ?_
        have bd_10 := hv.1.2.1 (j)
        have hj_11 : W pr l en ({ frames := 2, cells := 0, slots := 0, locals := 54 }) s m [.ref (b 0), .int (nI (q)), .int (nI (i)), .int (nI (j))].toArray below meth co s.heap [] 0 0 (MQ below (k2_QcV (.int (bI (bet w.1 q i j)))) [.ref (b 0), .int (nI (q)), .int (nI (i)), .int (nI (j))].toArray s 0 0 (fun _ => False)) (F0 m 108 ls [.int (nI (min (w.1.2.1 (i)) (w.1.2.1 (j))))]) := by
          refine lv_istore (lv' := [(6, .int (nI (min (w.1.2.1 (i)) (w.1.2.1 (j))))), (5, .int (nI (max (w.1.1 (i)) (w.1.1 (j))))), (4, .int (nI (min (w.1.1 (i)) (w.1.1 (j))))), (0, .ref (b 0)), (1, .int (nI (q))), (2, .int (nI (i))), (3, .int (nI (j)))]) hx hb dX3_isBetween_108 hl (by decide) rfl (fun ls hl => ?_)
          refine lv_aload_n hx hb dX3_isBetween_110 rfl (lv_at hl 3 rfl) ?_
          refine va_get (D := (dC, dI)) (ci := 3) (v := .ref (b 2)) (C := RX3) (T := TX3) (N := 11) hx hb hts (by decide +kernel) hown hK hP 0 rfl rfl 5 (by decide) (hts (.fieldLink RX3 13 "TriangleSheetModel" "py" "[I") (by decide +kernel)) (fun _ h9 => h9) rfl dX3_isBetween_111 ?_
          refine lv_iload_n hx hb dX3_isBetween_114 rfl (lv_at hl 5 rfl) ?_
          refine ia_ld (k := i) hx hb hK hP 2 0 rfl rfl (by omega) (by decide) dX3_isBetween_115 ?_
          refine W.eq (g2 := F0 m 116 ls [.int (nI (w.1.2.1 (i)))]) rfl ?_
          have bd_12 := hv.1.2.1 (i)
          refine lv_aload_n hx hb dX3_isBetween_116 rfl (lv_at hl 3 rfl) ?_
          refine va_get (D := (dC, dI)) (ci := 3) (v := .ref (b 2)) (C := RX3) (T := TX3) (N := 11) hx hb hts (by decide +kernel) hown hK hP 0 rfl rfl 5 (by decide) (hts (.fieldLink RX3 13 "TriangleSheetModel" "py" "[I") (by decide +kernel)) (fun _ h9 => h9) rfl dX3_isBetween_117 ?_
          refine lv_iload_n hx hb dX3_isBetween_120 rfl (lv_at hl 6 rfl) ?_
          refine ia_ld (k := j) hx hb hK hP 2 0 rfl rfl (by omega) (by decide) dX3_isBetween_121 ?_
          refine W.eq (g2 := F0 m 122 ls [.int (nI (w.1.2.1 (j))), .int (nI (w.1.2.1 (i)))]) rfl ?_
          have bd_13 := hv.1.2.1 (j)
          have hj_14 : W pr l en ({ frames := 2, cells := 0, slots := 0, locals := 54 }) s m [.ref (b 0), .int (nI (q)), .int (nI (i)), .int (nI (j))].toArray below meth co s.heap [] 0 0 (MQ below (k2_QcV (.int (bI (bet w.1 q i j)))) [.ref (b 0), .int (nI (q)), .int (nI (i)), .int (nI (j))].toArray s 0 0 (fun _ => False)) (F0 m 140 ls [.int (nI (max (w.1.2.1 (i)) (w.1.2.1 (j))))]) := by
            refine lv_istore (lv' := [(7, .int (nI (max (w.1.2.1 (i)) (w.1.2.1 (j))))), (6, .int (nI (min (w.1.2.1 (i)) (w.1.2.1 (j))))), (5, .int (nI (max (w.1.1 (i)) (w.1.1 (j))))), (4, .int (nI (min (w.1.1 (i)) (w.1.1 (j))))), (0, .ref (b 0)), (1, .int (nI (q))), (2, .int (nI (i))), (3, .int (nI (j)))]) hx hb dX3_isBetween_140 hl (by decide) rfl (fun ls hl => ?_)
            refine lv_aload_n hx hb dX3_isBetween_142 rfl (lv_at hl 4 rfl) ?_
            refine va_get (D := (dC, dI)) (ci := 3) (v := .ref (b 1)) (C := RX3) (T := TX3) (N := 11) hx hb hts (by decide +kernel) hown hK hP 0 rfl rfl 4 (by decide) (hts (.fieldLink RX3 7 "TriangleSheetModel" "px" "[I") (by decide +kernel)) (fun _ h9 => h9) rfl dX3_isBetween_143 ?_
            refine lv_iload_n hx hb dX3_isBetween_146 rfl (lv_at hl 5 rfl) ?_
            refine ia_ld (k := q) hx hb hK hP 1 0 rfl rfl (by omega) (by decide) dX3_isBetween_147 ?_
            refine W.eq (g2 := F0 m 148 ls [.int (nI (w.1.1 (q)))]) rfl ?_
            have bd_15 := hv.1.1 (q)
            refine lv_iload hx hb dX3_isBetween_148 (lv_at hl 3 rfl) ?_
            refine lv_icmp_lt (tgt := 190) hx hb dX3_isBetween_150 (by decide) (fun c_16 => ?_) (fun c_16 => ?_)
            · skip
              have c_16 : w.1.1 (q) < min (w.1.1 (i)) (w.1.1 (j)) := (nI_ltI (a := w.1.1 (q)) (b := min (w.1.1 (i)) (w.1.1 (j))) (by omega) (by omega)).mp c_16
              refine lv_iconst (v := nI (0)) hx hb dX3_isBetween_190 (by decide) ?_
              exact ro_zret hx hb hr (by decide) (rb_0 (by first | (simp [bet, c_2, c_16]; done) | (refine Bool.eq_false_iff.mpr (fun hbt => ?_); simp [bet] at hbt; omega))) dX3_isBetween_191 hlocks
            · skip
              have c_16 : ¬ (w.1.1 (q) < min (w.1.1 (i)) (w.1.1 (j))) := fun hq9 => c_16 ((nI_ltI (a := w.1.1 (q)) (b := min (w.1.1 (i)) (w.1.1 (j))) (by omega) (by omega)).mpr hq9)
              refine lv_aload_n hx hb dX3_isBetween_153 rfl (lv_at hl 4 rfl) ?_
              refine va_get (D := (dC, dI)) (ci := 3) (v := .ref (b 1)) (C := RX3) (T := TX3) (N := 11) hx hb hts (by decide +kernel) hown hK hP 0 rfl rfl 4 (by decide) (hts (.fieldLink RX3 7 "TriangleSheetModel" "px" "[I") (by decide +kernel)) (fun _ h9 => h9) rfl dX3_isBetween_154 ?_
              refine lv_iload_n hx hb dX3_isBetween_157 rfl (lv_at hl 5 rfl) ?_
              refine ia_ld (k := q) hx hb hK hP 1 0 rfl rfl (by omega) (by decide) dX3_isBetween_158 ?_
              refine W.eq (g2 := F0 m 159 ls [.int (nI (w.1.1 (q)))]) rfl ?_
              have bd_17 := hv.1.1 (q)
              refine lv_iload hx hb dX3_isBetween_159 (lv_at hl 2 rfl) ?_
              refine lv_icmp_gt (tgt := 190) hx hb dX3_isBetween_161 (by decide) (fun c_18 => ?_) (fun c_18 => ?_)
              · skip
                have c_18 : max (w.1.1 (i)) (w.1.1 (j)) < w.1.1 (q) := (nI_ltI (a := max (w.1.1 (i)) (w.1.1 (j))) (b := w.1.1 (q)) (by omega) (by omega)).mp c_18
                refine lv_iconst (v := nI (0)) hx hb dX3_isBetween_190 (by decide) ?_
                exact ro_zret hx hb hr (by decide) (rb_0 (by first | (simp [bet, c_2, c_16, c_18]; done) | (refine Bool.eq_false_iff.mpr (fun hbt => ?_); simp [bet] at hbt; omega))) dX3_isBetween_191 hlocks
              · skip
                have c_18 : ¬ (max (w.1.1 (i)) (w.1.1 (j)) < w.1.1 (q)) := fun hq9 => c_18 ((nI_ltI (a := max (w.1.1 (i)) (w.1.1 (j))) (b := w.1.1 (q)) (by omega) (by omega)).mpr hq9)
                refine lv_aload_n hx hb dX3_isBetween_164 rfl (lv_at hl 4 rfl) ?_
                refine va_get (D := (dC, dI)) (ci := 3) (v := .ref (b 2)) (C := RX3) (T := TX3) (N := 11) hx hb hts (by decide +kernel) hown hK hP 0 rfl rfl 5 (by decide) (hts (.fieldLink RX3 13 "TriangleSheetModel" "py" "[I") (by decide +kernel)) (fun _ h9 => h9) rfl dX3_isBetween_165 ?_
                refine lv_iload_n hx hb dX3_isBetween_168 rfl (lv_at hl 5 rfl) ?_
                refine ia_ld (k := q) hx hb hK hP 2 0 rfl rfl (by omega) (by decide) dX3_isBetween_169 ?_
                refine W.eq (g2 := F0 m 170 ls [.int (nI (w.1.2.1 (q)))]) rfl ?_
                have bd_19 := hv.1.2.1 (q)
                refine lv_iload hx hb dX3_isBetween_170 (lv_at hl 1 rfl) ?_
                refine lv_icmp_lt (tgt := 190) hx hb dX3_isBetween_172 (by decide) (fun c_20 => ?_) (fun c_20 => ?_)
                · skip
                  have c_20 : w.1.2.1 (q) < min (w.1.2.1 (i)) (w.1.2.1 (j)) := (nI_ltI (a := w.1.2.1 (q)) (b := min (w.1.2.1 (i)) (w.1.2.1 (j))) (by omega) (by omega)).mp c_20
                  refine lv_iconst (v := nI (0)) hx hb dX3_isBetween_190 (by decide) ?_
                  exact ro_zret hx hb hr (by decide) (rb_0 (by first | (simp [bet, c_2, c_16, c_18, c_20]; done) | (refine Bool.eq_false_iff.mpr (fun hbt => ?_); simp [bet] at hbt; omega))) dX3_isBetween_191 hlocks
                · skip
                  have c_20 : ¬ (w.1.2.1 (q) < min (w.1.2.1 (i)) (w.1.2.1 (j))) := fun hq9 => c_20 ((nI_ltI (a := w.1.2.1 (q)) (b := min (w.1.2.1 (i)) (w.1.2.1 (j))) (by omega) (by omega)).mpr hq9)
                  refine lv_aload_n hx hb dX3_isBetween_175 rfl (lv_at hl 4 rfl) ?_
                  refine va_get (D := (dC, dI)) (ci := 3) (v := .ref (b 2)) (C := RX3) (T := TX3) (N := 11) hx hb hts (by decide +kernel) hown hK hP 0 rfl rfl 5 (by decide) (hts (.fieldLink RX3 13 "TriangleSheetModel" "py" "[I") (by decide +kernel)) (fun _ h9 => h9) rfl dX3_isBetween_176 ?_
                  refine lv_iload_n hx hb dX3_isBetween_179 rfl (lv_at hl 5 rfl) ?_
                  refine ia_ld (k := q) hx hb hK hP 2 0 rfl rfl (by omega) (by decide) dX3_isBetween_180 ?_
                  refine W.eq (g2 := F0 m 181 ls [.int (nI (w.1.2.1 (q)))]) rfl ?_
                  have bd_21 := hv.1.2.1 (q)
                  refine lv_iload hx hb dX3_isBetween_181 (lv_at hl 0 rfl) ?_
                  refine lv_icmp_gt (tgt := 190) hx hb dX3_isBetween_183 (by decide) (fun c_22 => ?_) (fun c_22 => ?_)
                  · skip
                    have c_22 : max (w.1.2.1 (i)) (w.1.2.1 (j)) < w.1.2.1 (q) := (nI_ltI (a := max (w.1.2.1 (i)) (w.1.2.1 (j))) (b := w.1.2.1 (q)) (by omega) (by omega)).mp c_22
                    refine lv_iconst (v := nI (0)) hx hb dX3_isBetween_190 (by decide) ?_
                    exact ro_zret hx hb hr (by decide) (rb_0 (by first | (simp [bet, c_2, c_16, c_18, c_20, c_22]; done) | (refine Bool.eq_false_iff.mpr (fun hbt => ?_); simp [bet] at hbt; omega))) dX3_isBetween_191 hlocks
                  · skip
                    have c_22 : ¬ (max (w.1.2.1 (i)) (w.1.2.1 (j)) < w.1.2.1 (q)) := fun hq9 => c_22 ((nI_ltI (a := max (w.1.2.1 (i)) (w.1.2.1 (j))) (b := w.1.2.1 (q)) (by omega) (by omega)).mpr hq9)
                    refine lv_iconst (v := nI (1)) hx hb dX3_isBetween_186 (by decide) ?_
                    refine lv_goto (tgt := 191) hx hb dX3_isBetween_187 (by decide) ?_
                    exact ro_zret hx hb hr (by decide) (rb_1 (by first | (simp [bet, c_2, c_16, c_18, c_20, c_22]; done) | (simp [bet, c_2, c_16, c_18, c_20, c_22]; omega) | (simp [bet]; omega))) dX3_isBetween_191 hlocks
          refine lv_icmp_ge (tgt := 134) hx hb dX3_isBetween_122 (by decide) (fun c_23 => ?_) (fun c_23 => ?_)
          · skip
            have c_23 : w.1.2.1 (j) ≤ w.1.2.1 (i) := (nI_leI (a := w.1.2.1 (j)) (b := w.1.2.1 (i)) (by omega) (by omega)).mp c_23
            refine lv_aload_n hx hb dX3_isBetween_134 rfl (lv_at hl 3 rfl) ?_
            refine va_get (D := (dC, dI)) (ci := 3) (v := .ref (b 2)) (C := RX3) (T := TX3) (N := 11) hx hb hts (by decide +kernel) hown hK hP 0 rfl rfl 5 (by decide) (hts (.fieldLink RX3 13 "TriangleSheetModel" "py" "[I") (by decide +kernel)) (fun _ h9 => h9) rfl dX3_isBetween_135 ?_
            refine lv_iload_n hx hb dX3_isBetween_138 rfl (lv_at hl 5 rfl) ?_
            refine ia_ld (k := i) hx hb hK hP 2 0 rfl rfl (by omega) (by decide) dX3_isBetween_139 ?_
            refine W.eq (g2 := F0 m 140 ls [.int (nI (w.1.2.1 (i)))]) rfl ?_
            have bd_24 := hv.1.2.1 (i)
            refine rt_i (y := (nI (max (w.1.2.1 (i)) (w.1.2.1 (j))))) (congrArg nI (by omega)) ?_
            exact hj_14
          · skip
            have c_23 : ¬ (w.1.2.1 (j) ≤ w.1.2.1 (i)) := fun hq9 => c_23 ((nI_leI (a := w.1.2.1 (j)) (b := w.1.2.1 (i)) (by omega) (by omega)).mpr hq9)
            refine lv_aload_n hx hb dX3_isBetween_125 rfl (lv_at hl 3 rfl) ?_
            refine va_get (D := (dC, dI)) (ci := 3) (v := .ref (b 2)) (C := RX3) (T := TX3) (N := 11) hx hb hts (by decide +kernel) hown hK hP 0 rfl rfl 5 (by decide) (hts (.fieldLink RX3 13 "TriangleSheetModel" "py" "[I") (by decide +kernel)) (fun _ h9 => h9) rfl dX3_isBetween_126 ?_
            refine lv_iload_n hx hb dX3_isBetween_129 rfl (lv_at hl 6 rfl) ?_
            refine ia_ld (k := j) hx hb hK hP 2 0 rfl rfl (by omega) (by decide) dX3_isBetween_130 ?_
            refine W.eq (g2 := F0 m 131 ls [.int (nI (w.1.2.1 (j)))]) rfl ?_
            have bd_25 := hv.1.2.1 (j)
            refine lv_goto (tgt := 140) hx hb dX3_isBetween_131 (by decide) ?_
            refine rt_i (y := (nI (max (w.1.2.1 (i)) (w.1.2.1 (j))))) (congrArg nI (by omega)) ?_
            exact hj_14
        refine lv_icmp_ge (tgt := 102) hx hb dX3_isBetween_90 (by decide) (fun c_26 => ?_) (fun c_26 => ?_)
        · skip
          have c_26 : w.1.2.1 (j) ≤ w.1.2.1 (i) := (nI_leI (a := w.1.2.1 (j)) (b := w.1.2.1 (i)) (by omega) (by omega)).mp c_26
          refine lv_aload_n hx hb dX3_isBetween_102 rfl (lv_at hl 2 rfl) ?_
          refine va_get (D := (dC, dI)) (ci := 3) (v := .ref (b 2)) (C := RX3) (T := TX3) (N := 11) hx hb hts (by decide +kernel) hown hK hP 0 rfl rfl 5 (by decide) (hts (.fieldLink RX3 13 "TriangleSheetModel" "py" "[I") (by decide +kernel)) (fun _ h9 => h9) rfl dX3_isBetween_103 ?_
          refine lv_iload_n hx hb dX3_isBetween_106 rfl (lv_at hl 5 rfl) ?_
          refine ia_ld (k := j) hx hb hK hP 2 0 rfl rfl (by omega) (by decide) dX3_isBetween_107 ?_
          refine W.eq (g2 := F0 m 108 ls [.int (nI (w.1.2.1 (j)))]) rfl ?_
          have bd_27 := hv.1.2.1 (j)
          refine rt_i (y := (nI (min (w.1.2.1 (i)) (w.1.2.1 (j))))) (congrArg nI (by omega)) ?_
          exact hj_11
        · skip
          have c_26 : ¬ (w.1.2.1 (j) ≤ w.1.2.1 (i)) := fun hq9 => c_26 ((nI_leI (a := w.1.2.1 (j)) (b := w.1.2.1 (i)) (by omega) (by omega)).mpr hq9)
          refine lv_aload_n hx hb dX3_isBetween_93 rfl (lv_at hl 2 rfl) ?_
          refine va_get (D := (dC, dI)) (ci := 3) (v := .ref (b 2)) (C := RX3) (T := TX3) (N := 11) hx hb hts (by decide +kernel) hown hK hP 0 rfl rfl 5 (by decide) (hts (.fieldLink RX3 13 "TriangleSheetModel" "py" "[I") (by decide +kernel)) (fun _ h9 => h9) rfl dX3_isBetween_94 ?_
          refine lv_iload_n hx hb dX3_isBetween_97 rfl (lv_at hl 4 rfl) ?_
          refine ia_ld (k := i) hx hb hK hP 2 0 rfl rfl (by omega) (by decide) dX3_isBetween_98 ?_
          refine W.eq (g2 := F0 m 99 ls [.int (nI (w.1.2.1 (i)))]) rfl ?_
          have bd_28 := hv.1.2.1 (i)
          refine lv_goto (tgt := 108) hx hb dX3_isBetween_99 (by decide) ?_
          refine rt_i (y := (nI (min (w.1.2.1 (i)) (w.1.2.1 (j))))) (congrArg nI (by omega)) ?_
          exact hj_11
      refine lv_icmp_ge (tgt := 70) hx hb dX3_isBetween_58 (by decide) (fun c_29 => ?_) (fun c_29 => ?_)
      · skip
        have c_29 : w.1.1 (j) ≤ w.1.1 (i) := (nI_leI (a := w.1.1 (j)) (b := w.1.1 (i)) (by omega) (by omega)).mp c_29
        refine lv_aload_n hx hb dX3_isBetween_70 rfl (lv_at hl 1 rfl) ?_
        refine va_get (D := (dC, dI)) (ci := 3) (v := .ref (b 1)) (C := RX3) (T := TX3) (N := 11) hx hb hts (by decide +kernel) hown hK hP 0 rfl rfl 4 (by decide) (hts (.fieldLink RX3 7 "TriangleSheetModel" "px" "[I") (by decide +kernel)) (fun _ h9 => h9) rfl dX3_isBetween_71 ?_
        refine lv_iload_n hx hb dX3_isBetween_74 rfl (lv_at hl 3 rfl) ?_
        refine ia_ld (k := i) hx hb hK hP 1 0 rfl rfl (by omega) (by decide) dX3_isBetween_75 ?_
        refine W.eq (g2 := F0 m 76 ls [.int (nI (w.1.1 (i)))]) rfl ?_
        have bd_30 := hv.1.1 (i)
        refine rt_i (y := (nI (max (w.1.1 (i)) (w.1.1 (j))))) (congrArg nI (by omega)) ?_
        exact hj_8
      · skip
        have c_29 : ¬ (w.1.1 (j) ≤ w.1.1 (i)) := fun hq9 => c_29 ((nI_leI (a := w.1.1 (j)) (b := w.1.1 (i)) (by omega) (by omega)).mpr hq9)
        refine lv_aload_n hx hb dX3_isBetween_61 rfl (lv_at hl 1 rfl) ?_
        refine va_get (D := (dC, dI)) (ci := 3) (v := .ref (b 1)) (C := RX3) (T := TX3) (N := 11) hx hb hts (by decide +kernel) hown hK hP 0 rfl rfl 4 (by decide) (hts (.fieldLink RX3 7 "TriangleSheetModel" "px" "[I") (by decide +kernel)) (fun _ h9 => h9) rfl dX3_isBetween_62 ?_
        refine lv_iload_n hx hb dX3_isBetween_65 rfl (lv_at hl 4 rfl) ?_
        refine ia_ld (k := j) hx hb hK hP 1 0 rfl rfl (by omega) (by decide) dX3_isBetween_66 ?_
        refine W.eq (g2 := F0 m 67 ls [.int (nI (w.1.1 (j)))]) rfl ?_
        have bd_31 := hv.1.1 (j)
        refine lv_goto (tgt := 76) hx hb dX3_isBetween_67 (by decide) ?_
        refine rt_i (y := (nI (max (w.1.1 (i)) (w.1.1 (j))))) (congrArg nI (by omega)) ?_
        exact hj_8
    refine lv_icmp_ge (tgt := 38) hx hb dX3_isBetween_26 (by decide) (fun c_32 => ?_) (fun c_32 => ?_)
    · skip
      have c_32 : w.1.1 (j) ≤ w.1.1 (i) := (nI_leI (a := w.1.1 (j)) (b := w.1.1 (i)) (by omega) (by omega)).mp c_32
      refine lv_aload_n hx hb dX3_isBetween_38 rfl (lv_at hl 0 rfl) ?_
      refine va_get (D := (dC, dI)) (ci := 3) (v := .ref (b 1)) (C := RX3) (T := TX3) (N := 11) hx hb hts (by decide +kernel) hown hK hP 0 rfl rfl 4 (by decide) (hts (.fieldLink RX3 7 "TriangleSheetModel" "px" "[I") (by decide +kernel)) (fun _ h9 => h9) rfl dX3_isBetween_39 ?_
      refine lv_iload_n hx hb dX3_isBetween_42 rfl (lv_at hl 3 rfl) ?_
      refine ia_ld (k := j) hx hb hK hP 1 0 rfl rfl (by omega) (by decide) dX3_isBetween_43 ?_
      refine W.eq (g2 := F0 m 44 ls [.int (nI (w.1.1 (j)))]) rfl ?_
      have bd_33 := hv.1.1 (j)
      refine rt_i (y := (nI (min (w.1.1 (i)) (w.1.1 (j))))) (congrArg nI (by omega)) ?_
      exact hj_5
    · skip
      have c_32 : ¬ (w.1.1 (j) ≤ w.1.1 (i)) := fun hq9 => c_32 ((nI_leI (a := w.1.1 (j)) (b := w.1.1 (i)) (by omega) (by omega)).mpr hq9)
      refine lv_aload_n hx hb dX3_isBetween_29 rfl (lv_at hl 0 rfl) ?_
      refine va_get (D := (dC, dI)) (ci := 3) (v := .ref (b 1)) (C := RX3) (T := TX3) (N := 11) hx hb hts (by decide +kernel) hown hK hP 0 rfl rfl 4 (by decide) (hts (.fieldLink RX3 7 "TriangleSheetModel" "px" "[I") (by decide +kernel)) (fun _ h9 => h9) rfl dX3_isBetween_30 ?_
      refine lv_iload_n hx hb dX3_isBetween_33 rfl (lv_at hl 2 rfl) ?_
      refine ia_ld (k := i) hx hb hK hP 1 0 rfl rfl (by omega) (by decide) dX3_isBetween_34 ?_
      refine W.eq (g2 := F0 m 35 ls [.int (nI (w.1.1 (i)))]) rfl ?_
      have bd_34 := hv.1.1 (i)
      refine lv_goto (tgt := 44) hx hb dX3_isBetween_35 (by decide) ?_
      refine rt_i (y := (nI (min (w.1.1 (i)) (w.1.1 (j))))) (congrArg nI (by omega)) ?_
      exact hj_5
  · skip
    have c_2 : ¬ ((tof w.1 i j q) = 0) := fun hq9 => c_2 ((lc_eq (a := tof w.1 i j q) (b := 0) (by assumption) lOk_0).mpr hq9)
    refine lv_iconst (v := nI (0)) hx hb dX3_isBetween_12 (by decide) ?_
    exact ro_zret hx hb hr (by decide) (rb_0 (by first | (simp [bet, c_2]; done) | (refine Bool.eq_false_iff.mpr (fun hbt => ?_); simp [bet] at hbt; omega))) dX3_isBetween_13 hlocks
set_option maxHeartbeats 4000000 in
set_option maxRecDepth 100000 in
theorem c_X3_isCovered (l : Launch) (dC : Nat → ClassId) (dI : Nat → Nat → Nat) (cI cL cZ : ClassId) (b : Nat → Nat) (w : MV) (t x y : Nat) (hv : okM w) (ht : t < 200) (hx9 : x < 512) (hy9 : y < 512) : Met l yX3_isCovered wsX3_isCovered ({ frames := 4, cells := 0, slots := 0, locals := 96 }) (va_Pc [.ref (b 0), .int (nI (t)), .int (nI (x)), .int (nI (y))] (ro_B (dC, dI) vwCl (wM cI cZ b w) (tyS cI cL cZ))) (k2_QcV (.int (bI (mth w (nI t) && (rgt w.1 t && lie w.1 t (x : Int) (y : Int)))))) 0 0 (fun _ => False) := by
  refine ro_Met (cc := cX3_isCovered) (maxL := 10) (ret := (some .boolean)) (by decide) rfl (Nat.le_of_ble_eq_true rfl) ?_
  intro pr en s m below meth co ls hx hb hml hr hlocks hown hts hP hK hl
  have hl : lv_has ls 10 [(0, .ref (b 0)), (1, .int (nI (t))), (2, .int (nI (x))), (3, .int (nI (y)))] := hl
  have hown : s.vm.findClass RX3 = some m.cls := hown
  have hvp : mPn w ≤ 60 ∧ mTm w ≤ 200 ∧ mTn w ≤ 60 := ⟨hv.2.1, hv.2.2.1, hv.2.2.2.1⟩
  refine lv_aload_n hx hb dX3_isCovered_0 rfl (lv_at hl 0 rfl) ?_
  refine lv_iload_n hx hb dX3_isCovered_1 rfl (lv_at hl 1 rfl) ?_
  refine ro_V (As := [.int (nI (t))]) (rest := []) (q0 := 0) (ci := 3) hx hb hml hown hts (c_X3_isThere l dC dI cI cL cZ b w (nI (t)) hv) (cwV 1 hts gX3_isCovered_X3_isThere rfl rfl rfl (by decide +kernel) ⟨Nat.le_of_ble_eq_true rfl, Nat.le_of_ble_eq_true rfl⟩) hK hP rfl rfl rfl hl.1 rfl (Nat.le_of_ble_eq_true rfl) dX3_isCovered_2 ⟨Nat.zero_le _, Nat.zero_le _⟩ ?_
  refine lv_if_eq (tgt := 16) hx hb dX3_isCovered_5 (by decide) (fun c_1 => ?_) (fun c_1 => ?_)
  · skip
    have c_1 : (mth w (nI (t))) = false := bI_f c_1
    refine lv_iconst (v := nI (0)) hx hb dX3_isCovered_16 (by decide) ?_
    exact ro_zret hx hb hr (by decide) (rb_0 (by simp [c_1])) dX3_isCovered_17 hlocks
  · skip
    have c_1 : (mth w (nI (t))) = true := bI_t c_1
    refine lv_aload_n hx hb dX3_isCovered_8 rfl (lv_at hl 0 rfl) ?_
    refine lv_iload_n hx hb dX3_isCovered_9 rfl (lv_at hl 1 rfl) ?_
    refine ro_V (As := [.int (nI (t))]) (rest := []) (q0 := 0) (ci := 3) hx hb hml hown hts (c_X3_isRight l dC dI cI cL cZ b w t hv (by omega)) (cwV 1 hts gX3_isCovered_X3_isRight rfl rfl rfl (by decide +kernel) ⟨Nat.le_of_ble_eq_true rfl, Nat.le_of_ble_eq_true rfl⟩) hK hP rfl rfl rfl hl.1 rfl (Nat.le_of_ble_eq_true rfl) dX3_isCovered_10 ⟨Nat.zero_le _, Nat.zero_le _⟩ ?_
    refine lv_if_ne (tgt := 18) hx hb dX3_isCovered_13 (by decide) (fun c_2 => ?_) (fun c_2 => ?_)
    · skip
      have c_2 : (rgt w.1 t) = true := bI_t c_2
      refine lv_iconst (v := nI (0)) hx hb dX3_isCovered_18 (by decide) ?_
      refine lv_istore (lv' := [(4, .int (nI (0))), (0, .ref (b 0)), (1, .int (nI (t))), (2, .int (nI (x))), (3, .int (nI (y)))]) hx hb dX3_isCovered_19 hl (by decide) rfl (fun ls hl => ?_)
      refine lp (σ := Nat) (LV := fun n => [(0, .ref (b 0)), (1, .int (nI (t))), (2, .int (nI (x))), (3, .int (nI (y))), (4, .int (nI (n)))]) (I := fun k n => n + k = 3 ∧ lie w.1 t (x : Int) (y : Int) = alf (fun k => decide (0 < tbe w.1 t k (x : Int) (y : Int)) || (decide (tbe w.1 t k (x : Int) (y : Int) = 0) && own w.1 t k)) k n) (fun k n ls hI_k hl ih_k => ?_) (3) (0) ls ⟨by omega, rfl⟩ (lv_sub hl [1, 2, 3, 4, 0] rfl)
      obtain ⟨hk, hi⟩ := hI_k
      have hg0 := gc_lt hv.1 (t := t) (k := n)
      have hg1 := gc_lt hv.1 (t := t) (k := n + 1)
      refine lv_iload hx hb dX3_isCovered_21 (lv_at hl 4 rfl) ?_
      refine lv_iconst (v := nI (3)) hx hb dX3_isCovered_23 (by decide) ?_
      refine lv_icmp_ge (tgt := 173) hx hb dX3_isCovered_24 (by decide) (fun c_3 => ?_) (fun c_3 => ?_)
      · skip
        have c_3 : 3 ≤ n := (nI_leI (a := 3) (b := n) (by omega) (by omega)).mp c_3
        refine lv_iconst (v := nI (1)) hx hb dX3_isCovered_173 (by decide) ?_
        exact ro_zret hx hb hr (by decide) (rb_1 (by rw [hi, show k = 0 by omega]; simp [alf, c_1, c_2, c_3])) dX3_isCovered_174 hlocks
      · skip
        have c_3 : ¬ (3 ≤ n) := fun hq9 => c_3 ((nI_leI (a := 3) (b := n) (by omega) (by omega)).mpr hq9)
        refine lv_aload_n hx hb dX3_isCovered_27 rfl (lv_at hl 0 rfl) ?_
        refine lv_iload_n hx hb dX3_isCovered_28 rfl (lv_at hl 1 rfl) ?_
        refine lv_iload hx hb dX3_isCovered_29 (lv_at hl 4 rfl) ?_
        refine ro_V (As := [.int (nI (t)), .int (nI (n))]) (rest := []) (q0 := 0) (ci := 3) hx hb hml hown hts (c_X3_at l dC dI cI cL cZ b w t n (by omega) (by omega)) (cwV 2 hts gX3_isCovered_X3_at rfl rfl rfl (by decide +kernel) ⟨Nat.le_of_ble_eq_true rfl, Nat.le_of_ble_eq_true rfl⟩) hK hP rfl rfl rfl hl.1 rfl (Nat.le_of_ble_eq_true rfl) dX3_isCovered_31 ⟨Nat.zero_le _, Nat.zero_le _⟩ ?_
        refine lv_istore (lv' := [(5, .int (nI (gc w.1 t n))), (0, .ref (b 0)), (1, .int (nI (t))), (2, .int (nI (x))), (3, .int (nI (y))), (4, .int (nI (n)))]) hx hb dX3_isCovered_34 hl (by decide) rfl (fun ls hl => ?_)
        refine lv_aload_n hx hb dX3_isCovered_36 rfl (lv_at hl 1 rfl) ?_
        refine lv_iload_n hx hb dX3_isCovered_37 rfl (lv_at hl 2 rfl) ?_
        refine lv_iload hx hb dX3_isCovered_38 (lv_at hl 5 rfl) ?_
        refine lv_iconst (v := nI (1)) hx hb dX3_isCovered_40 (by decide) ?_
        refine lv_iadd hx hb dX3_isCovered_41 ?_
        refine rt_i (y := (nI (n + 1))) (nn_add (n) (1)) ?_
        refine ro_V (As := [.int (nI (t)), .int (nI (n + 1))]) (rest := []) (q0 := 0) (ci := 3) hx hb hml hown hts (c_X3_at l dC dI cI cL cZ b w t (n + 1) (by omega) (by omega)) (cwV 2 hts gX3_isCovered_X3_at rfl rfl rfl (by decide +kernel) ⟨Nat.le_of_ble_eq_true rfl, Nat.le_of_ble_eq_true rfl⟩) hK hP rfl rfl rfl hl.1 rfl (Nat.le_of_ble_eq_true rfl) dX3_isCovered_42 ⟨Nat.zero_le _, Nat.zero_le _⟩ ?_
        refine lv_istore (lv' := [(6, .int (nI (gc w.1 t (n + 1)))), (5, .int (nI (gc w.1 t n))), (0, .ref (b 0)), (1, .int (nI (t))), (2, .int (nI (x))), (3, .int (nI (y))), (4, .int (nI (n)))]) hx hb dX3_isCovered_45 hl (by decide) rfl (fun ls hl => ?_)
        refine lv_aload_n hx hb dX3_isCovered_47 rfl (lv_at hl 2 rfl) ?_
        refine va_get (D := (dC, dI)) (ci := 3) (v := .ref (b 1)) (C := RX3) (T := TX3) (N := 11) hx hb hts (by decide +kernel) hown hK hP 0 rfl rfl 4 (by decide) (hts (.fieldLink RX3 7 "TriangleSheetModel" "px" "[I") (by decide +kernel)) (fun _ h9 => h9) rfl dX3_isCovered_48 ?_
        refine lv_iload hx hb dX3_isCovered_51 (lv_at hl 1 rfl) ?_
        refine ia_ld (k := gc w.1 t n) hx hb hK hP 1 0 rfl rfl (by omega) (by decide) dX3_isCovered_53 ?_
        refine W.eq (g2 := F0 m 54 ls [.int (nI (w.1.1 (gc w.1 t n)))]) rfl ?_
        have bd_4 := hv.1.1 (gc w.1 t n)
        refine lv_i2l (v := lI (((w.1.1 (gc w.1 t n) : Nat) : Int))) hx hb dX3_isCovered_54 (nzI_l (by omega)) ?_
        refine lv_aload_n hx hb dX3_isCovered_55 rfl (lv_at hl 2 rfl) ?_
        refine va_get (D := (dC, dI)) (ci := 3) (v := .ref (b 2)) (C := RX3) (T := TX3) (N := 11) hx hb hts (by decide +kernel) hown hK hP 0 rfl rfl 5 (by decide) (hts (.fieldLink RX3 13 "TriangleSheetModel" "py" "[I") (by decide +kernel)) (fun _ h9 => h9) rfl dX3_isCovered_56 ?_
        refine lv_iload hx hb dX3_isCovered_59 (lv_at hl 1 rfl) ?_
        refine ia_ld (k := gc w.1 t n) hx hb hK hP 2 0 rfl rfl (by omega) (by decide) dX3_isCovered_61 ?_
        refine W.eq (g2 := F0 m 62 ls [.int (nI (w.1.2.1 (gc w.1 t n))), .long (lI (((w.1.1 (gc w.1 t n) : Nat) : Int)))]) rfl ?_
        have bd_5 := hv.1.2.1 (gc w.1 t n)
        refine lv_i2l (v := lI (((w.1.2.1 (gc w.1 t n) : Nat) : Int))) hx hb dX3_isCovered_62 (nzI_l (by omega)) ?_
        refine lv_aload_n hx hb dX3_isCovered_63 rfl (lv_at hl 2 rfl) ?_
        refine va_get (D := (dC, dI)) (ci := 3) (v := .ref (b 1)) (C := RX3) (T := TX3) (N := 11) hx hb hts (by decide +kernel) hown hK hP 0 rfl rfl 4 (by decide) (hts (.fieldLink RX3 7 "TriangleSheetModel" "px" "[I") (by decide +kernel)) (fun _ h9 => h9) rfl dX3_isCovered_64 ?_
        refine lv_iload hx hb dX3_isCovered_67 (lv_at hl 0 rfl) ?_
        refine ia_ld (k := gc w.1 t (n + 1)) hx hb hK hP 1 0 rfl rfl (by omega) (by decide) dX3_isCovered_69 ?_
        refine W.eq (g2 := F0 m 70 ls [.int (nI (w.1.1 (gc w.1 t (n + 1)))), .long (lI (((w.1.2.1 (gc w.1 t n) : Nat) : Int))), .long (lI (((w.1.1 (gc w.1 t n) : Nat) : Int)))]) rfl ?_
        have bd_6 := hv.1.1 (gc w.1 t (n + 1))
        refine lv_i2l (v := lI (((w.1.1 (gc w.1 t (n + 1)) : Nat) : Int))) hx hb dX3_isCovered_70 (nzI_l (by omega)) ?_
        refine lv_aload_n hx hb dX3_isCovered_71 rfl (lv_at hl 2 rfl) ?_
        refine va_get (D := (dC, dI)) (ci := 3) (v := .ref (b 2)) (C := RX3) (T := TX3) (N := 11) hx hb hts (by decide +kernel) hown hK hP 0 rfl rfl 5 (by decide) (hts (.fieldLink RX3 13 "TriangleSheetModel" "py" "[I") (by decide +kernel)) (fun _ h9 => h9) rfl dX3_isCovered_72 ?_
        refine lv_iload hx hb dX3_isCovered_75 (lv_at hl 0 rfl) ?_
        refine ia_ld (k := gc w.1 t (n + 1)) hx hb hK hP 2 0 rfl rfl (by omega) (by decide) dX3_isCovered_77 ?_
        refine W.eq (g2 := F0 m 78 ls [.int (nI (w.1.2.1 (gc w.1 t (n + 1)))), .long (lI (((w.1.1 (gc w.1 t (n + 1)) : Nat) : Int))), .long (lI (((w.1.2.1 (gc w.1 t n) : Nat) : Int))), .long (lI (((w.1.1 (gc w.1 t n) : Nat) : Int)))]) rfl ?_
        have bd_7 := hv.1.2.1 (gc w.1 t (n + 1))
        refine lv_i2l (v := lI (((w.1.2.1 (gc w.1 t (n + 1)) : Nat) : Int))) hx hb dX3_isCovered_78 (nzI_l (by omega)) ?_
        refine lv_iload_n hx hb dX3_isCovered_79 rfl (lv_at hl 4 rfl) ?_
        refine lv_i2l (v := lI (((x : Nat) : Int))) hx hb dX3_isCovered_80 (nzI_l (by omega)) ?_
        refine lv_iload_n hx hb dX3_isCovered_81 rfl (lv_at hl 5 rfl) ?_
        refine lv_i2l (v := lI (((y : Nat) : Int))) hx hb dX3_isCovered_82 (nzI_l (by omega)) ?_
        refine ro_S (As := [.long (lI (((w.1.1 (gc w.1 t n) : Nat) : Int))), .long (lI (((w.1.2.1 (gc w.1 t n) : Nat) : Int))), .long (lI (((w.1.1 (gc w.1 t (n + 1)) : Nat) : Int))), .long (lI (((w.1.2.1 (gc w.1 t (n + 1)) : Nat) : Int))), .long (lI (((x : Nat) : Int))), .long (lI (((y : Nat) : Int)))]) (rest := []) hx hb hml hown hts (c_X3_turnOf l dC dI  (((w.1.1 (gc w.1 t n) : Nat) : Int)) (((w.1.2.1 (gc w.1 t n) : Nat) : Int)) (((w.1.1 (gc w.1 t (n + 1)) : Nat) : Int)) (((w.1.2.1 (gc w.1 t (n + 1)) : Nat) : Int)) (((x : Nat) : Int)) (((y : Nat) : Int)) ) (va_cwS 6 hts gX3_isCovered_X3_turnOf rfl rfl rfl (by decide +kernel) ⟨Nat.le_of_ble_eq_true rfl, Nat.le_of_ble_eq_true rfl⟩) (hK.sub [] rfl) (hP.sub [] rfl) rfl hl.1 rfl (Nat.le_of_ble_eq_true rfl) dX3_isCovered_83 ⟨Nat.zero_le _, Nat.zero_le _⟩ ?_
        refine rt_l (y := (lI (tbe w.1 t (n) (x : Int) (y : Int)))) rfl ?_
        refine lv_lstore (lv' := [(7, .long (lI (tbe w.1 t (n) (x : Int) (y : Int)))), (6, .int (nI (gc w.1 t (n + 1)))), (5, .int (nI (gc w.1 t n))), (0, .ref (b 0)), (1, .int (nI (t))), (2, .int (nI (x))), (3, .int (nI (y))), (4, .int (nI (n)))]) hx hb dX3_isCovered_86 hl (by decide) rfl (fun ls hl => ?_)
        refine lv_aload_n hx hb dX3_isCovered_88 rfl (lv_at hl 3 rfl) ?_
        refine va_get (D := (dC, dI)) (ci := 3) (v := .ref (b 2)) (C := RX3) (T := TX3) (N := 11) hx hb hts (by decide +kernel) hown hK hP 0 rfl rfl 5 (by decide) (hts (.fieldLink RX3 13 "TriangleSheetModel" "py" "[I") (by decide +kernel)) (fun _ h9 => h9) rfl dX3_isCovered_89 ?_
        refine lv_iload hx hb dX3_isCovered_92 (lv_at hl 1 rfl) ?_
        refine ia_ld (k := gc w.1 t (n + 1)) hx hb hK hP 2 0 rfl rfl (by omega) (by decide) dX3_isCovered_94 ?_
        refine W.eq (g2 := F0 m 95 ls [.int (nI (w.1.2.1 (gc w.1 t (n + 1))))]) rfl ?_
        have bd_8 := hv.1.2.1 (gc w.1 t (n + 1))
        refine lv_aload_n hx hb dX3_isCovered_95 rfl (lv_at hl 3 rfl) ?_
        refine va_get (D := (dC, dI)) (ci := 3) (v := .ref (b 2)) (C := RX3) (T := TX3) (N := 11) hx hb hts (by decide +kernel) hown hK hP 0 rfl rfl 5 (by decide) (hts (.fieldLink RX3 13 "TriangleSheetModel" "py" "[I") (by decide +kernel)) (fun _ h9 => h9) rfl dX3_isCovered_96 ?_
        refine lv_iload hx hb dX3_isCovered_99 (lv_at hl 2 rfl) ?_
        refine ia_ld (k := gc w.1 t n) hx hb hK hP 2 0 rfl rfl (by omega) (by decide) dX3_isCovered_101 ?_
        refine W.eq (g2 := F0 m 102 ls [.int (nI (w.1.2.1 (gc w.1 t n))), .int (nI (w.1.2.1 (gc w.1 t (n + 1))))]) rfl ?_
        have bd_9 := hv.1.2.1 (gc w.1 t n)
        have hj_10 : W pr l en ({ frames := 4, cells := 0, slots := 0, locals := 96 }) s m [.ref (b 0), .int (nI (t)), .int (nI (x)), .int (nI (y))].toArray below meth co s.heap [] 0 0 (MQ below (k2_QcV (.int (bI (mth w (nI t) && (rgt w.1 t && lie w.1 t (x : Int) (y : Int)))))) [.ref (b 0), .int (nI (t)), .int (nI (x)), .int (nI (y))].toArray s 0 0 (fun _ => False)) (F0 m 144 ls [.int (bI (own w.1 t n))]) := by
          refine lv_istore (lv' := [(9, .int (bI (own w.1 t n))), (7, .long (lI (tbe w.1 t (n) (x : Int) (y : Int)))), (6, .int (nI (gc w.1 t (n + 1)))), (5, .int (nI (gc w.1 t n))), (0, .ref (b 0)), (1, .int (nI (t))), (2, .int (nI (x))), (3, .int (nI (y))), (4, .int (nI (n)))]) hx hb dX3_isCovered_144 hl (by decide) rfl (fun ls hl => ?_)
          refine lv_lload hx hb dX3_isCovered_146 (lv_at hl 1 rfl) ?_
          refine lv_lconst (v := lI 0) hx hb dX3_isCovered_148 (by decide) ?_
          refine W.lcmp hx hb dX3_isCovered_149 ?_
          refine lv_if_lt (tgt := 165) hx hb dX3_isCovered_150 (by decide) (fun c_11 => ?_) (fun c_11 => ?_)
          · skip
            have c_11 : (tbe w.1 t (n) (x : Int) (y : Int)) < 0 := (lc_lt (a := tbe w.1 t (n) (x : Int) (y : Int)) (b := 0) (tat_ok hv.1 hx9 hy9).l lOk_0).mp c_11
            refine lv_iconst (v := nI (0)) hx hb dX3_isCovered_165 (by decide) ?_
            exact ro_zret hx hb hr (by decide) (rb_0 (by rw [hi, alf_f (by omega) (by first | (simp [c_1, c_2, c_3, c_11]; done) | (simp; omega) | (simp [c_1, c_2, c_3, c_11]; omega))]; simp)) dX3_isCovered_166 hlocks
          · skip
            have c_11 : ¬ ((tbe w.1 t (n) (x : Int) (y : Int)) < 0) := fun hq9 => c_11 ((lc_lt (a := tbe w.1 t (n) (x : Int) (y : Int)) (b := 0) (tat_ok hv.1 hx9 hy9).l lOk_0).mpr hq9)
            refine lv_lload hx hb dX3_isCovered_153 (lv_at hl 1 rfl) ?_
            refine lv_lconst (v := lI 0) hx hb dX3_isCovered_155 (by decide) ?_
            refine W.lcmp hx hb dX3_isCovered_156 ?_
            refine lv_if_ne (tgt := 167) hx hb dX3_isCovered_157 (by decide) (fun c_12 => ?_) (fun c_12 => ?_)
            · skip
              have c_12 : ¬ ((tbe w.1 t (n) (x : Int) (y : Int)) = 0) := fun hq9 => c_12 ((lc_eq (a := tbe w.1 t (n) (x : Int) (y : Int)) (b := 0) (tat_ok hv.1 hx9 hy9).l lOk_0).mpr hq9)
              refine lv_iinc (v := nI (n + 1)) (lv' := [(4, .int (nI (n + 1))), (9, .int (bI (own w.1 t n))), (7, .long (lI (tbe w.1 t (n) (x : Int) (y : Int)))), (6, .int (nI (gc w.1 t (n + 1)))), (5, .int (nI (gc w.1 t n))), (0, .ref (b 0)), (1, .int (nI (t))), (2, .int (nI (x))), (3, .int (nI (y)))]) hx hb dX3_isCovered_167 hl (k := 8) rfl (nI_1 (n)) (by decide) rfl (fun ls hl => ?_)
              refine lv_goto (tgt := 21) hx hb dX3_isCovered_170 (by decide) ?_
              exact ih_k (k - 1) (n + 1) ls (by omega) ⟨by omega, hi.trans (alf_t (by omega) (by first | (simp [c_1, c_2, c_3, c_11, c_12]; done) | (simp; omega) | (simp [c_1, c_2, c_3, c_11, c_12]; omega)))⟩ (lv_sub hl [5, 6, 7, 8, 0] rfl)
            · skip
              have c_12 : (tbe w.1 t (n) (x : Int) (y : Int)) = 0 := (lc_eq (a := tbe w.1 t (n) (x : Int) (y : Int)) (b := 0) (tat_ok hv.1 hx9 hy9).l lOk_0).mp c_12
              refine lv_iload hx hb dX3_isCovered_160 (lv_at hl 0 rfl) ?_
              refine lv_if_ne (tgt := 167) hx hb dX3_isCovered_162 (by decide) (fun c_13 => ?_) (fun c_13 => ?_)
              · skip
                have c_13 : (own w.1 t n) = true := bI_t c_13
                refine lv_iinc (v := nI (n + 1)) (lv' := [(4, .int (nI (n + 1))), (9, .int (bI (own w.1 t n))), (7, .long (lI (tbe w.1 t (n) (x : Int) (y : Int)))), (6, .int (nI (gc w.1 t (n + 1)))), (5, .int (nI (gc w.1 t n))), (0, .ref (b 0)), (1, .int (nI (t))), (2, .int (nI (x))), (3, .int (nI (y)))]) hx hb dX3_isCovered_167 hl (k := 8) rfl (nI_1 (n)) (by decide) rfl (fun ls hl => ?_)
                refine lv_goto (tgt := 21) hx hb dX3_isCovered_170 (by decide) ?_
                exact ih_k (k - 1) (n + 1) ls (by omega) ⟨by omega, hi.trans (alf_t (by omega) (by first | (simp [c_1, c_2, c_3, c_11, c_12, c_13]; done) | (simp; omega) | (simp [c_1, c_2, c_3, c_11, c_12, c_13]; omega)))⟩ (lv_sub hl [5, 6, 7, 8, 0] rfl)
              · skip
                have c_13 : (own w.1 t n) = false := bI_f c_13
                refine lv_iconst (v := nI (0)) hx hb dX3_isCovered_165 (by decide) ?_
                exact ro_zret hx hb hr (by decide) (rb_0 (by rw [hi, alf_f (by omega) (by first | (simp [c_1, c_2, c_3, c_11, c_12, c_13]; done) | (simp; omega) | (simp [c_1, c_2, c_3, c_11, c_12, c_13]; omega))]; simp)) dX3_isCovered_166 hlocks
        refine lv_icmp_lt (tgt := 139) hx hb dX3_isCovered_102 (by decide) (fun c_14 => ?_) (fun c_14 => ?_)
        · skip
          have c_14 : w.1.2.1 (gc w.1 t (n + 1)) < w.1.2.1 (gc w.1 t n) := (nI_ltI (a := w.1.2.1 (gc w.1 t (n + 1))) (b := w.1.2.1 (gc w.1 t n)) (by omega) (by omega)).mp c_14
          refine lv_iconst (v := nI (1)) hx hb dX3_isCovered_139 (by decide) ?_
          refine lv_goto (tgt := 144) hx hb dX3_isCovered_140 (by decide) ?_
          refine rt_i (y := (bI (own w.1 t n))) (bv_1 (by first | (simp [own, c_1, c_2, c_3, c_14]; done) | (simp [own, c_1, c_2, c_3, c_14]; omega))) ?_
          exact hj_10
        · skip
          have c_14 : ¬ (w.1.2.1 (gc w.1 t (n + 1)) < w.1.2.1 (gc w.1 t n)) := fun hq9 => c_14 ((nI_ltI (a := w.1.2.1 (gc w.1 t (n + 1))) (b := w.1.2.1 (gc w.1 t n)) (by omega) (by omega)).mpr hq9)
          refine lv_aload_n hx hb dX3_isCovered_105 rfl (lv_at hl 3 rfl) ?_
          refine va_get (D := (dC, dI)) (ci := 3) (v := .ref (b 2)) (C := RX3) (T := TX3) (N := 11) hx hb hts (by decide +kernel) hown hK hP 0 rfl rfl 5 (by decide) (hts (.fieldLink RX3 13 "TriangleSheetModel" "py" "[I") (by decide +kernel)) (fun _ h9 => h9) rfl dX3_isCovered_106 ?_
          refine lv_iload hx hb dX3_isCovered_109 (lv_at hl 1 rfl) ?_
          refine ia_ld (k := gc w.1 t (n + 1)) hx hb hK hP 2 0 rfl rfl (by omega) (by decide) dX3_isCovered_111 ?_
          refine W.eq (g2 := F0 m 112 ls [.int (nI (w.1.2.1 (gc w.1 t (n + 1))))]) rfl ?_
          have bd_15 := hv.1.2.1 (gc w.1 t (n + 1))
          refine lv_aload_n hx hb dX3_isCovered_112 rfl (lv_at hl 3 rfl) ?_
          refine va_get (D := (dC, dI)) (ci := 3) (v := .ref (b 2)) (C := RX3) (T := TX3) (N := 11) hx hb hts (by decide +kernel) hown hK hP 0 rfl rfl 5 (by decide) (hts (.fieldLink RX3 13 "TriangleSheetModel" "py" "[I") (by decide +kernel)) (fun _ h9 => h9) rfl dX3_isCovered_113 ?_
          refine lv_iload hx hb dX3_isCovered_116 (lv_at hl 2 rfl) ?_
          refine ia_ld (k := gc w.1 t n) hx hb hK hP 2 0 rfl rfl (by omega) (by decide) dX3_isCovered_118 ?_
          refine W.eq (g2 := F0 m 119 ls [.int (nI (w.1.2.1 (gc w.1 t n))), .int (nI (w.1.2.1 (gc w.1 t (n + 1))))]) rfl ?_
          have bd_16 := hv.1.2.1 (gc w.1 t n)
          refine lv_icmp_ne (tgt := 143) hx hb dX3_isCovered_119 (by decide) (fun c_17 => ?_) (fun c_17 => ?_)
          · skip
            have c_17 : ¬ (w.1.2.1 (gc w.1 t (n + 1)) = w.1.2.1 (gc w.1 t n)) := fun hq9 => c_17 ((nI_eq (a := w.1.2.1 (gc w.1 t (n + 1))) (b := w.1.2.1 (gc w.1 t n)) (by omega) (by omega)).mpr hq9)
            refine lv_iconst (v := nI (0)) hx hb dX3_isCovered_143 (by decide) ?_
            refine rt_i (y := (bI (own w.1 t n))) (bv_0 (by first | (simp [own, c_1, c_2, c_3, c_14, c_17]; done) | (simp [own, c_1, c_2, c_3, c_14, c_17]; omega))) ?_
            exact hj_10
          · skip
            have c_17 : w.1.2.1 (gc w.1 t (n + 1)) = w.1.2.1 (gc w.1 t n) := (nI_eq (a := w.1.2.1 (gc w.1 t (n + 1))) (b := w.1.2.1 (gc w.1 t n)) (by omega) (by omega)).mp c_17
            refine lv_aload_n hx hb dX3_isCovered_122 rfl (lv_at hl 3 rfl) ?_
            refine va_get (D := (dC, dI)) (ci := 3) (v := .ref (b 1)) (C := RX3) (T := TX3) (N := 11) hx hb hts (by decide +kernel) hown hK hP 0 rfl rfl 4 (by decide) (hts (.fieldLink RX3 7 "TriangleSheetModel" "px" "[I") (by decide +kernel)) (fun _ h9 => h9) rfl dX3_isCovered_123 ?_
            refine lv_iload hx hb dX3_isCovered_126 (lv_at hl 1 rfl) ?_
            refine ia_ld (k := gc w.1 t (n + 1)) hx hb hK hP 1 0 rfl rfl (by omega) (by decide) dX3_isCovered_128 ?_
            refine W.eq (g2 := F0 m 129 ls [.int (nI (w.1.1 (gc w.1 t (n + 1))))]) rfl ?_
            have bd_18 := hv.1.1 (gc w.1 t (n + 1))
            refine lv_aload_n hx hb dX3_isCovered_129 rfl (lv_at hl 3 rfl) ?_
            refine va_get (D := (dC, dI)) (ci := 3) (v := .ref (b 1)) (C := RX3) (T := TX3) (N := 11) hx hb hts (by decide +kernel) hown hK hP 0 rfl rfl 4 (by decide) (hts (.fieldLink RX3 7 "TriangleSheetModel" "px" "[I") (by decide +kernel)) (fun _ h9 => h9) rfl dX3_isCovered_130 ?_
            refine lv_iload hx hb dX3_isCovered_133 (lv_at hl 2 rfl) ?_
            refine ia_ld (k := gc w.1 t n) hx hb hK hP 1 0 rfl rfl (by omega) (by decide) dX3_isCovered_135 ?_
            refine W.eq (g2 := F0 m 136 ls [.int (nI (w.1.1 (gc w.1 t n))), .int (nI (w.1.1 (gc w.1 t (n + 1))))]) rfl ?_
            have bd_19 := hv.1.1 (gc w.1 t n)
            refine lv_icmp_ge (tgt := 143) hx hb dX3_isCovered_136 (by decide) (fun c_20 => ?_) (fun c_20 => ?_)
            · skip
              have c_20 : w.1.1 (gc w.1 t n) ≤ w.1.1 (gc w.1 t (n + 1)) := (nI_leI (a := w.1.1 (gc w.1 t n)) (b := w.1.1 (gc w.1 t (n + 1))) (by omega) (by omega)).mp c_20
              refine lv_iconst (v := nI (0)) hx hb dX3_isCovered_143 (by decide) ?_
              refine rt_i (y := (bI (own w.1 t n))) (bv_0 (by first | (simp [own, c_1, c_2, c_3, c_14, c_17, c_20]; done) | (simp [own, c_1, c_2, c_3, c_14, c_17, c_20]; omega))) ?_
              exact hj_10
            · skip
              have c_20 : ¬ (w.1.1 (gc w.1 t n) ≤ w.1.1 (gc w.1 t (n + 1))) := fun hq9 => c_20 ((nI_leI (a := w.1.1 (gc w.1 t n)) (b := w.1.1 (gc w.1 t (n + 1))) (by omega) (by omega)).mpr hq9)
              refine lv_iconst (v := nI (1)) hx hb dX3_isCovered_139 (by decide) ?_
              refine lv_goto (tgt := 144) hx hb dX3_isCovered_140 (by decide) ?_
              refine rt_i (y := (bI (own w.1 t n))) (bv_1 (by first | (simp [own, c_1, c_2, c_3, c_14, c_17, c_20]; done) | (simp [own, c_1, c_2, c_3, c_14, c_17, c_20]; omega))) ?_
              exact hj_10
    · skip
      have c_2 : (rgt w.1 t) = false := bI_f c_2
      refine lv_iconst (v := nI (0)) hx hb dX3_isCovered_16 (by decide) ?_
      exact ro_zret hx hb hr (by decide) (rb_0 (by simp [c_1, c_2])) dX3_isCovered_17 hlocks
set_option maxHeartbeats 4000000 in
set_option maxRecDepth 100000 in
theorem c_X3_howMany (l : Launch) (dC : Nat → ClassId) (dI : Nat → Nat → Nat) (cI cL cZ : ClassId) (b : Nat → Nat) (w : MV) (i j : Nat) (hv : okM w) (hi9 : i < 32) (hj9 : j < 32) : Met l yX3_howMany wsX3_howMany ({ frames := 5, cells := 0, slots := 0, locals := 125 }) (va_Pc [.ref (b 0), .int (nI (i)), .int (nI (j))] (ro_B (dC, dI) vwCl (wM cI cZ b w) (tyS cI cL cZ))) (k2_QcV (.int (nI (cnt (fun t => mth w (nI t) && cov w.1 t i j) (mTm w) 0)))) 0 0 (fun _ => False) := by
  refine ro_Met (cc := cX3_howMany) (maxL := 5) (ret := (some .int)) (by decide) rfl (Nat.le_of_ble_eq_true rfl) ?_
  intro pr en s m below meth co ls hx hb hml hr hlocks hown hts hP hK hl
  have hl : lv_has ls 5 [(0, .ref (b 0)), (1, .int (nI (i))), (2, .int (nI (j)))] := hl
  have hown : s.vm.findClass RX3 = some m.cls := hown
  have hvp : mPn w ≤ 60 ∧ mTm w ≤ 200 ∧ mTn w ≤ 60 := ⟨hv.2.1, hv.2.2.1, hv.2.2.2.1⟩
  refine lv_iconst (v := nI (0)) hx hb dX3_howMany_0 (by decide) ?_
  refine lv_istore_n (lv' := [(3, .int (nI (0))), (0, .ref (b 0)), (1, .int (nI (i))), (2, .int (nI (j)))]) hx hb dX3_howMany_1 rfl hl (by decide) rfl (fun ls hl => ?_)
  refine lv_iconst (v := nI (0)) hx hb dX3_howMany_2 (by decide) ?_
  refine lv_istore (lv' := [(4, .int (nI (0))), (3, .int (nI (0))), (0, .ref (b 0)), (1, .int (nI (i))), (2, .int (nI (j)))]) hx hb dX3_howMany_3 hl (by decide) rfl (fun ls hl => ?_)
  refine lp (σ := Nat × Nat) (LV := fun (n, sm) => [(0, .ref (b 0)), (1, .int (nI (i))), (2, .int (nI (j))), (3, .int (nI (sm))), (4, .int (nI (n)))]) (I := fun k (n, sm) => n + k = mTm w ∧ sm ≤ n ∧ cnt (fun t => mth w (nI t) && cov w.1 t i j) (mTm w) 0 = sm + cnt (fun t => mth w (nI t) && cov w.1 t i j) k n) (fun k (n, sm) ls hI_k hl ih_k => ?_) (mTm w) (0, 0) ls ⟨by omega, by omega, by omega⟩ (lv_sub hl [2, 3, 4, 1, 0] rfl)
  obtain ⟨hk, hs, hi⟩ := hI_k
  refine lv_iload hx hb dX3_howMany_5 (lv_at hl 4 rfl) ?_
  refine lv_aload_n hx hb dX3_howMany_7 rfl (lv_at hl 0 rfl) ?_
  refine va_get (D := (dC, dI)) (ci := 3) (v := .int (nI (mTm w))) (C := RX3) (T := TX3) (N := 11) hx hb hts (by decide +kernel) hown hK hP 0 rfl rfl 2 (by decide) (hts (.fieldLink RX3 43 "TriangleSheetModel" "came" "I") (by decide +kernel)) (fun _ h9 => h9) rfl dX3_howMany_8 ?_
  refine lv_icmp_ge (tgt := 51) hx hb dX3_howMany_11 (by decide) (fun c_1 => ?_) (fun c_1 => ?_)
  · skip
    have c_1 : mTm w ≤ n := (nI_leI (a := mTm w) (b := n) (by omega) (by omega)).mp c_1
    refine lv_iload_n hx hb dX3_howMany_51 rfl (lv_at hl 3 rfl) ?_
    exact ro_iret hx hb hr (rn (by rw [hi, show k = 0 by omega]; simp [cnt])) dX3_howMany_52 hlocks
  · skip
    have c_1 : ¬ (mTm w ≤ n) := fun hq9 => c_1 ((nI_leI (a := mTm w) (b := n) (by omega) (by omega)).mpr hq9)
    refine lv_iload_n hx hb dX3_howMany_14 rfl (lv_at hl 3 rfl) ?_
    refine lv_aload_n hx hb dX3_howMany_15 rfl (lv_at hl 0 rfl) ?_
    refine lv_iload hx hb dX3_howMany_16 (lv_at hl 4 rfl) ?_
    refine lv_bipush (v := nI (16)) hx hb dX3_howMany_18 (by decide) ?_
    refine lv_iload_n hx hb dX3_howMany_20 rfl (lv_at hl 1 rfl) ?_
    refine lv_imul hx hb dX3_howMany_21 ?_
    refine rt_i (y := (nI ((16) * (i)))) (nn_mul (16) (i)) ?_
    refine lv_bipush (v := nI (8)) hx hb dX3_howMany_22 (by decide) ?_
    refine lv_iadd hx hb dX3_howMany_24 ?_
    refine rt_i (y := (nI ((16) * (i) + 8))) (nn_add ((16) * (i)) (8)) ?_
    refine lv_bipush (v := nI (16)) hx hb dX3_howMany_25 (by decide) ?_
    refine lv_iload_n hx hb dX3_howMany_27 rfl (lv_at hl 2 rfl) ?_
    refine lv_imul hx hb dX3_howMany_28 ?_
    refine rt_i (y := (nI ((16) * (j)))) (nn_mul (16) (j)) ?_
    refine lv_bipush (v := nI (8)) hx hb dX3_howMany_29 (by decide) ?_
    refine lv_iadd hx hb dX3_howMany_31 ?_
    refine rt_i (y := (nI ((16) * (j) + 8))) (nn_add ((16) * (j)) (8)) ?_
    refine ro_V (As := [.int (nI (n)), .int (nI ((16) * (i) + 8)), .int (nI ((16) * (j) + 8))]) (rest := [.int (nI (sm))]) (q0 := 0) (ci := 3) hx hb hml hown hts (c_X3_isCovered l dC dI cI cL cZ b w n ((16) * (i) + 8) ((16) * (j) + 8) hv (by omega) (by omega) (by omega)) (cwV 3 hts gX3_howMany_X3_isCovered rfl rfl rfl (by decide +kernel) ⟨Nat.le_of_ble_eq_true rfl, Nat.le_of_ble_eq_true rfl⟩) hK hP rfl rfl rfl hl.1 rfl (Nat.le_of_ble_eq_true rfl) dX3_howMany_32 ⟨Nat.zero_le _, Nat.zero_le _⟩ ?_
    refine rt_i (y := (bI (mth w (nI n) && cov w.1 n i j))) rfl ?_
    have hj_2 : W pr l en ({ frames := 5, cells := 0, slots := 0, locals := 125 }) s m [.ref (b 0), .int (nI (i)), .int (nI (j))].toArray below meth co s.heap [] 0 0 (MQ below (k2_QcV (.int (nI (cnt (fun t => mth w (nI t) && cov w.1 t i j) (mTm w) 0)))) [.ref (b 0), .int (nI (i)), .int (nI (j))].toArray s 0 0 (fun _ => False)) (F0 m 43 ls [.int (nI ((mth w (nI n) && cov w.1 n i j).toNat)), .int (nI (sm))]) := by
      refine lv_iadd hx hb dX3_howMany_43 ?_
      refine rt_i (y := (nI (sm + (mth w (nI n) && cov w.1 n i j).toNat))) (nn_add (sm) ((mth w (nI n) && cov w.1 n i j).toNat)) ?_
      refine lv_istore_n (lv' := [(3, .int (nI (sm + (mth w (nI n) && cov w.1 n i j).toNat))), (0, .ref (b 0)), (1, .int (nI (i))), (2, .int (nI (j))), (4, .int (nI (n)))]) hx hb dX3_howMany_44 rfl hl (by decide) rfl (fun ls hl => ?_)
      refine lv_iinc (v := nI (n + 1)) (lv' := [(4, .int (nI (n + 1))), (3, .int (nI (sm + (mth w (nI n) && cov w.1 n i j).toNat))), (0, .ref (b 0)), (1, .int (nI (i))), (2, .int (nI (j)))]) hx hb dX3_howMany_45 hl (k := 4) rfl (nI_1 (n)) (by decide) rfl (fun ls hl => ?_)
      refine lv_goto (tgt := 5) hx hb dX3_howMany_48 (by decide) ?_
      exact ih_k (k - 1) (n + 1, sm + (mth w (nI n) && cov w.1 n i j).toNat) ls (by omega) ⟨by omega, by cases (mth w (nI n) && cov w.1 n i j) <;> simp [Bool.toNat] <;> omega, by rw [hi, cnt_s (by omega)]; omega⟩ (lv_sub hl [2, 3, 4, 1, 0] rfl)
    refine lv_if_eq (tgt := 42) hx hb dX3_howMany_35 (by decide) (fun c_3 => ?_) (fun c_3 => ?_)
    · skip
      have c_3 : (mth w (nI n) && cov w.1 n i j) = false := bI_f c_3
      refine lv_iconst (v := nI (0)) hx hb dX3_howMany_42 (by decide) ?_
      refine rt_i (y := (nI ((mth w (nI n) && cov w.1 n i j).toNat))) (congrArg nI (by simp [c_1, c_3])) ?_
      exact hj_2
    · skip
      have c_3 : (mth w (nI n) && cov w.1 n i j) = true := bI_t c_3
      refine lv_iconst (v := nI (1)) hx hb dX3_howMany_38 (by decide) ?_
      refine lv_goto (tgt := 43) hx hb dX3_howMany_39 (by decide) ?_
      refine rt_i (y := (nI ((mth w (nI n) && cov w.1 n i j).toNat))) (congrArg nI (by simp [c_1, c_3])) ?_
      exact hj_2
set_option maxHeartbeats 4000000 in
set_option maxRecDepth 100000 in
theorem c_X3_neighbour (l : Launch) (dC : Nat → ClassId) (dI : Nat → Nat → Nat) (cI cL cZ : ClassId) (b : Nat → Nat) (w : MV) (t j : Nat) (hv : okM w) (ht : t < 200) (hj : j < 4) : Met l yX3_neighbour wsX3_neighbour ({ frames := 1, cells := 0, slots := 0, locals := 22 }) (va_Pc [.ref (b 0), .int (nI (t)), .int (nI (j))] (ro_B (dC, dI) vwCl (wM cI cZ b w) (tyS cI cL cZ))) (k2_QcV (.int (oI (mnb w t j)))) 0 0 (fun _ => False) := by
  refine ro_Met (cc := cX3_neighbour) (maxL := 5) (ret := (some .int)) (by decide) rfl (Nat.le_of_ble_eq_true rfl) ?_
  intro pr en s m below meth co ls hx hb hml hr hlocks hown hts hP hK hl
  have hl : lv_has ls 5 [(0, .ref (b 0)), (1, .int (nI (t))), (2, .int (nI (j)))] := hl
  have hown : s.vm.findClass RX3 = some m.cls := hown
  have hvp : mPn w ≤ 60 ∧ mTm w ≤ 200 ∧ mTn w ≤ 60 := ⟨hv.2.1, hv.2.2.1, hv.2.2.2.1⟩
  refine lv_iconst (v := nI (0)) hx hb dX3_neighbour_0 (by decide) ?_
  refine lv_istore_n (lv' := [(3, .int (nI (0))), (0, .ref (b 0)), (1, .int (nI (t))), (2, .int (nI (j)))]) hx hb dX3_neighbour_1 rfl hl (by decide) rfl (fun ls hl => ?_)
  refine lp (σ := Nat) (LV := fun n => [(0, .ref (b 0)), (1, .int (nI (t))), (2, .int (nI (j))), (3, .int (nI (n)))]) (I := fun k n => n + k = mTm w ∧ mnb w t j = fnd (fun u => mIs w u && (!decide (u = t) && (nbe w.1 u t j).isSome)) k n) (fun k n ls hI_k hl ih_k => ?_) (mTm w) (0) ls ⟨by omega, rfl⟩ (lv_sub hl [1, 2, 3, 0] rfl)
  obtain ⟨hk, hi⟩ := hI_k
  refine lv_iload_n hx hb dX3_neighbour_2 rfl (lv_at hl 3 rfl) ?_
  refine lv_aload_n hx hb dX3_neighbour_3 rfl (lv_at hl 0 rfl) ?_
  refine va_get (D := (dC, dI)) (ci := 3) (v := .int (nI (mTm w))) (C := RX3) (T := TX3) (N := 11) hx hb hts (by decide +kernel) hown hK hP 0 rfl rfl 2 (by decide) (hts (.fieldLink RX3 43 "TriangleSheetModel" "came" "I") (by decide +kernel)) (fun _ h9 => h9) rfl dX3_neighbour_4 ?_
  refine lv_icmp_ge (tgt := 86) hx hb dX3_neighbour_7 (by decide) (fun c_1 => ?_) (fun c_1 => ?_)
  · skip
    have c_1 : mTm w ≤ n := (nI_leI (a := mTm w) (b := n) (by omega) (by omega)).mp c_1
    refine lv_iconst (v := iI (-1)) hx hb dX3_neighbour_86 (by decide) ?_
    exact ro_iret hx hb hr (rO (by rw [hi, show k = 0 by omega]; rfl)) dX3_neighbour_87 hlocks
  · skip
    have c_1 : ¬ (mTm w ≤ n) := fun hq9 => c_1 ((nI_leI (a := mTm w) (b := n) (by omega) (by omega)).mpr hq9)
    refine lv_aload_n hx hb dX3_neighbour_10 rfl (lv_at hl 0 rfl) ?_
    refine va_get (D := (dC, dI)) (ci := 3) (v := .ref (b 3)) (C := RX3) (T := TX3) (N := 11) hx hb hts (by decide +kernel) hown hK hP 0 rfl rfl 6 (by decide) (hts (.fieldLink RX3 16 "TriangleSheetModel" "is" "[Z") (by decide +kernel)) (fun _ h9 => h9) rfl dX3_neighbour_11 ?_
    refine lv_iload_n hx hb dX3_neighbour_14 rfl (lv_at hl 3 rfl) ?_
    refine za_ld (k := n) hx hb hK hP 3 2 rfl rfl (by omega) (by decide) dX3_neighbour_15 ?_
    refine W.eq (g2 := F0 m 16 ls [.int (bI (mIs w (n)))]) rfl ?_
    refine lv_if_eq (tgt := 80) hx hb dX3_neighbour_16 (by decide) (fun c_2 => ?_) (fun c_2 => ?_)
    · skip
      have c_2 : (mIs w (n)) = false := bI_f c_2
      refine lv_iinc (v := nI (n + 1)) (lv' := [(3, .int (nI (n + 1))), (0, .ref (b 0)), (1, .int (nI (t))), (2, .int (nI (j)))]) hx hb dX3_neighbour_80 hl (k := 3) rfl (nI_1 (n)) (by decide) rfl (fun ls hl => ?_)
      refine lv_goto (tgt := 2) hx hb dX3_neighbour_83 (by decide) ?_
      exact ih_k (k - 1) (n + 1) ls (by omega) ⟨by omega, hi.trans (fnd_miss (by omega) (by first | (simp [c_1, c_2]; done) | (have e9 : nbe w.1 n t j = none := by { rw [hi2, show k2 = 0 by omega]; rfl }; simp [e9])))⟩ (lv_sub hl [1, 2, 3, 0] rfl)
    · skip
      have c_2 : (mIs w (n)) = true := bI_t c_2
      refine lv_iload_n hx hb dX3_neighbour_19 rfl (lv_at hl 3 rfl) ?_
      refine lv_iload_n hx hb dX3_neighbour_20 rfl (lv_at hl 1 rfl) ?_
      refine lv_icmp_ne (tgt := 27) hx hb dX3_neighbour_21 (by decide) (fun c_3 => ?_) (fun c_3 => ?_)
      · skip
        have c_3 : ¬ (n = t) := fun hq9 => c_3 ((nI_eq (a := n) (b := t) (by omega) (by omega)).mpr hq9)
        refine lv_iconst (v := nI (0)) hx hb dX3_neighbour_27 (by decide) ?_
        refine lv_istore (lv' := [(4, .int (nI (0))), (0, .ref (b 0)), (1, .int (nI (t))), (2, .int (nI (j))), (3, .int (nI (n)))]) hx hb dX3_neighbour_28 hl (by decide) rfl (fun ls hl => ?_)
        refine lp (σ := Nat) (LV := fun m2 => [(0, .ref (b 0)), (1, .int (nI (t))), (2, .int (nI (j))), (3, .int (nI (n))), (4, .int (nI (m2)))]) (I := fun k2 m2 => m2 + k2 = 3 ∧ nbe w.1 n t j = fnd (fun j_1 => decide (gc w.1 n j_1 = gc w.1 t (j + 1)) && decide (gc w.1 n (j_1 + 1) = gc w.1 t j)) k2 m2) (fun k2 m2 ls hI_k2 hl ih_k2 => ?_) (3) (0) ls ⟨by omega, rfl⟩ (lv_sub hl [1, 2, 3, 4, 0] rfl)
        obtain ⟨hk2, hi2⟩ := hI_k2
        have hq0 := gc_lt hv.1 (t := n) (k := m2)
        have hq1 := gc_lt hv.1 (t := n) (k := m2 + 1)
        have hq2 := gc_lt hv.1 (t := t) (k := j)
        have hq3 := gc_lt hv.1 (t := t) (k := j + 1)
        refine lv_iload hx hb dX3_neighbour_30 (lv_at hl 4 rfl) ?_
        refine lv_iconst (v := nI (3)) hx hb dX3_neighbour_32 (by decide) ?_
        refine lv_icmp_ge (tgt := 80) hx hb dX3_neighbour_33 (by decide) (fun c_4 => ?_) (fun c_4 => ?_)
        · skip
          have c_4 : 3 ≤ m2 := (nI_leI (a := 3) (b := m2) (by omega) (by omega)).mp c_4
          refine lv_iinc (v := nI (n + 1)) (lv' := [(3, .int (nI (n + 1))), (0, .ref (b 0)), (1, .int (nI (t))), (2, .int (nI (j))), (4, .int (nI (m2)))]) hx hb dX3_neighbour_80 hl (k := 3) rfl (nI_1 (n)) (by decide) rfl (fun ls hl => ?_)
          refine lv_goto (tgt := 2) hx hb dX3_neighbour_83 (by decide) ?_
          exact ih_k (k - 1) (n + 1) ls (by omega) ⟨by omega, hi.trans (fnd_miss (by omega) (by first | (simp [c_1, c_2, c_3, c_4]; done) | (have e9 : nbe w.1 n t j = none := by { rw [hi2, show k2 = 0 by omega]; rfl }; simp [e9])))⟩ (lv_sub hl [1, 2, 3, 0] rfl)
        · skip
          have c_4 : ¬ (3 ≤ m2) := fun hq9 => c_4 ((nI_leI (a := 3) (b := m2) (by omega) (by omega)).mpr hq9)
          refine lv_aload_n hx hb dX3_neighbour_36 rfl (lv_at hl 0 rfl) ?_
          refine lv_iload_n hx hb dX3_neighbour_37 rfl (lv_at hl 3 rfl) ?_
          refine lv_iload hx hb dX3_neighbour_38 (lv_at hl 4 rfl) ?_
          refine ro_V (As := [.int (nI (n)), .int (nI (m2))]) (rest := []) (q0 := 0) (ci := 3) hx hb hml hown hts (c_X3_at l dC dI cI cL cZ b w n m2 (by omega) (by omega)) (cwV 2 hts gX3_neighbour_X3_at rfl rfl rfl (by decide +kernel) ⟨Nat.le_of_ble_eq_true rfl, Nat.le_of_ble_eq_true rfl⟩) hK hP rfl rfl rfl hl.1 rfl (Nat.le_of_ble_eq_true rfl) dX3_neighbour_40 ⟨Nat.zero_le _, Nat.zero_le _⟩ ?_
          refine lv_aload_n hx hb dX3_neighbour_43 rfl (lv_at hl 0 rfl) ?_
          refine lv_iload_n hx hb dX3_neighbour_44 rfl (lv_at hl 1 rfl) ?_
          refine lv_iload_n hx hb dX3_neighbour_45 rfl (lv_at hl 2 rfl) ?_
          refine lv_iconst (v := nI (1)) hx hb dX3_neighbour_46 (by decide) ?_
          refine lv_iadd hx hb dX3_neighbour_47 ?_
          refine rt_i (y := (nI (j + 1))) (nn_add (j) (1)) ?_
          refine ro_V (As := [.int (nI (t)), .int (nI (j + 1))]) (rest := [.int (nI (gc w.1 n m2))]) (q0 := 0) (ci := 3) hx hb hml hown hts (c_X3_at l dC dI cI cL cZ b w t (j + 1) (by omega) (by omega)) (cwV 2 hts gX3_neighbour_X3_at rfl rfl rfl (by decide +kernel) ⟨Nat.le_of_ble_eq_true rfl, Nat.le_of_ble_eq_true rfl⟩) hK hP rfl rfl rfl hl.1 rfl (Nat.le_of_ble_eq_true rfl) dX3_neighbour_48 ⟨Nat.zero_le _, Nat.zero_le _⟩ ?_
          refine lv_icmp_ne (tgt := 74) hx hb dX3_neighbour_51 (by decide) (fun c_5 => ?_) (fun c_5 => ?_)
          · skip
            have c_5 : ¬ (gc w.1 n m2 = gc w.1 t (j + 1)) := fun hq9 => c_5 ((nI_eq (a := gc w.1 n m2) (b := gc w.1 t (j + 1)) (by omega) (by omega)).mpr hq9)
            refine lv_iinc (v := nI (m2 + 1)) (lv' := [(4, .int (nI (m2 + 1))), (0, .ref (b 0)), (1, .int (nI (t))), (2, .int (nI (j))), (3, .int (nI (n)))]) hx hb dX3_neighbour_74 hl (k := 4) rfl (nI_1 (m2)) (by decide) rfl (fun ls hl => ?_)
            refine lv_goto (tgt := 30) hx hb dX3_neighbour_77 (by decide) ?_
            exact ih_k2 (k2 - 1) (m2 + 1) ls (by omega) ⟨by omega, hi2.trans (fnd_miss (by omega) (by simp [c_1, c_2, c_3, c_4, c_5]))⟩ (lv_sub hl [1, 2, 3, 4, 0] rfl)
          · skip
            have c_5 : gc w.1 n m2 = gc w.1 t (j + 1) := (nI_eq (a := gc w.1 n m2) (b := gc w.1 t (j + 1)) (by omega) (by omega)).mp c_5
            refine lv_aload_n hx hb dX3_neighbour_54 rfl (lv_at hl 0 rfl) ?_
            refine lv_iload_n hx hb dX3_neighbour_55 rfl (lv_at hl 3 rfl) ?_
            refine lv_iload hx hb dX3_neighbour_56 (lv_at hl 4 rfl) ?_
            refine lv_iconst (v := nI (1)) hx hb dX3_neighbour_58 (by decide) ?_
            refine lv_iadd hx hb dX3_neighbour_59 ?_
            refine rt_i (y := (nI (m2 + 1))) (nn_add (m2) (1)) ?_
            refine ro_V (As := [.int (nI (n)), .int (nI (m2 + 1))]) (rest := []) (q0 := 0) (ci := 3) hx hb hml hown hts (c_X3_at l dC dI cI cL cZ b w n (m2 + 1) (by omega) (by omega)) (cwV 2 hts gX3_neighbour_X3_at rfl rfl rfl (by decide +kernel) ⟨Nat.le_of_ble_eq_true rfl, Nat.le_of_ble_eq_true rfl⟩) hK hP rfl rfl rfl hl.1 rfl (Nat.le_of_ble_eq_true rfl) dX3_neighbour_60 ⟨Nat.zero_le _, Nat.zero_le _⟩ ?_
            refine lv_aload_n hx hb dX3_neighbour_63 rfl (lv_at hl 0 rfl) ?_
            refine lv_iload_n hx hb dX3_neighbour_64 rfl (lv_at hl 1 rfl) ?_
            refine lv_iload_n hx hb dX3_neighbour_65 rfl (lv_at hl 2 rfl) ?_
            refine ro_V (As := [.int (nI (t)), .int (nI (j))]) (rest := [.int (nI (gc w.1 n (m2 + 1)))]) (q0 := 0) (ci := 3) hx hb hml hown hts (c_X3_at l dC dI cI cL cZ b w t j (by omega) (by omega)) (cwV 2 hts gX3_neighbour_X3_at rfl rfl rfl (by decide +kernel) ⟨Nat.le_of_ble_eq_true rfl, Nat.le_of_ble_eq_true rfl⟩) hK hP rfl rfl rfl hl.1 rfl (Nat.le_of_ble_eq_true rfl) dX3_neighbour_66 ⟨Nat.zero_le _, Nat.zero_le _⟩ ?_
            refine lv_icmp_ne (tgt := 74) hx hb dX3_neighbour_69 (by decide) (fun c_6 => ?_) (fun c_6 => ?_)
            · skip
              have c_6 : ¬ (gc w.1 n (m2 + 1) = gc w.1 t j) := fun hq9 => c_6 ((nI_eq (a := gc w.1 n (m2 + 1)) (b := gc w.1 t j) (by omega) (by omega)).mpr hq9)
              refine lv_iinc (v := nI (m2 + 1)) (lv' := [(4, .int (nI (m2 + 1))), (0, .ref (b 0)), (1, .int (nI (t))), (2, .int (nI (j))), (3, .int (nI (n)))]) hx hb dX3_neighbour_74 hl (k := 4) rfl (nI_1 (m2)) (by decide) rfl (fun ls hl => ?_)
              refine lv_goto (tgt := 30) hx hb dX3_neighbour_77 (by decide) ?_
              exact ih_k2 (k2 - 1) (m2 + 1) ls (by omega) ⟨by omega, hi2.trans (fnd_miss (by omega) (by simp [c_1, c_2, c_3, c_4, c_5, c_6]))⟩ (lv_sub hl [1, 2, 3, 4, 0] rfl)
            · skip
              have c_6 : gc w.1 n (m2 + 1) = gc w.1 t j := (nI_eq (a := gc w.1 n (m2 + 1)) (b := gc w.1 t j) (by omega) (by omega)).mp c_6
              refine lv_iload_n hx hb dX3_neighbour_72 rfl (lv_at hl 3 rfl) ?_
              exact ro_iret hx hb hr (rO (by rw [hi, fnd_hit (by omega) (by have e9 : nbe w.1 n t j = some m2 := hi2.trans (fnd_hit (by omega) (by simp [c_1, c_2, c_3, c_4, c_5, c_6])); simp [e9, c_1, c_2, c_3, c_4, c_5, c_6])]; rfl)) dX3_neighbour_73 hlocks
      · skip
        have c_3 : n = t := (nI_eq (a := n) (b := t) (by omega) (by omega)).mp c_3
        refine lv_goto (tgt := 80) hx hb dX3_neighbour_24 (by decide) ?_
        refine lv_iinc (v := nI (n + 1)) (lv' := [(3, .int (nI (n + 1))), (0, .ref (b 0)), (1, .int (nI (t))), (2, .int (nI (j)))]) hx hb dX3_neighbour_80 hl (k := 3) rfl (nI_1 (n)) (by decide) rfl (fun ls hl => ?_)
        refine lv_goto (tgt := 2) hx hb dX3_neighbour_83 (by decide) ?_
        exact ih_k (k - 1) (n + 1) ls (by omega) ⟨by omega, hi.trans (fnd_miss (by omega) (by first | (simp [c_1, c_2, c_3]; done) | (have e9 : nbe w.1 n t j = none := by { rw [hi2, show k2 = 0 by omega]; rfl }; simp [e9])))⟩ (lv_sub hl [1, 2, 3, 0] rfl)
set_option maxHeartbeats 4000000 in
set_option maxRecDepth 100000 in
theorem c_X3_beyond (l : Launch) (dC : Nat → ClassId) (dI : Nat → Nat → Nat) (cI cL cZ : ClassId) (b : Nat → Nat) (w : MV) (t j u : Nat) (hv : okM w) (ht : t < 200) (hj : j < 4) (hu : u < 200) (hs : (nbe w.1 u t j).isSome = true) : Met l yX3_beyond wsX3_beyond ({ frames := 1, cells := 0, slots := 0, locals := 22 }) (va_Pc [.ref (b 0), .int (nI (t)), .int (nI (j)), .int (nI (u))] (ro_B (dC, dI) vwCl (wM cI cZ b w) (tyS cI cL cZ))) (k2_QcV (.int (nI (bey w.1 t j u)))) 0 0 (fun _ => False) := by
  refine ro_Met (cc := cX3_beyond) (maxL := 5) (ret := (some .int)) (by decide) rfl (Nat.le_of_ble_eq_true rfl) ?_
  intro pr en s m below meth co ls hx hb hml hr hlocks hown hts hP hK hl
  have hl : lv_has ls 5 [(0, .ref (b 0)), (1, .int (nI (t))), (2, .int (nI (j))), (3, .int (nI (u)))] := hl
  have hown : s.vm.findClass RX3 = some m.cls := hown
  have hvp : mPn w ≤ 60 ∧ mTm w ≤ 200 ∧ mTn w ≤ 60 := ⟨hv.2.1, hv.2.2.1, hv.2.2.2.1⟩
  refine lv_iconst (v := nI (0)) hx hb dX3_beyond_0 (by decide) ?_
  refine lv_istore (lv' := [(4, .int (nI (0))), (0, .ref (b 0)), (1, .int (nI (t))), (2, .int (nI (j))), (3, .int (nI (u)))]) hx hb dX3_beyond_1 hl (by decide) rfl (fun ls hl => ?_)
  refine lp (σ := Nat) (LV := fun n => [(0, .ref (b 0)), (1, .int (nI (t))), (2, .int (nI (j))), (3, .int (nI (u))), (4, .int (nI (n)))]) (I := fun k n => n + k = 3 ∧ nbe w.1 u t j = fnd (fun j_1 => decide (gc w.1 u j_1 = gc w.1 t (j + 1)) && decide (gc w.1 u (j_1 + 1) = gc w.1 t j)) k n) (fun k n ls hI_k hl ih_k => ?_) (3) (0) ls ⟨by omega, rfl⟩ (lv_sub hl [1, 2, 3, 4, 0] rfl)
  obtain ⟨hk, hi⟩ := hI_k
  have hq0 := gc_lt hv.1 (t := u) (k := n)
  have hq1 := gc_lt hv.1 (t := u) (k := n + 1)
  have hq2 := gc_lt hv.1 (t := t) (k := j)
  have hq3 := gc_lt hv.1 (t := t) (k := j + 1)
  refine lv_iload hx hb dX3_beyond_3 (lv_at hl 4 rfl) ?_
  refine lv_iconst (v := nI (3)) hx hb dX3_beyond_5 (by decide) ?_
  refine lv_icmp_ge (tgt := 61) hx hb dX3_beyond_6 (by decide) (fun c_1 => ?_) (fun c_1 => ?_)
  · skip
    have c_1 : 3 ≤ n := (nI_leI (a := 3) (b := n) (by omega) (by omega)).mp c_1
    exact absurd hs (by rw [hi, show k = 0 by omega]; simp [fnd])
  · skip
    have c_1 : ¬ (3 ≤ n) := fun hq9 => c_1 ((nI_leI (a := 3) (b := n) (by omega) (by omega)).mpr hq9)
    refine lv_aload_n hx hb dX3_beyond_9 rfl (lv_at hl 0 rfl) ?_
    refine lv_iload_n hx hb dX3_beyond_10 rfl (lv_at hl 3 rfl) ?_
    refine lv_iload hx hb dX3_beyond_11 (lv_at hl 4 rfl) ?_
    refine ro_V (As := [.int (nI (u)), .int (nI (n))]) (rest := []) (q0 := 0) (ci := 3) hx hb hml hown hts (c_X3_at l dC dI cI cL cZ b w u n (by omega) (by omega)) (cwV 2 hts gX3_beyond_X3_at rfl rfl rfl (by decide +kernel) ⟨Nat.le_of_ble_eq_true rfl, Nat.le_of_ble_eq_true rfl⟩) hK hP rfl rfl rfl hl.1 rfl (Nat.le_of_ble_eq_true rfl) dX3_beyond_13 ⟨Nat.zero_le _, Nat.zero_le _⟩ ?_
    refine lv_aload_n hx hb dX3_beyond_16 rfl (lv_at hl 0 rfl) ?_
    refine lv_iload_n hx hb dX3_beyond_17 rfl (lv_at hl 1 rfl) ?_
    refine lv_iload_n hx hb dX3_beyond_18 rfl (lv_at hl 2 rfl) ?_
    refine lv_iconst (v := nI (1)) hx hb dX3_beyond_19 (by decide) ?_
    refine lv_iadd hx hb dX3_beyond_20 ?_
    refine rt_i (y := (nI (j + 1))) (nn_add (j) (1)) ?_
    refine ro_V (As := [.int (nI (t)), .int (nI (j + 1))]) (rest := [.int (nI (gc w.1 u n))]) (q0 := 0) (ci := 3) hx hb hml hown hts (c_X3_at l dC dI cI cL cZ b w t (j + 1) (by omega) (by omega)) (cwV 2 hts gX3_beyond_X3_at rfl rfl rfl (by decide +kernel) ⟨Nat.le_of_ble_eq_true rfl, Nat.le_of_ble_eq_true rfl⟩) hK hP rfl rfl rfl hl.1 rfl (Nat.le_of_ble_eq_true rfl) dX3_beyond_21 ⟨Nat.zero_le _, Nat.zero_le _⟩ ?_
    refine lv_icmp_ne (tgt := 55) hx hb dX3_beyond_24 (by decide) (fun c_2 => ?_) (fun c_2 => ?_)
    · skip
      have c_2 : ¬ (gc w.1 u n = gc w.1 t (j + 1)) := fun hq9 => c_2 ((nI_eq (a := gc w.1 u n) (b := gc w.1 t (j + 1)) (by omega) (by omega)).mpr hq9)
      refine lv_iinc (v := nI (n + 1)) (lv' := [(4, .int (nI (n + 1))), (0, .ref (b 0)), (1, .int (nI (t))), (2, .int (nI (j))), (3, .int (nI (u)))]) hx hb dX3_beyond_55 hl (k := 4) rfl (nI_1 (n)) (by decide) rfl (fun ls hl => ?_)
      refine lv_goto (tgt := 3) hx hb dX3_beyond_58 (by decide) ?_
      exact ih_k (k - 1) (n + 1) ls (by omega) ⟨by omega, hi.trans (fnd_miss (by omega) (by simp [c_1, c_2]))⟩ (lv_sub hl [1, 2, 3, 4, 0] rfl)
    · skip
      have c_2 : gc w.1 u n = gc w.1 t (j + 1) := (nI_eq (a := gc w.1 u n) (b := gc w.1 t (j + 1)) (by omega) (by omega)).mp c_2
      refine lv_aload_n hx hb dX3_beyond_27 rfl (lv_at hl 0 rfl) ?_
      refine lv_iload_n hx hb dX3_beyond_28 rfl (lv_at hl 3 rfl) ?_
      refine lv_iload hx hb dX3_beyond_29 (lv_at hl 4 rfl) ?_
      refine lv_iconst (v := nI (1)) hx hb dX3_beyond_31 (by decide) ?_
      refine lv_iadd hx hb dX3_beyond_32 ?_
      refine rt_i (y := (nI (n + 1))) (nn_add (n) (1)) ?_
      refine ro_V (As := [.int (nI (u)), .int (nI (n + 1))]) (rest := []) (q0 := 0) (ci := 3) hx hb hml hown hts (c_X3_at l dC dI cI cL cZ b w u (n + 1) (by omega) (by omega)) (cwV 2 hts gX3_beyond_X3_at rfl rfl rfl (by decide +kernel) ⟨Nat.le_of_ble_eq_true rfl, Nat.le_of_ble_eq_true rfl⟩) hK hP rfl rfl rfl hl.1 rfl (Nat.le_of_ble_eq_true rfl) dX3_beyond_33 ⟨Nat.zero_le _, Nat.zero_le _⟩ ?_
      refine lv_aload_n hx hb dX3_beyond_36 rfl (lv_at hl 0 rfl) ?_
      refine lv_iload_n hx hb dX3_beyond_37 rfl (lv_at hl 1 rfl) ?_
      refine lv_iload_n hx hb dX3_beyond_38 rfl (lv_at hl 2 rfl) ?_
      refine ro_V (As := [.int (nI (t)), .int (nI (j))]) (rest := [.int (nI (gc w.1 u (n + 1)))]) (q0 := 0) (ci := 3) hx hb hml hown hts (c_X3_at l dC dI cI cL cZ b w t j (by omega) (by omega)) (cwV 2 hts gX3_beyond_X3_at rfl rfl rfl (by decide +kernel) ⟨Nat.le_of_ble_eq_true rfl, Nat.le_of_ble_eq_true rfl⟩) hK hP rfl rfl rfl hl.1 rfl (Nat.le_of_ble_eq_true rfl) dX3_beyond_39 ⟨Nat.zero_le _, Nat.zero_le _⟩ ?_
      refine lv_icmp_ne (tgt := 55) hx hb dX3_beyond_42 (by decide) (fun c_3 => ?_) (fun c_3 => ?_)
      · skip
        have c_3 : ¬ (gc w.1 u (n + 1) = gc w.1 t j) := fun hq9 => c_3 ((nI_eq (a := gc w.1 u (n + 1)) (b := gc w.1 t j) (by omega) (by omega)).mpr hq9)
        refine lv_iinc (v := nI (n + 1)) (lv' := [(4, .int (nI (n + 1))), (0, .ref (b 0)), (1, .int (nI (t))), (2, .int (nI (j))), (3, .int (nI (u)))]) hx hb dX3_beyond_55 hl (k := 4) rfl (nI_1 (n)) (by decide) rfl (fun ls hl => ?_)
        refine lv_goto (tgt := 3) hx hb dX3_beyond_58 (by decide) ?_
        exact ih_k (k - 1) (n + 1) ls (by omega) ⟨by omega, hi.trans (fnd_miss (by omega) (by simp [c_1, c_2, c_3]))⟩ (lv_sub hl [1, 2, 3, 4, 0] rfl)
      · skip
        have c_3 : gc w.1 u (n + 1) = gc w.1 t j := (nI_eq (a := gc w.1 u (n + 1)) (b := gc w.1 t j) (by omega) (by omega)).mp c_3
        refine lv_aload_n hx hb dX3_beyond_45 rfl (lv_at hl 0 rfl) ?_
        refine lv_iload_n hx hb dX3_beyond_46 rfl (lv_at hl 3 rfl) ?_
        refine lv_iload hx hb dX3_beyond_47 (lv_at hl 4 rfl) ?_
        refine lv_iconst (v := nI (2)) hx hb dX3_beyond_49 (by decide) ?_
        refine lv_iadd hx hb dX3_beyond_50 ?_
        refine rt_i (y := (nI (n + 2))) (nn_add (n) (2)) ?_
        refine ro_V (As := [.int (nI (u)), .int (nI (n + 2))]) (rest := []) (q0 := 0) (ci := 3) hx hb hml hown hts (c_X3_at l dC dI cI cL cZ b w u (n + 2) (by omega) (by omega)) (cwV 2 hts gX3_beyond_X3_at rfl rfl rfl (by decide +kernel) ⟨Nat.le_of_ble_eq_true rfl, Nat.le_of_ble_eq_true rfl⟩) hK hP rfl rfl rfl hl.1 rfl (Nat.le_of_ble_eq_true rfl) dX3_beyond_51 ⟨Nat.zero_le _, Nat.zero_le _⟩ ?_
        exact ro_iret hx hb hr (rn (by have e9 : nbe w.1 u t j = some n := hi.trans (fnd_hit (by omega) (by simp [c_1, c_2, c_3])); rw [bey, e9]; rfl)) dX3_beyond_54 hlocks
set_option maxHeartbeats 4000000 in
set_option maxRecDepth 100000 in
theorem c_X3_determinant (l : Launch) (dC : Nat → ClassId) (dI : Nat → Nat → Nat)  (a0 a1 a2 a3 a4 a5 a6 a7 a8 : Int)  : Met l yX3_determinant wsX3_determinant ({ frames := 0, cells := 0, slots := 0, locals := 0 }) (va_Pc [.long (lI (a0)), .long (lI (a1)), .long (lI (a2)), .long (lI (a3)), .long (lI (a4)), .long (lI (a5)), .long (lI (a6)), .long (lI (a7)), .long (lI (a8))] (ro_B (dC, dI) vwCl [] [])) (k2_QcV (.long (lI (det a0 a1 a2 a3 a4 a5 a6 a7 a8)))) 0 0 (fun _ => False) := by
  refine ro_Met (cc := cX3_determinant) (maxL := 18) (ret := (some .long)) (by decide) rfl (Nat.le_of_ble_eq_true rfl) ?_
  intro pr en s m below meth co ls hx hb hml hr hlocks hown hts hP hK hl
  have hl : lv_has ls 18 [(0, .long (lI (a0))), (2, .long (lI (a1))), (4, .long (lI (a2))), (6, .long (lI (a3))), (8, .long (lI (a4))), (10, .long (lI (a5))), (12, .long (lI (a6))), (14, .long (lI (a7))), (16, .long (lI (a8)))] := hl
  have hown : s.vm.findClass RX3 = some m.cls := hown
  refine lv_lload_n hx hb dX3_determinant_0 rfl (lv_at hl 0 rfl) ?_
  refine lv_lload hx hb dX3_determinant_1 (lv_at hl 4 rfl) ?_
  refine lv_lload hx hb dX3_determinant_3 (lv_at hl 8 rfl) ?_
  refine lv_lmul hx hb dX3_determinant_5 ?_
  refine rt_l (y := (lI ((a4) * (a8)))) (lI_mul (a4) (a8)) ?_
  refine lv_lload hx hb dX3_determinant_6 (lv_at hl 5 rfl) ?_
  refine lv_lload hx hb dX3_determinant_8 (lv_at hl 7 rfl) ?_
  refine lv_lmul hx hb dX3_determinant_10 ?_
  refine rt_l (y := (lI ((a5) * (a7)))) (lI_mul (a5) (a7)) ?_
  refine lv_lsub hx hb dX3_determinant_11 ?_
  refine rt_l (y := (lI (((a4) * (a8)) - ((a5) * (a7))))) (lI_sub ((a4) * (a8)) ((a5) * (a7))) ?_
  refine lv_lmul hx hb dX3_determinant_12 ?_
  refine rt_l (y := (lI ((a0) * (((a4) * (a8)) - ((a5) * (a7)))))) (lI_mul (a0) (((a4) * (a8)) - ((a5) * (a7)))) ?_
  refine lv_lload_n hx hb dX3_determinant_13 rfl (lv_at hl 1 rfl) ?_
  refine lv_lload hx hb dX3_determinant_14 (lv_at hl 3 rfl) ?_
  refine lv_lload hx hb dX3_determinant_16 (lv_at hl 8 rfl) ?_
  refine lv_lmul hx hb dX3_determinant_18 ?_
  refine rt_l (y := (lI ((a3) * (a8)))) (lI_mul (a3) (a8)) ?_
  refine lv_lload hx hb dX3_determinant_19 (lv_at hl 5 rfl) ?_
  refine lv_lload hx hb dX3_determinant_21 (lv_at hl 6 rfl) ?_
  refine lv_lmul hx hb dX3_determinant_23 ?_
  refine rt_l (y := (lI ((a5) * (a6)))) (lI_mul (a5) (a6)) ?_
  refine lv_lsub hx hb dX3_determinant_24 ?_
  refine rt_l (y := (lI (((a3) * (a8)) - ((a5) * (a6))))) (lI_sub ((a3) * (a8)) ((a5) * (a6))) ?_
  refine lv_lmul hx hb dX3_determinant_25 ?_
  refine rt_l (y := (lI ((a1) * (((a3) * (a8)) - ((a5) * (a6)))))) (lI_mul (a1) (((a3) * (a8)) - ((a5) * (a6)))) ?_
  refine lv_lsub hx hb dX3_determinant_26 ?_
  refine rt_l (y := (lI (((a0) * (((a4) * (a8)) - ((a5) * (a7)))) - ((a1) * (((a3) * (a8)) - ((a5) * (a6))))))) (lI_sub ((a0) * (((a4) * (a8)) - ((a5) * (a7)))) ((a1) * (((a3) * (a8)) - ((a5) * (a6))))) ?_
  refine lv_lload hx hb dX3_determinant_27 (lv_at hl 2 rfl) ?_
  refine lv_lload hx hb dX3_determinant_29 (lv_at hl 3 rfl) ?_
  refine lv_lload hx hb dX3_determinant_31 (lv_at hl 7 rfl) ?_
  refine lv_lmul hx hb dX3_determinant_33 ?_
  refine rt_l (y := (lI ((a3) * (a7)))) (lI_mul (a3) (a7)) ?_
  refine lv_lload hx hb dX3_determinant_34 (lv_at hl 4 rfl) ?_
  refine lv_lload hx hb dX3_determinant_36 (lv_at hl 6 rfl) ?_
  refine lv_lmul hx hb dX3_determinant_38 ?_
  refine rt_l (y := (lI ((a4) * (a6)))) (lI_mul (a4) (a6)) ?_
  refine lv_lsub hx hb dX3_determinant_39 ?_
  refine rt_l (y := (lI (((a3) * (a7)) - ((a4) * (a6))))) (lI_sub ((a3) * (a7)) ((a4) * (a6))) ?_
  refine lv_lmul hx hb dX3_determinant_40 ?_
  refine rt_l (y := (lI ((a2) * (((a3) * (a7)) - ((a4) * (a6)))))) (lI_mul (a2) (((a3) * (a7)) - ((a4) * (a6)))) ?_
  refine lv_ladd hx hb dX3_determinant_41 ?_
  refine rt_l (y := (lI ((((a0) * (((a4) * (a8)) - ((a5) * (a7)))) - ((a1) * (((a3) * (a8)) - ((a5) * (a6))))) + ((a2) * (((a3) * (a7)) - ((a4) * (a6))))))) (lI_add (((a0) * (((a4) * (a8)) - ((a5) * (a7)))) - ((a1) * (((a3) * (a8)) - ((a5) * (a6))))) ((a2) * (((a3) * (a7)) - ((a4) * (a6))))) ?_
  exact ro_lret hx hb hr rfl dX3_determinant_42 hlocks
set_option maxHeartbeats 4000000 in
set_option maxRecDepth 100000 in
theorem c_X3_good (l : Launch) (dC : Nat → ClassId) (dI : Nat → Nat → Nat) (cI cL cZ : ClassId) (b : Nat → Nat) (w : MV) (t j : Nat) (hv : okM w) (ht : t < 200) (hj : j < 3) : Met l yX3_good wsX3_good ({ frames := 2, cells := 0, slots := 0, locals := 46 }) (va_Pc [.ref (b 0), .int (nI (t)), .int (nI (j))] (ro_B (dC, dI) vwCl (wM cI cZ b w) (tyS cI cL cZ))) (k2_QcV (.int (bI (god w.1 t j (mnb w t j) (bey w.1 t j))))) 0 0 (fun _ => False) := by
  refine ro_Met (cc := cX3_good) (maxL := 17) (ret := (some .boolean)) (by decide) rfl (Nat.le_of_ble_eq_true rfl) ?_
  intro pr en s m below meth co ls hx hb hml hr hlocks hown hts hP hK hl
  have hl : lv_has ls 17 [(0, .ref (b 0)), (1, .int (nI (t))), (2, .int (nI (j)))] := hl
  have hown : s.vm.findClass RX3 = some m.cls := hown
  have hvp : mPn w ≤ 60 ∧ mTm w ≤ 200 ∧ mTn w ≤ 60 := ⟨hv.2.1, hv.2.2.1, hv.2.2.2.1⟩
  have hgg0 := gc_lt hv.1 (t := t) (k := j + 0)
  have hgg1 := gc_lt hv.1 (t := t) (k := j + 1)
  have hgg2 := gc_lt hv.1 (t := t) (k := j + 2)
  have hggz := gc_lt hv.1 (t := t) (k := j)
  refine lv_aload_n hx hb dX3_good_0 rfl (lv_at hl 0 rfl) ?_
  refine lv_iload_n hx hb dX3_good_1 rfl (lv_at hl 1 rfl) ?_
  refine lv_iload_n hx hb dX3_good_2 rfl (lv_at hl 2 rfl) ?_
  refine ro_V (As := [.int (nI (t)), .int (nI (j))]) (rest := []) (q0 := 0) (ci := 3) hx hb hml hown hts (c_X3_neighbour l dC dI cI cL cZ b w t j hv (by omega) (by omega)) (cwV 2 hts gX3_good_X3_neighbour rfl rfl rfl (by decide +kernel) ⟨Nat.le_of_ble_eq_true rfl, Nat.le_of_ble_eq_true rfl⟩) hK hP rfl rfl rfl hl.1 rfl (Nat.le_of_ble_eq_true rfl) dX3_good_3 ⟨Nat.zero_le _, Nat.zero_le _⟩ ?_
  have ps_1 : ∀ k, mnb w t j = some k → k < 2 ^ 31 := fun k h => by have := (mnb_lt h).1; omega
  refine ocase (x := mnb w t j) (fun ho_u => ?_) (fun u ho_u => ?_)
  · skip
    refine lv_istore_n (lv' := [(3, .int (iI (-1))), (0, .ref (b 0)), (1, .int (nI (t))), (2, .int (nI (j)))]) hx hb dX3_good_6 rfl hl (by decide) rfl (fun ls hl => ?_)
    refine lv_iload_n hx hb dX3_good_7 rfl (lv_at hl 0 rfl) ?_
    refine lv_iconst (v := iI (-1)) hx hb dX3_good_8 (by decide) ?_
    refine lv_icmp_ne (tgt := 14) hx hb dX3_good_9 (by decide) (fun c_2 => absurd rfl c_2) (fun c_2 => ?_)
    refine lv_iconst (v := nI (1)) hx hb dX3_good_12 (by decide) ?_
    exact ro_zret hx hb hr (by decide) (rb_1 (by rw [ho_u]; rfl)) dX3_good_13 hlocks
  · skip
    have hb9 := hv.1.1 (bey w.1 t j u)
    have hb8 := hv.1.2.1 (bey w.1 t j u)
    have hx0 := hv.1.1 (gc w.1 t (j + 0))
    have hy0 := hv.1.2.1 (gc w.1 t (j + 0))
    have hx1 := hv.1.1 (gc w.1 t (j + 1))
    have hy1 := hv.1.2.1 (gc w.1 t (j + 1))
    have hx2 := hv.1.1 (gc w.1 t (j + 2))
    have hy2 := hv.1.2.1 (gc w.1 t (j + 2))
    have hxz := hv.1.1 (gc w.1 t j)
    have hyz := hv.1.2.1 (gc w.1 t j)
    obtain ⟨hu1, hu2, hu3, hu4⟩ := mnb_lt ho_u
    refine lv_istore_n (lv' := [(3, .int (nI (u))), (0, .ref (b 0)), (1, .int (nI (t))), (2, .int (nI (j)))]) hx hb dX3_good_6 rfl hl (by decide) rfl (fun ls hl => ?_)
    refine lv_iload_n hx hb dX3_good_7 rfl (lv_at hl 0 rfl) ?_
    refine lv_iconst (v := iI (-1)) hx hb dX3_good_8 (by decide) ?_
    refine lv_icmp_ne (tgt := 14) hx hb dX3_good_9 (by decide) (fun c_3 => ?_) (fun c_3 => absurd c_3 (ne_m1 (by omega)))
    refine lv_aload_n hx hb dX3_good_14 rfl (lv_at hl 1 rfl) ?_
    refine lv_iload_n hx hb dX3_good_15 rfl (lv_at hl 2 rfl) ?_
    refine lv_iload_n hx hb dX3_good_16 rfl (lv_at hl 3 rfl) ?_
    refine lv_iload_n hx hb dX3_good_17 rfl (lv_at hl 0 rfl) ?_
    refine ro_V (As := [.int (nI (t)), .int (nI (j)), .int (nI (u))]) (rest := []) (q0 := 0) (ci := 3) hx hb hml hown hts (c_X3_beyond l dC dI cI cL cZ b w t j u hv (by omega) (by omega) (by omega) hu4) (cwV 3 hts gX3_good_X3_beyond rfl rfl rfl (by decide +kernel) ⟨Nat.le_of_ble_eq_true rfl, Nat.le_of_ble_eq_true rfl⟩) hK hP rfl rfl rfl hl.1 rfl (Nat.le_of_ble_eq_true rfl) dX3_good_18 ⟨Nat.zero_le _, Nat.zero_le _⟩ ?_
    have ps_4 : bey w.1 t j u < 60 := gc_lt hv.1
    refine lv_istore (lv' := [(4, .int (nI (bey w.1 t j u))), (3, .int (nI (u))), (0, .ref (b 0)), (1, .int (nI (t))), (2, .int (nI (j)))]) hx hb dX3_good_21 hl (by decide) rfl (fun ls hl => ?_)
    refine lv_aload_n hx hb dX3_good_23 rfl (lv_at hl 2 rfl) ?_
    refine va_get (D := (dC, dI)) (ci := 3) (v := .ref (b 1)) (C := RX3) (T := TX3) (N := 11) hx hb hts (by decide +kernel) hown hK hP 0 rfl rfl 4 (by decide) (hts (.fieldLink RX3 7 "TriangleSheetModel" "px" "[I") (by decide +kernel)) (fun _ h9 => h9) rfl dX3_good_24 ?_
    refine lv_aload_n hx hb dX3_good_27 rfl (lv_at hl 2 rfl) ?_
    refine lv_iload_n hx hb dX3_good_28 rfl (lv_at hl 3 rfl) ?_
    refine lv_iload_n hx hb dX3_good_29 rfl (lv_at hl 4 rfl) ?_
    refine ro_V (As := [.int (nI (t)), .int (nI (j))]) (rest := [.ref (b 1)]) (q0 := 0) (ci := 3) hx hb hml hown hts (c_X3_at l dC dI cI cL cZ b w t j (by omega) (by omega)) (cwV 2 hts gX3_good_X3_at rfl rfl rfl (by decide +kernel) ⟨Nat.le_of_ble_eq_true rfl, Nat.le_of_ble_eq_true rfl⟩) hK hP rfl rfl rfl hl.1 rfl (Nat.le_of_ble_eq_true rfl) dX3_good_30 ⟨Nat.zero_le _, Nat.zero_le _⟩ ?_
    refine ia_ld (k := gc w.1 t j) hx hb hK hP 1 0 rfl rfl (by omega) (by decide) dX3_good_33 ?_
    refine W.eq (g2 := F0 m 34 ls [.int (nI (w.1.1 (gc w.1 t j)))]) rfl ?_
    have bd_5 := hv.1.1 (gc w.1 t j)
    refine lv_aload_n hx hb dX3_good_34 rfl (lv_at hl 2 rfl) ?_
    refine va_get (D := (dC, dI)) (ci := 3) (v := .ref (b 1)) (C := RX3) (T := TX3) (N := 11) hx hb hts (by decide +kernel) hown hK hP 0 rfl rfl 4 (by decide) (hts (.fieldLink RX3 7 "TriangleSheetModel" "px" "[I") (by decide +kernel)) (fun _ h9 => h9) rfl dX3_good_35 ?_
    refine lv_iload hx hb dX3_good_38 (lv_at hl 0 rfl) ?_
    refine ia_ld (k := bey w.1 t j u) hx hb hK hP 1 0 rfl rfl (by omega) (by decide) dX3_good_40 ?_
    refine W.eq (g2 := F0 m 41 ls [.int (nI (w.1.1 (bey w.1 t j u))), .int (nI (w.1.1 (gc w.1 t j)))]) rfl ?_
    have bd_6 := hv.1.1 (bey w.1 t j u)
    refine lv_isub hx hb dX3_good_41 ?_
    refine rt_i (y := (iI ((((w.1.1 (gc w.1 t j) : Nat) : Int)) - (((w.1.1 (bey w.1 t j u) : Nat) : Int))))) (nn_sub (w.1.1 (gc w.1 t j)) (w.1.1 (bey w.1 t j u))) ?_
    refine lv_i2l (v := lI ((((w.1.1 (gc w.1 t j) : Nat) : Int)) - (((w.1.1 (bey w.1 t j u) : Nat) : Int)))) hx hb dX3_good_42 (zI_l (⟨by omega, by omega⟩)) ?_
    refine lv_lstore (lv' := [(5, .long (lI ((((w.1.1 (gc w.1 t j) : Nat) : Int)) - (((w.1.1 (bey w.1 t j u) : Nat) : Int))))), (4, .int (nI (bey w.1 t j u))), (3, .int (nI (u))), (0, .ref (b 0)), (1, .int (nI (t))), (2, .int (nI (j)))]) hx hb dX3_good_43 hl (by decide) rfl (fun ls hl => ?_)
    refine lv_aload_n hx hb dX3_good_45 rfl (lv_at hl 3 rfl) ?_
    refine va_get (D := (dC, dI)) (ci := 3) (v := .ref (b 2)) (C := RX3) (T := TX3) (N := 11) hx hb hts (by decide +kernel) hown hK hP 0 rfl rfl 5 (by decide) (hts (.fieldLink RX3 13 "TriangleSheetModel" "py" "[I") (by decide +kernel)) (fun _ h9 => h9) rfl dX3_good_46 ?_
    refine lv_aload_n hx hb dX3_good_49 rfl (lv_at hl 3 rfl) ?_
    refine lv_iload_n hx hb dX3_good_50 rfl (lv_at hl 4 rfl) ?_
    refine lv_iload_n hx hb dX3_good_51 rfl (lv_at hl 5 rfl) ?_
    refine ro_V (As := [.int (nI (t)), .int (nI (j))]) (rest := [.ref (b 2)]) (q0 := 0) (ci := 3) hx hb hml hown hts (c_X3_at l dC dI cI cL cZ b w t j (by omega) (by omega)) (cwV 2 hts gX3_good_X3_at rfl rfl rfl (by decide +kernel) ⟨Nat.le_of_ble_eq_true rfl, Nat.le_of_ble_eq_true rfl⟩) hK hP rfl rfl rfl hl.1 rfl (Nat.le_of_ble_eq_true rfl) dX3_good_52 ⟨Nat.zero_le _, Nat.zero_le _⟩ ?_
    refine ia_ld (k := gc w.1 t j) hx hb hK hP 2 0 rfl rfl (by omega) (by decide) dX3_good_55 ?_
    refine W.eq (g2 := F0 m 56 ls [.int (nI (w.1.2.1 (gc w.1 t j)))]) rfl ?_
    have bd_7 := hv.1.2.1 (gc w.1 t j)
    refine lv_aload_n hx hb dX3_good_56 rfl (lv_at hl 3 rfl) ?_
    refine va_get (D := (dC, dI)) (ci := 3) (v := .ref (b 2)) (C := RX3) (T := TX3) (N := 11) hx hb hts (by decide +kernel) hown hK hP 0 rfl rfl 5 (by decide) (hts (.fieldLink RX3 13 "TriangleSheetModel" "py" "[I") (by decide +kernel)) (fun _ h9 => h9) rfl dX3_good_57 ?_
    refine lv_iload hx hb dX3_good_60 (lv_at hl 1 rfl) ?_
    refine ia_ld (k := bey w.1 t j u) hx hb hK hP 2 0 rfl rfl (by omega) (by decide) dX3_good_62 ?_
    refine W.eq (g2 := F0 m 63 ls [.int (nI (w.1.2.1 (bey w.1 t j u))), .int (nI (w.1.2.1 (gc w.1 t j)))]) rfl ?_
    have bd_8 := hv.1.2.1 (bey w.1 t j u)
    refine lv_isub hx hb dX3_good_63 ?_
    refine rt_i (y := (iI ((((w.1.2.1 (gc w.1 t j) : Nat) : Int)) - (((w.1.2.1 (bey w.1 t j u) : Nat) : Int))))) (nn_sub (w.1.2.1 (gc w.1 t j)) (w.1.2.1 (bey w.1 t j u))) ?_
    refine lv_i2l (v := lI ((((w.1.2.1 (gc w.1 t j) : Nat) : Int)) - (((w.1.2.1 (bey w.1 t j u) : Nat) : Int)))) hx hb dX3_good_64 (zI_l (⟨by omega, by omega⟩)) ?_
    refine lv_lstore (lv' := [(7, .long (lI ((((w.1.2.1 (gc w.1 t j) : Nat) : Int)) - (((w.1.2.1 (bey w.1 t j u) : Nat) : Int))))), (5, .long (lI ((((w.1.1 (gc w.1 t j) : Nat) : Int)) - (((w.1.1 (bey w.1 t j u) : Nat) : Int))))), (4, .int (nI (bey w.1 t j u))), (3, .int (nI (u))), (0, .ref (b 0)), (1, .int (nI (t))), (2, .int (nI (j)))]) hx hb dX3_good_65 hl (by decide) rfl (fun ls hl => ?_)
    refine lv_aload_n hx hb dX3_good_67 rfl (lv_at hl 4 rfl) ?_
    refine va_get (D := (dC, dI)) (ci := 3) (v := .ref (b 1)) (C := RX3) (T := TX3) (N := 11) hx hb hts (by decide +kernel) hown hK hP 0 rfl rfl 4 (by decide) (hts (.fieldLink RX3 7 "TriangleSheetModel" "px" "[I") (by decide +kernel)) (fun _ h9 => h9) rfl dX3_good_68 ?_
    refine lv_aload_n hx hb dX3_good_71 rfl (lv_at hl 4 rfl) ?_
    refine lv_iload_n hx hb dX3_good_72 rfl (lv_at hl 5 rfl) ?_
    refine lv_iload_n hx hb dX3_good_73 rfl (lv_at hl 6 rfl) ?_
    refine lv_iconst (v := nI (1)) hx hb dX3_good_74 (by decide) ?_
    refine lv_iadd hx hb dX3_good_75 ?_
    refine rt_i (y := (nI (j + 1))) (nn_add (j) (1)) ?_
    refine ro_V (As := [.int (nI (t)), .int (nI (j + 1))]) (rest := [.ref (b 1)]) (q0 := 0) (ci := 3) hx hb hml hown hts (c_X3_at l dC dI cI cL cZ b w t (j + 1) (by omega) (by omega)) (cwV 2 hts gX3_good_X3_at rfl rfl rfl (by decide +kernel) ⟨Nat.le_of_ble_eq_true rfl, Nat.le_of_ble_eq_true rfl⟩) hK hP rfl rfl rfl hl.1 rfl (Nat.le_of_ble_eq_true rfl) dX3_good_76 ⟨Nat.zero_le _, Nat.zero_le _⟩ ?_
    refine ia_ld (k := gc w.1 t (j + 1)) hx hb hK hP 1 0 rfl rfl (by omega) (by decide) dX3_good_79 ?_
    refine W.eq (g2 := F0 m 80 ls [.int (nI (w.1.1 (gc w.1 t (j + 1))))]) rfl ?_
    have bd_9 := hv.1.1 (gc w.1 t (j + 1))
    refine lv_aload_n hx hb dX3_good_80 rfl (lv_at hl 4 rfl) ?_
    refine va_get (D := (dC, dI)) (ci := 3) (v := .ref (b 1)) (C := RX3) (T := TX3) (N := 11) hx hb hts (by decide +kernel) hown hK hP 0 rfl rfl 4 (by decide) (hts (.fieldLink RX3 7 "TriangleSheetModel" "px" "[I") (by decide +kernel)) (fun _ h9 => h9) rfl dX3_good_81 ?_
    refine lv_iload hx hb dX3_good_84 (lv_at hl 2 rfl) ?_
    refine ia_ld (k := bey w.1 t j u) hx hb hK hP 1 0 rfl rfl (by omega) (by decide) dX3_good_86 ?_
    refine W.eq (g2 := F0 m 87 ls [.int (nI (w.1.1 (bey w.1 t j u))), .int (nI (w.1.1 (gc w.1 t (j + 1))))]) rfl ?_
    have bd_10 := hv.1.1 (bey w.1 t j u)
    refine lv_isub hx hb dX3_good_87 ?_
    refine rt_i (y := (iI ((((w.1.1 (gc w.1 t (j + 1)) : Nat) : Int)) - (((w.1.1 (bey w.1 t j u) : Nat) : Int))))) (nn_sub (w.1.1 (gc w.1 t (j + 1))) (w.1.1 (bey w.1 t j u))) ?_
    refine lv_i2l (v := lI ((((w.1.1 (gc w.1 t (j + 1)) : Nat) : Int)) - (((w.1.1 (bey w.1 t j u) : Nat) : Int)))) hx hb dX3_good_88 (zI_l (⟨by omega, by omega⟩)) ?_
    refine lv_lstore (lv' := [(9, .long (lI ((((w.1.1 (gc w.1 t (j + 1)) : Nat) : Int)) - (((w.1.1 (bey w.1 t j u) : Nat) : Int))))), (7, .long (lI ((((w.1.2.1 (gc w.1 t j) : Nat) : Int)) - (((w.1.2.1 (bey w.1 t j u) : Nat) : Int))))), (5, .long (lI ((((w.1.1 (gc w.1 t j) : Nat) : Int)) - (((w.1.1 (bey w.1 t j u) : Nat) : Int))))), (4, .int (nI (bey w.1 t j u))), (3, .int (nI (u))), (0, .ref (b 0)), (1, .int (nI (t))), (2, .int (nI (j)))]) hx hb dX3_good_89 hl (by decide) rfl (fun ls hl => ?_)
    refine lv_aload_n hx hb dX3_good_91 rfl (lv_at hl 5 rfl) ?_
    refine va_get (D := (dC, dI)) (ci := 3) (v := .ref (b 2)) (C := RX3) (T := TX3) (N := 11) hx hb hts (by decide +kernel) hown hK hP 0 rfl rfl 5 (by decide) (hts (.fieldLink RX3 13 "TriangleSheetModel" "py" "[I") (by decide +kernel)) (fun _ h9 => h9) rfl dX3_good_92 ?_
    refine lv_aload_n hx hb dX3_good_95 rfl (lv_at hl 5 rfl) ?_
    refine lv_iload_n hx hb dX3_good_96 rfl (lv_at hl 6 rfl) ?_
    refine lv_iload_n hx hb dX3_good_97 rfl (lv_at hl 7 rfl) ?_
    refine lv_iconst (v := nI (1)) hx hb dX3_good_98 (by decide) ?_
    refine lv_iadd hx hb dX3_good_99 ?_
    refine rt_i (y := (nI (j + 1))) (nn_add (j) (1)) ?_
    refine ro_V (As := [.int (nI (t)), .int (nI (j + 1))]) (rest := [.ref (b 2)]) (q0 := 0) (ci := 3) hx hb hml hown hts (c_X3_at l dC dI cI cL cZ b w t (j + 1) (by omega) (by omega)) (cwV 2 hts gX3_good_X3_at rfl rfl rfl (by decide +kernel) ⟨Nat.le_of_ble_eq_true rfl, Nat.le_of_ble_eq_true rfl⟩) hK hP rfl rfl rfl hl.1 rfl (Nat.le_of_ble_eq_true rfl) dX3_good_100 ⟨Nat.zero_le _, Nat.zero_le _⟩ ?_
    refine ia_ld (k := gc w.1 t (j + 1)) hx hb hK hP 2 0 rfl rfl (by omega) (by decide) dX3_good_103 ?_
    refine W.eq (g2 := F0 m 104 ls [.int (nI (w.1.2.1 (gc w.1 t (j + 1))))]) rfl ?_
    have bd_11 := hv.1.2.1 (gc w.1 t (j + 1))
    refine lv_aload_n hx hb dX3_good_104 rfl (lv_at hl 5 rfl) ?_
    refine va_get (D := (dC, dI)) (ci := 3) (v := .ref (b 2)) (C := RX3) (T := TX3) (N := 11) hx hb hts (by decide +kernel) hown hK hP 0 rfl rfl 5 (by decide) (hts (.fieldLink RX3 13 "TriangleSheetModel" "py" "[I") (by decide +kernel)) (fun _ h9 => h9) rfl dX3_good_105 ?_
    refine lv_iload hx hb dX3_good_108 (lv_at hl 3 rfl) ?_
    refine ia_ld (k := bey w.1 t j u) hx hb hK hP 2 0 rfl rfl (by omega) (by decide) dX3_good_110 ?_
    refine W.eq (g2 := F0 m 111 ls [.int (nI (w.1.2.1 (bey w.1 t j u))), .int (nI (w.1.2.1 (gc w.1 t (j + 1))))]) rfl ?_
    have bd_12 := hv.1.2.1 (bey w.1 t j u)
    refine lv_isub hx hb dX3_good_111 ?_
    refine rt_i (y := (iI ((((w.1.2.1 (gc w.1 t (j + 1)) : Nat) : Int)) - (((w.1.2.1 (bey w.1 t j u) : Nat) : Int))))) (nn_sub (w.1.2.1 (gc w.1 t (j + 1))) (w.1.2.1 (bey w.1 t j u))) ?_
    refine lv_i2l (v := lI ((((w.1.2.1 (gc w.1 t (j + 1)) : Nat) : Int)) - (((w.1.2.1 (bey w.1 t j u) : Nat) : Int)))) hx hb dX3_good_112 (zI_l (⟨by omega, by omega⟩)) ?_
    refine lv_lstore (lv' := [(11, .long (lI ((((w.1.2.1 (gc w.1 t (j + 1)) : Nat) : Int)) - (((w.1.2.1 (bey w.1 t j u) : Nat) : Int))))), (9, .long (lI ((((w.1.1 (gc w.1 t (j + 1)) : Nat) : Int)) - (((w.1.1 (bey w.1 t j u) : Nat) : Int))))), (7, .long (lI ((((w.1.2.1 (gc w.1 t j) : Nat) : Int)) - (((w.1.2.1 (bey w.1 t j u) : Nat) : Int))))), (5, .long (lI ((((w.1.1 (gc w.1 t j) : Nat) : Int)) - (((w.1.1 (bey w.1 t j u) : Nat) : Int))))), (4, .int (nI (bey w.1 t j u))), (3, .int (nI (u))), (0, .ref (b 0)), (1, .int (nI (t))), (2, .int (nI (j)))]) hx hb dX3_good_113 hl (by decide) rfl (fun ls hl => ?_)
    refine lv_aload_n hx hb dX3_good_115 rfl (lv_at hl 6 rfl) ?_
    refine va_get (D := (dC, dI)) (ci := 3) (v := .ref (b 1)) (C := RX3) (T := TX3) (N := 11) hx hb hts (by decide +kernel) hown hK hP 0 rfl rfl 4 (by decide) (hts (.fieldLink RX3 7 "TriangleSheetModel" "px" "[I") (by decide +kernel)) (fun _ h9 => h9) rfl dX3_good_116 ?_
    refine lv_aload_n hx hb dX3_good_119 rfl (lv_at hl 6 rfl) ?_
    refine lv_iload_n hx hb dX3_good_120 rfl (lv_at hl 7 rfl) ?_
    refine lv_iload_n hx hb dX3_good_121 rfl (lv_at hl 8 rfl) ?_
    refine lv_iconst (v := nI (2)) hx hb dX3_good_122 (by decide) ?_
    refine lv_iadd hx hb dX3_good_123 ?_
    refine rt_i (y := (nI (j + 2))) (nn_add (j) (2)) ?_
    refine ro_V (As := [.int (nI (t)), .int (nI (j + 2))]) (rest := [.ref (b 1)]) (q0 := 0) (ci := 3) hx hb hml hown hts (c_X3_at l dC dI cI cL cZ b w t (j + 2) (by omega) (by omega)) (cwV 2 hts gX3_good_X3_at rfl rfl rfl (by decide +kernel) ⟨Nat.le_of_ble_eq_true rfl, Nat.le_of_ble_eq_true rfl⟩) hK hP rfl rfl rfl hl.1 rfl (Nat.le_of_ble_eq_true rfl) dX3_good_124 ⟨Nat.zero_le _, Nat.zero_le _⟩ ?_
    refine ia_ld (k := gc w.1 t (j + 2)) hx hb hK hP 1 0 rfl rfl (by omega) (by decide) dX3_good_127 ?_
    refine W.eq (g2 := F0 m 128 ls [.int (nI (w.1.1 (gc w.1 t (j + 2))))]) rfl ?_
    have bd_13 := hv.1.1 (gc w.1 t (j + 2))
    refine lv_aload_n hx hb dX3_good_128 rfl (lv_at hl 6 rfl) ?_
    refine va_get (D := (dC, dI)) (ci := 3) (v := .ref (b 1)) (C := RX3) (T := TX3) (N := 11) hx hb hts (by decide +kernel) hown hK hP 0 rfl rfl 4 (by decide) (hts (.fieldLink RX3 7 "TriangleSheetModel" "px" "[I") (by decide +kernel)) (fun _ h9 => h9) rfl dX3_good_129 ?_
    refine lv_iload hx hb dX3_good_132 (lv_at hl 4 rfl) ?_
    refine ia_ld (k := bey w.1 t j u) hx hb hK hP 1 0 rfl rfl (by omega) (by decide) dX3_good_134 ?_
    refine W.eq (g2 := F0 m 135 ls [.int (nI (w.1.1 (bey w.1 t j u))), .int (nI (w.1.1 (gc w.1 t (j + 2))))]) rfl ?_
    have bd_14 := hv.1.1 (bey w.1 t j u)
    refine lv_isub hx hb dX3_good_135 ?_
    refine rt_i (y := (iI ((((w.1.1 (gc w.1 t (j + 2)) : Nat) : Int)) - (((w.1.1 (bey w.1 t j u) : Nat) : Int))))) (nn_sub (w.1.1 (gc w.1 t (j + 2))) (w.1.1 (bey w.1 t j u))) ?_
    refine lv_i2l (v := lI ((((w.1.1 (gc w.1 t (j + 2)) : Nat) : Int)) - (((w.1.1 (bey w.1 t j u) : Nat) : Int)))) hx hb dX3_good_136 (zI_l (⟨by omega, by omega⟩)) ?_
    refine lv_lstore (lv' := [(13, .long (lI ((((w.1.1 (gc w.1 t (j + 2)) : Nat) : Int)) - (((w.1.1 (bey w.1 t j u) : Nat) : Int))))), (11, .long (lI ((((w.1.2.1 (gc w.1 t (j + 1)) : Nat) : Int)) - (((w.1.2.1 (bey w.1 t j u) : Nat) : Int))))), (9, .long (lI ((((w.1.1 (gc w.1 t (j + 1)) : Nat) : Int)) - (((w.1.1 (bey w.1 t j u) : Nat) : Int))))), (7, .long (lI ((((w.1.2.1 (gc w.1 t j) : Nat) : Int)) - (((w.1.2.1 (bey w.1 t j u) : Nat) : Int))))), (5, .long (lI ((((w.1.1 (gc w.1 t j) : Nat) : Int)) - (((w.1.1 (bey w.1 t j u) : Nat) : Int))))), (4, .int (nI (bey w.1 t j u))), (3, .int (nI (u))), (0, .ref (b 0)), (1, .int (nI (t))), (2, .int (nI (j)))]) hx hb dX3_good_137 hl (by decide) rfl (fun ls hl => ?_)
    refine lv_aload_n hx hb dX3_good_139 rfl (lv_at hl 7 rfl) ?_
    refine va_get (D := (dC, dI)) (ci := 3) (v := .ref (b 2)) (C := RX3) (T := TX3) (N := 11) hx hb hts (by decide +kernel) hown hK hP 0 rfl rfl 5 (by decide) (hts (.fieldLink RX3 13 "TriangleSheetModel" "py" "[I") (by decide +kernel)) (fun _ h9 => h9) rfl dX3_good_140 ?_
    refine lv_aload_n hx hb dX3_good_143 rfl (lv_at hl 7 rfl) ?_
    refine lv_iload_n hx hb dX3_good_144 rfl (lv_at hl 8 rfl) ?_
    refine lv_iload_n hx hb dX3_good_145 rfl (lv_at hl 9 rfl) ?_
    refine lv_iconst (v := nI (2)) hx hb dX3_good_146 (by decide) ?_
    refine lv_iadd hx hb dX3_good_147 ?_
    refine rt_i (y := (nI (j + 2))) (nn_add (j) (2)) ?_
    refine ro_V (As := [.int (nI (t)), .int (nI (j + 2))]) (rest := [.ref (b 2)]) (q0 := 0) (ci := 3) hx hb hml hown hts (c_X3_at l dC dI cI cL cZ b w t (j + 2) (by omega) (by omega)) (cwV 2 hts gX3_good_X3_at rfl rfl rfl (by decide +kernel) ⟨Nat.le_of_ble_eq_true rfl, Nat.le_of_ble_eq_true rfl⟩) hK hP rfl rfl rfl hl.1 rfl (Nat.le_of_ble_eq_true rfl) dX3_good_148 ⟨Nat.zero_le _, Nat.zero_le _⟩ ?_
    refine ia_ld (k := gc w.1 t (j + 2)) hx hb hK hP 2 0 rfl rfl (by omega) (by decide) dX3_good_151 ?_
    refine W.eq (g2 := F0 m 152 ls [.int (nI (w.1.2.1 (gc w.1 t (j + 2))))]) rfl ?_
    have bd_15 := hv.1.2.1 (gc w.1 t (j + 2))
    refine lv_aload_n hx hb dX3_good_152 rfl (lv_at hl 7 rfl) ?_
    refine va_get (D := (dC, dI)) (ci := 3) (v := .ref (b 2)) (C := RX3) (T := TX3) (N := 11) hx hb hts (by decide +kernel) hown hK hP 0 rfl rfl 5 (by decide) (hts (.fieldLink RX3 13 "TriangleSheetModel" "py" "[I") (by decide +kernel)) (fun _ h9 => h9) rfl dX3_good_153 ?_
    refine lv_iload hx hb dX3_good_156 (lv_at hl 5 rfl) ?_
    refine ia_ld (k := bey w.1 t j u) hx hb hK hP 2 0 rfl rfl (by omega) (by decide) dX3_good_158 ?_
    refine W.eq (g2 := F0 m 159 ls [.int (nI (w.1.2.1 (bey w.1 t j u))), .int (nI (w.1.2.1 (gc w.1 t (j + 2))))]) rfl ?_
    have bd_16 := hv.1.2.1 (bey w.1 t j u)
    refine lv_isub hx hb dX3_good_159 ?_
    refine rt_i (y := (iI ((((w.1.2.1 (gc w.1 t (j + 2)) : Nat) : Int)) - (((w.1.2.1 (bey w.1 t j u) : Nat) : Int))))) (nn_sub (w.1.2.1 (gc w.1 t (j + 2))) (w.1.2.1 (bey w.1 t j u))) ?_
    refine lv_i2l (v := lI ((((w.1.2.1 (gc w.1 t (j + 2)) : Nat) : Int)) - (((w.1.2.1 (bey w.1 t j u) : Nat) : Int)))) hx hb dX3_good_160 (zI_l (⟨by omega, by omega⟩)) ?_
    refine lv_lstore (lv' := [(15, .long (lI ((((w.1.2.1 (gc w.1 t (j + 2)) : Nat) : Int)) - (((w.1.2.1 (bey w.1 t j u) : Nat) : Int))))), (13, .long (lI ((((w.1.1 (gc w.1 t (j + 2)) : Nat) : Int)) - (((w.1.1 (bey w.1 t j u) : Nat) : Int))))), (11, .long (lI ((((w.1.2.1 (gc w.1 t (j + 1)) : Nat) : Int)) - (((w.1.2.1 (bey w.1 t j u) : Nat) : Int))))), (9, .long (lI ((((w.1.1 (gc w.1 t (j + 1)) : Nat) : Int)) - (((w.1.1 (bey w.1 t j u) : Nat) : Int))))), (7, .long (lI ((((w.1.2.1 (gc w.1 t j) : Nat) : Int)) - (((w.1.2.1 (bey w.1 t j u) : Nat) : Int))))), (5, .long (lI ((((w.1.1 (gc w.1 t j) : Nat) : Int)) - (((w.1.1 (bey w.1 t j u) : Nat) : Int))))), (4, .int (nI (bey w.1 t j u))), (3, .int (nI (u))), (0, .ref (b 0)), (1, .int (nI (t))), (2, .int (nI (j)))]) hx hb dX3_good_161 hl (by decide) rfl (fun ls hl => ?_)
    refine lv_lload hx hb dX3_good_163 (lv_at hl 5 rfl) ?_
    refine lv_lload hx hb dX3_good_165 (lv_at hl 4 rfl) ?_
    refine lv_lload hx hb dX3_good_167 (lv_at hl 5 rfl) ?_
    refine lv_lload hx hb dX3_good_169 (lv_at hl 5 rfl) ?_
    refine lv_lmul hx hb dX3_good_171 ?_
    refine rt_l (y := (lI (((((w.1.1 (gc w.1 t j) : Nat) : Int)) - (((w.1.1 (bey w.1 t j u) : Nat) : Int))) * ((((w.1.1 (gc w.1 t j) : Nat) : Int)) - (((w.1.1 (bey w.1 t j u) : Nat) : Int)))))) (lI_mul ((((w.1.1 (gc w.1 t j) : Nat) : Int)) - (((w.1.1 (bey w.1 t j u) : Nat) : Int))) ((((w.1.1 (gc w.1 t j) : Nat) : Int)) - (((w.1.1 (bey w.1 t j u) : Nat) : Int)))) ?_
    refine lv_lload hx hb dX3_good_172 (lv_at hl 4 rfl) ?_
    refine lv_lload hx hb dX3_good_174 (lv_at hl 4 rfl) ?_
    refine lv_lmul hx hb dX3_good_176 ?_
    refine rt_l (y := (lI (((((w.1.2.1 (gc w.1 t j) : Nat) : Int)) - (((w.1.2.1 (bey w.1 t j u) : Nat) : Int))) * ((((w.1.2.1 (gc w.1 t j) : Nat) : Int)) - (((w.1.2.1 (bey w.1 t j u) : Nat) : Int)))))) (lI_mul ((((w.1.2.1 (gc w.1 t j) : Nat) : Int)) - (((w.1.2.1 (bey w.1 t j u) : Nat) : Int))) ((((w.1.2.1 (gc w.1 t j) : Nat) : Int)) - (((w.1.2.1 (bey w.1 t j u) : Nat) : Int)))) ?_
    refine lv_ladd hx hb dX3_good_177 ?_
    refine rt_l (y := (lI ((((((w.1.1 (gc w.1 t j) : Nat) : Int)) - (((w.1.1 (bey w.1 t j u) : Nat) : Int))) * ((((w.1.1 (gc w.1 t j) : Nat) : Int)) - (((w.1.1 (bey w.1 t j u) : Nat) : Int)))) + (((((w.1.2.1 (gc w.1 t j) : Nat) : Int)) - (((w.1.2.1 (bey w.1 t j u) : Nat) : Int))) * ((((w.1.2.1 (gc w.1 t j) : Nat) : Int)) - (((w.1.2.1 (bey w.1 t j u) : Nat) : Int))))))) (lI_add (((((w.1.1 (gc w.1 t j) : Nat) : Int)) - (((w.1.1 (bey w.1 t j u) : Nat) : Int))) * ((((w.1.1 (gc w.1 t j) : Nat) : Int)) - (((w.1.1 (bey w.1 t j u) : Nat) : Int)))) (((((w.1.2.1 (gc w.1 t j) : Nat) : Int)) - (((w.1.2.1 (bey w.1 t j u) : Nat) : Int))) * ((((w.1.2.1 (gc w.1 t j) : Nat) : Int)) - (((w.1.2.1 (bey w.1 t j u) : Nat) : Int))))) ?_
    refine lv_lload hx hb dX3_good_178 (lv_at hl 3 rfl) ?_
    refine lv_lload hx hb dX3_good_180 (lv_at hl 2 rfl) ?_
    refine lv_lload hx hb dX3_good_182 (lv_at hl 3 rfl) ?_
    refine lv_lload hx hb dX3_good_184 (lv_at hl 3 rfl) ?_
    refine lv_lmul hx hb dX3_good_186 ?_
    refine rt_l (y := (lI (((((w.1.1 (gc w.1 t (j + 1)) : Nat) : Int)) - (((w.1.1 (bey w.1 t j u) : Nat) : Int))) * ((((w.1.1 (gc w.1 t (j + 1)) : Nat) : Int)) - (((w.1.1 (bey w.1 t j u) : Nat) : Int)))))) (lI_mul ((((w.1.1 (gc w.1 t (j + 1)) : Nat) : Int)) - (((w.1.1 (bey w.1 t j u) : Nat) : Int))) ((((w.1.1 (gc w.1 t (j + 1)) : Nat) : Int)) - (((w.1.1 (bey w.1 t j u) : Nat) : Int)))) ?_
    refine lv_lload hx hb dX3_good_187 (lv_at hl 2 rfl) ?_
    refine lv_lload hx hb dX3_good_189 (lv_at hl 2 rfl) ?_
    refine lv_lmul hx hb dX3_good_191 ?_
    refine rt_l (y := (lI (((((w.1.2.1 (gc w.1 t (j + 1)) : Nat) : Int)) - (((w.1.2.1 (bey w.1 t j u) : Nat) : Int))) * ((((w.1.2.1 (gc w.1 t (j + 1)) : Nat) : Int)) - (((w.1.2.1 (bey w.1 t j u) : Nat) : Int)))))) (lI_mul ((((w.1.2.1 (gc w.1 t (j + 1)) : Nat) : Int)) - (((w.1.2.1 (bey w.1 t j u) : Nat) : Int))) ((((w.1.2.1 (gc w.1 t (j + 1)) : Nat) : Int)) - (((w.1.2.1 (bey w.1 t j u) : Nat) : Int)))) ?_
    refine lv_ladd hx hb dX3_good_192 ?_
    refine rt_l (y := (lI ((((((w.1.1 (gc w.1 t (j + 1)) : Nat) : Int)) - (((w.1.1 (bey w.1 t j u) : Nat) : Int))) * ((((w.1.1 (gc w.1 t (j + 1)) : Nat) : Int)) - (((w.1.1 (bey w.1 t j u) : Nat) : Int)))) + (((((w.1.2.1 (gc w.1 t (j + 1)) : Nat) : Int)) - (((w.1.2.1 (bey w.1 t j u) : Nat) : Int))) * ((((w.1.2.1 (gc w.1 t (j + 1)) : Nat) : Int)) - (((w.1.2.1 (bey w.1 t j u) : Nat) : Int))))))) (lI_add (((((w.1.1 (gc w.1 t (j + 1)) : Nat) : Int)) - (((w.1.1 (bey w.1 t j u) : Nat) : Int))) * ((((w.1.1 (gc w.1 t (j + 1)) : Nat) : Int)) - (((w.1.1 (bey w.1 t j u) : Nat) : Int)))) (((((w.1.2.1 (gc w.1 t (j + 1)) : Nat) : Int)) - (((w.1.2.1 (bey w.1 t j u) : Nat) : Int))) * ((((w.1.2.1 (gc w.1 t (j + 1)) : Nat) : Int)) - (((w.1.2.1 (bey w.1 t j u) : Nat) : Int))))) ?_
    refine lv_lload hx hb dX3_good_193 (lv_at hl 1 rfl) ?_
    refine lv_lload hx hb dX3_good_195 (lv_at hl 0 rfl) ?_
    refine lv_lload hx hb dX3_good_197 (lv_at hl 1 rfl) ?_
    refine lv_lload hx hb dX3_good_199 (lv_at hl 1 rfl) ?_
    refine lv_lmul hx hb dX3_good_201 ?_
    refine rt_l (y := (lI (((((w.1.1 (gc w.1 t (j + 2)) : Nat) : Int)) - (((w.1.1 (bey w.1 t j u) : Nat) : Int))) * ((((w.1.1 (gc w.1 t (j + 2)) : Nat) : Int)) - (((w.1.1 (bey w.1 t j u) : Nat) : Int)))))) (lI_mul ((((w.1.1 (gc w.1 t (j + 2)) : Nat) : Int)) - (((w.1.1 (bey w.1 t j u) : Nat) : Int))) ((((w.1.1 (gc w.1 t (j + 2)) : Nat) : Int)) - (((w.1.1 (bey w.1 t j u) : Nat) : Int)))) ?_
    refine lv_lload hx hb dX3_good_202 (lv_at hl 0 rfl) ?_
    refine lv_lload hx hb dX3_good_204 (lv_at hl 0 rfl) ?_
    refine lv_lmul hx hb dX3_good_206 ?_
    refine rt_l (y := (lI (((((w.1.2.1 (gc w.1 t (j + 2)) : Nat) : Int)) - (((w.1.2.1 (bey w.1 t j u) : Nat) : Int))) * ((((w.1.2.1 (gc w.1 t (j + 2)) : Nat) : Int)) - (((w.1.2.1 (bey w.1 t j u) : Nat) : Int)))))) (lI_mul ((((w.1.2.1 (gc w.1 t (j + 2)) : Nat) : Int)) - (((w.1.2.1 (bey w.1 t j u) : Nat) : Int))) ((((w.1.2.1 (gc w.1 t (j + 2)) : Nat) : Int)) - (((w.1.2.1 (bey w.1 t j u) : Nat) : Int)))) ?_
    refine lv_ladd hx hb dX3_good_207 ?_
    refine rt_l (y := (lI ((((((w.1.1 (gc w.1 t (j + 2)) : Nat) : Int)) - (((w.1.1 (bey w.1 t j u) : Nat) : Int))) * ((((w.1.1 (gc w.1 t (j + 2)) : Nat) : Int)) - (((w.1.1 (bey w.1 t j u) : Nat) : Int)))) + (((((w.1.2.1 (gc w.1 t (j + 2)) : Nat) : Int)) - (((w.1.2.1 (bey w.1 t j u) : Nat) : Int))) * ((((w.1.2.1 (gc w.1 t (j + 2)) : Nat) : Int)) - (((w.1.2.1 (bey w.1 t j u) : Nat) : Int))))))) (lI_add (((((w.1.1 (gc w.1 t (j + 2)) : Nat) : Int)) - (((w.1.1 (bey w.1 t j u) : Nat) : Int))) * ((((w.1.1 (gc w.1 t (j + 2)) : Nat) : Int)) - (((w.1.1 (bey w.1 t j u) : Nat) : Int)))) (((((w.1.2.1 (gc w.1 t (j + 2)) : Nat) : Int)) - (((w.1.2.1 (bey w.1 t j u) : Nat) : Int))) * ((((w.1.2.1 (gc w.1 t (j + 2)) : Nat) : Int)) - (((w.1.2.1 (bey w.1 t j u) : Nat) : Int))))) ?_
    refine ro_S (As := [.long (lI ((((w.1.1 (gc w.1 t j) : Nat) : Int)) - (((w.1.1 (bey w.1 t j u) : Nat) : Int)))), .long (lI ((((w.1.2.1 (gc w.1 t j) : Nat) : Int)) - (((w.1.2.1 (bey w.1 t j u) : Nat) : Int)))), .long (lI ((((((w.1.1 (gc w.1 t j) : Nat) : Int)) - (((w.1.1 (bey w.1 t j u) : Nat) : Int))) * ((((w.1.1 (gc w.1 t j) : Nat) : Int)) - (((w.1.1 (bey w.1 t j u) : Nat) : Int)))) + (((((w.1.2.1 (gc w.1 t j) : Nat) : Int)) - (((w.1.2.1 (bey w.1 t j u) : Nat) : Int))) * ((((w.1.2.1 (gc w.1 t j) : Nat) : Int)) - (((w.1.2.1 (bey w.1 t j u) : Nat) : Int)))))), .long (lI ((((w.1.1 (gc w.1 t (j + 1)) : Nat) : Int)) - (((w.1.1 (bey w.1 t j u) : Nat) : Int)))), .long (lI ((((w.1.2.1 (gc w.1 t (j + 1)) : Nat) : Int)) - (((w.1.2.1 (bey w.1 t j u) : Nat) : Int)))), .long (lI ((((((w.1.1 (gc w.1 t (j + 1)) : Nat) : Int)) - (((w.1.1 (bey w.1 t j u) : Nat) : Int))) * ((((w.1.1 (gc w.1 t (j + 1)) : Nat) : Int)) - (((w.1.1 (bey w.1 t j u) : Nat) : Int)))) + (((((w.1.2.1 (gc w.1 t (j + 1)) : Nat) : Int)) - (((w.1.2.1 (bey w.1 t j u) : Nat) : Int))) * ((((w.1.2.1 (gc w.1 t (j + 1)) : Nat) : Int)) - (((w.1.2.1 (bey w.1 t j u) : Nat) : Int)))))), .long (lI ((((w.1.1 (gc w.1 t (j + 2)) : Nat) : Int)) - (((w.1.1 (bey w.1 t j u) : Nat) : Int)))), .long (lI ((((w.1.2.1 (gc w.1 t (j + 2)) : Nat) : Int)) - (((w.1.2.1 (bey w.1 t j u) : Nat) : Int)))), .long (lI ((((((w.1.1 (gc w.1 t (j + 2)) : Nat) : Int)) - (((w.1.1 (bey w.1 t j u) : Nat) : Int))) * ((((w.1.1 (gc w.1 t (j + 2)) : Nat) : Int)) - (((w.1.1 (bey w.1 t j u) : Nat) : Int)))) + (((((w.1.2.1 (gc w.1 t (j + 2)) : Nat) : Int)) - (((w.1.2.1 (bey w.1 t j u) : Nat) : Int))) * ((((w.1.2.1 (gc w.1 t (j + 2)) : Nat) : Int)) - (((w.1.2.1 (bey w.1 t j u) : Nat) : Int))))))]) (rest := []) hx hb hml hown hts (c_X3_determinant l dC dI  ((((w.1.1 (gc w.1 t j) : Nat) : Int)) - (((w.1.1 (bey w.1 t j u) : Nat) : Int))) ((((w.1.2.1 (gc w.1 t j) : Nat) : Int)) - (((w.1.2.1 (bey w.1 t j u) : Nat) : Int))) ((((((w.1.1 (gc w.1 t j) : Nat) : Int)) - (((w.1.1 (bey w.1 t j u) : Nat) : Int))) * ((((w.1.1 (gc w.1 t j) : Nat) : Int)) - (((w.1.1 (bey w.1 t j u) : Nat) : Int)))) + (((((w.1.2.1 (gc w.1 t j) : Nat) : Int)) - (((w.1.2.1 (bey w.1 t j u) : Nat) : Int))) * ((((w.1.2.1 (gc w.1 t j) : Nat) : Int)) - (((w.1.2.1 (bey w.1 t j u) : Nat) : Int))))) ((((w.1.1 (gc w.1 t (j + 1)) : Nat) : Int)) - (((w.1.1 (bey w.1 t j u) : Nat) : Int))) ((((w.1.2.1 (gc w.1 t (j + 1)) : Nat) : Int)) - (((w.1.2.1 (bey w.1 t j u) : Nat) : Int))) ((((((w.1.1 (gc w.1 t (j + 1)) : Nat) : Int)) - (((w.1.1 (bey w.1 t j u) : Nat) : Int))) * ((((w.1.1 (gc w.1 t (j + 1)) : Nat) : Int)) - (((w.1.1 (bey w.1 t j u) : Nat) : Int)))) + (((((w.1.2.1 (gc w.1 t (j + 1)) : Nat) : Int)) - (((w.1.2.1 (bey w.1 t j u) : Nat) : Int))) * ((((w.1.2.1 (gc w.1 t (j + 1)) : Nat) : Int)) - (((w.1.2.1 (bey w.1 t j u) : Nat) : Int))))) ((((w.1.1 (gc w.1 t (j + 2)) : Nat) : Int)) - (((w.1.1 (bey w.1 t j u) : Nat) : Int))) ((((w.1.2.1 (gc w.1 t (j + 2)) : Nat) : Int)) - (((w.1.2.1 (bey w.1 t j u) : Nat) : Int))) ((((((w.1.1 (gc w.1 t (j + 2)) : Nat) : Int)) - (((w.1.1 (bey w.1 t j u) : Nat) : Int))) * ((((w.1.1 (gc w.1 t (j + 2)) : Nat) : Int)) - (((w.1.1 (bey w.1 t j u) : Nat) : Int)))) + (((((w.1.2.1 (gc w.1 t (j + 2)) : Nat) : Int)) - (((w.1.2.1 (bey w.1 t j u) : Nat) : Int))) * ((((w.1.2.1 (gc w.1 t (j + 2)) : Nat) : Int)) - (((w.1.2.1 (bey w.1 t j u) : Nat) : Int))))) ) (va_cwS 9 hts gX3_good_X3_determinant rfl rfl rfl (by decide +kernel) ⟨Nat.le_of_ble_eq_true rfl, Nat.le_of_ble_eq_true rfl⟩) (hK.sub [] rfl) (hP.sub [] rfl) rfl hl.1 rfl (Nat.le_of_ble_eq_true rfl) dX3_good_208 ⟨Nat.zero_le _, Nat.zero_le _⟩ ?_
    refine rt_l (y := (lI (ded w.1 (gc w.1 t j) (gc w.1 t (j + 1)) (gc w.1 t (j + 2)) (bey w.1 t j u)))) rfl ?_
    refine lv_lconst (v := lI 0) hx hb dX3_good_211 (by decide) ?_
    refine W.lcmp hx hb dX3_good_212 ?_
    refine lv_if_gt (tgt := 220) hx hb dX3_good_213 (by decide) (fun c_17 => ?_) (fun c_17 => ?_)
    · skip
      have c_17 : 0 < (ded w.1 (gc w.1 t j) (gc w.1 t (j + 1)) (gc w.1 t (j + 2)) (bey w.1 t j u)) := (lc_gt (a := ded w.1 (gc w.1 t j) (gc w.1 t (j + 1)) (gc w.1 t (j + 2)) (bey w.1 t j u)) (b := 0) (ded_lok hv.1) lOk_0).mp c_17
      refine lv_iconst (v := nI (0)) hx hb dX3_good_220 (by decide) ?_
      exact ro_zret hx hb hr (by decide) (rb_0 (by rw [ho_u]; simp [god]; omega)) dX3_good_221 hlocks
    · skip
      have c_17 : ¬ (0 < (ded w.1 (gc w.1 t j) (gc w.1 t (j + 1)) (gc w.1 t (j + 2)) (bey w.1 t j u))) := fun hq9 => c_17 ((lc_gt (a := ded w.1 (gc w.1 t j) (gc w.1 t (j + 1)) (gc w.1 t (j + 2)) (bey w.1 t j u)) (b := 0) (ded_lok hv.1) lOk_0).mpr hq9)
      refine lv_iconst (v := nI (1)) hx hb dX3_good_216 (by decide) ?_
      refine lv_goto (tgt := 221) hx hb dX3_good_217 (by decide) ?_
      exact ro_zret hx hb hr (by decide) (rb_1 (by rw [ho_u]; simp [god]; omega)) dX3_good_221 hlocks
