set_option maxHeartbeats 4000000 in
set_option maxRecDepth 100000 in
theorem c_X0_came (l : Launch) (dC : Nat → ClassId) (dI : Nat → Nat → Nat) (cI cL cZ : ClassId) (a : Nat → Nat) (v : SV)   : Met l yX0_came wsX0_came ({ frames := 0, cells := 0, slots := 0, locals := 0 }) (va_Pc [.ref (a 1)] (ro_B (dC, dI) vwCl (wS cI cL a v) (tyS cI cL cZ))) (k2_QcV (.int (nI (sPn v)))) 0 0 (fun _ => False) := by
  refine ro_Met (cc := cX0_came) (maxL := 1) (ret := (some .int)) (by decide) rfl (Nat.le_of_ble_eq_true rfl) ?_
  intro pr en s m below meth co ls hx hb hml hr hlocks hown hts hP hK hl
  have hl : lv_has ls 1 [(0, .ref (a 1))] := hl
  have hown : s.vm.findClass RX0 = some m.cls := hown
  refine lv_aload_n hx hb dX0_came_0 rfl (lv_at hl 0 rfl) ?_
  refine va_get (D := (dC, dI)) (ci := 0) (v := .int (nI (sPn v))) (C := RX0) (T := TX0) (N := 3) hx hb hts (by decide +kernel) hown hK hP 1 rfl rfl 2 (by decide) (hts (.fieldLink RX0 18 "TriangleSheet$Points" "came" "I") (by decide +kernel)) (fun _ h9 => h9) rfl dX0_came_1 ?_
  exact ro_iret hx hb hr rfl dX0_came_4 hlocks
set_option maxHeartbeats 4000000 in
set_option maxRecDepth 100000 in
theorem c_X0_isPoint (l : Launch) (dC : Nat → ClassId) (dI : Nat → Nat → Nat) (cI cL cZ : ClassId) (a : Nat → Nat) (v : SV) (q : Int32) (hv : okS v) : Met l yX0_isPoint wsX0_isPoint ({ frames := 0, cells := 0, slots := 0, locals := 0 }) (va_Pc [.ref (a 1), .int (q)] (ro_B (dC, dI) vwCl (wS cI cL a v) (tyS cI cL cZ))) (k2_QcV (.int (bI (inB q (sPn v))))) 0 0 (fun _ => False) := by
  refine ro_Met (cc := cX0_isPoint) (maxL := 2) (ret := (some .boolean)) (by decide) rfl (Nat.le_of_ble_eq_true rfl) ?_
  intro pr en s m below meth co ls hx hb hml hr hlocks hown hts hP hK hl
  have hl : lv_has ls 2 [(0, .ref (a 1)), (1, .int (q))] := hl
  have hown : s.vm.findClass RX0 = some m.cls := hown
  have hvp : sPn v ≤ 60 ∧ sTn v ≤ 60 ∧ sTm v ≤ 200 := ⟨hv.2.1, hv.2.2.2.1, hv.2.2.2.2.1⟩
  refine lv_iload_n hx hb dX0_isPoint_0 rfl (lv_at hl 1 rfl) ?_
  refine lv_if_lt (tgt := 16) hx hb dX0_isPoint_1 (by decide) (fun c_1 => ?_) (fun c_1 => ?_)
  · skip
    refine lv_iconst (v := nI (0)) hx hb dX0_isPoint_16 (by decide) ?_
    exact ro_zret hx hb hr (by decide) (rb_0 (by first | exact inB_neg (by assumption) | exact inB_big (by omega) (by assumption))) dX0_isPoint_17 hlocks
  · skip
    refine lv_iload_n hx hb dX0_isPoint_4 rfl (lv_at hl 1 rfl) ?_
    refine lv_aload_n hx hb dX0_isPoint_5 rfl (lv_at hl 0 rfl) ?_
    refine va_get (D := (dC, dI)) (ci := 0) (v := .int (nI (sPn v))) (C := RX0) (T := TX0) (N := 3) hx hb hts (by decide +kernel) hown hK hP 1 rfl rfl 2 (by decide) (hts (.fieldLink RX0 18 "TriangleSheet$Points" "came" "I") (by decide +kernel)) (fun _ h9 => h9) rfl dX0_isPoint_6 ?_
    refine lv_icmp_ge (tgt := 16) hx hb dX0_isPoint_9 (by decide) (fun c_2 => ?_) (fun c_2 => ?_)
    · skip
      refine lv_iconst (v := nI (0)) hx hb dX0_isPoint_16 (by decide) ?_
      exact ro_zret hx hb hr (by decide) (rb_0 (by first | exact inB_neg (by assumption) | exact inB_big (by omega) (by assumption))) dX0_isPoint_17 hlocks
    · skip
      refine lv_iconst (v := nI (1)) hx hb dX0_isPoint_12 (by decide) ?_
      refine lv_goto (tgt := 17) hx hb dX0_isPoint_13 (by decide) ?_
      exact ro_zret hx hb hr (by decide) (rb_1 (by exact inB_in (by omega) (by assumption) (by assumption))) dX0_isPoint_17 hlocks
set_option maxHeartbeats 4000000 in
set_option maxRecDepth 100000 in
theorem c_X0_x (l : Launch) (dC : Nat → ClassId) (dI : Nat → Nat → Nat) (cI cL cZ : ClassId) (a : Nat → Nat) (v : SV) (q : Nat) (hq : q < 60) : Met l yX0_x wsX0_x ({ frames := 0, cells := 0, slots := 0, locals := 0 }) (va_Pc [.ref (a 1), .int (nI (q))] (ro_B (dC, dI) vwCl (wS cI cL a v) (tyS cI cL cZ))) (k2_QcV (.int (nI (v.1.1 q)))) 0 0 (fun _ => False) := by
  refine ro_Met (cc := cX0_x) (maxL := 2) (ret := (some .int)) (by decide) rfl (Nat.le_of_ble_eq_true rfl) ?_
  intro pr en s m below meth co ls hx hb hml hr hlocks hown hts hP hK hl
  have hl : lv_has ls 2 [(0, .ref (a 1)), (1, .int (nI (q)))] := hl
  have hown : s.vm.findClass RX0 = some m.cls := hown
  refine lv_aload_n hx hb dX0_x_0 rfl (lv_at hl 0 rfl) ?_
  refine va_get (D := (dC, dI)) (ci := 0) (v := .ref (a 2)) (C := RX0) (T := TX0) (N := 3) hx hb hts (by decide +kernel) hown hK hP 1 rfl rfl 0 (by decide) (hts (.fieldLink RX0 9 "TriangleSheet$Points" "xs" "[I") (by decide +kernel)) (fun _ h9 => h9) rfl dX0_x_1 ?_
  refine lv_iload_n hx hb dX0_x_4 rfl (lv_at hl 1 rfl) ?_
  refine ia_ld (k := q) hx hb hK hP 2 0 rfl rfl (by omega) (by decide) dX0_x_5 ?_
  refine W.eq (g2 := F0 m 6 ls [.int (nI (v.1.1 (q)))]) rfl ?_
  exact ro_iret hx hb hr rfl dX0_x_6 hlocks
set_option maxHeartbeats 4000000 in
set_option maxRecDepth 100000 in
theorem c_X0_y (l : Launch) (dC : Nat → ClassId) (dI : Nat → Nat → Nat) (cI cL cZ : ClassId) (a : Nat → Nat) (v : SV) (q : Nat) (hq : q < 60) : Met l yX0_y wsX0_y ({ frames := 0, cells := 0, slots := 0, locals := 0 }) (va_Pc [.ref (a 1), .int (nI (q))] (ro_B (dC, dI) vwCl (wS cI cL a v) (tyS cI cL cZ))) (k2_QcV (.int (nI (v.1.2.1 q)))) 0 0 (fun _ => False) := by
  refine ro_Met (cc := cX0_y) (maxL := 2) (ret := (some .int)) (by decide) rfl (Nat.le_of_ble_eq_true rfl) ?_
  intro pr en s m below meth co ls hx hb hml hr hlocks hown hts hP hK hl
  have hl : lv_has ls 2 [(0, .ref (a 1)), (1, .int (nI (q)))] := hl
  have hown : s.vm.findClass RX0 = some m.cls := hown
  refine lv_aload_n hx hb dX0_y_0 rfl (lv_at hl 0 rfl) ?_
  refine va_get (D := (dC, dI)) (ci := 0) (v := .ref (a 3)) (C := RX0) (T := TX0) (N := 3) hx hb hts (by decide +kernel) hown hK hP 1 rfl rfl 1 (by decide) (hts (.fieldLink RX0 15 "TriangleSheet$Points" "ys" "[I") (by decide +kernel)) (fun _ h9 => h9) rfl dX0_y_1 ?_
  refine lv_iload_n hx hb dX0_y_4 rfl (lv_at hl 1 rfl) ?_
  refine ia_ld (k := q) hx hb hK hP 3 0 rfl rfl (by omega) (by decide) dX0_y_5 ?_
  refine W.eq (g2 := F0 m 6 ls [.int (nI (v.1.2.1 (q)))]) rfl ?_
  exact ro_iret hx hb hr rfl dX0_y_6 hlocks
set_option maxHeartbeats 4000000 in
set_option maxRecDepth 100000 in
theorem c_X0_pointAt (l : Launch) (dC : Nat → ClassId) (dI : Nat → Nat → Nat) (cI cL cZ : ClassId) (a : Nat → Nat) (v : SV) (x y : Int32) (hv : okS v) : Met l yX0_pointAt wsX0_pointAt ({ frames := 0, cells := 0, slots := 0, locals := 0 }) (va_Pc [.ref (a 1), .int (x), .int (y)] (ro_B (dC, dI) vwCl (wS cI cL a v) (tyS cI cL cZ))) (k2_QcV (.int (oI (pAt v.1 (sPn v) x y)))) 0 0 (fun _ => False) := by
  refine ro_Met (cc := cX0_pointAt) (maxL := 4) (ret := (some .int)) (by decide) rfl (Nat.le_of_ble_eq_true rfl) ?_
  intro pr en s m below meth co ls hx hb hml hr hlocks hown hts hP hK hl
  have hl : lv_has ls 4 [(0, .ref (a 1)), (1, .int (x)), (2, .int (y))] := hl
  have hown : s.vm.findClass RX0 = some m.cls := hown
  have hvp : sPn v ≤ 60 ∧ sTn v ≤ 60 ∧ sTm v ≤ 200 := ⟨hv.2.1, hv.2.2.2.1, hv.2.2.2.2.1⟩
  refine lv_iconst (v := nI (0)) hx hb dX0_pointAt_0 (by decide) ?_
  refine lv_istore_n (lv' := [(3, .int (nI (0))), (0, .ref (a 1)), (1, .int (x)), (2, .int (y))]) hx hb dX0_pointAt_1 rfl hl (by decide) rfl (fun ls hl => ?_)
  refine lp (σ := Nat) (LV := fun n => [(0, .ref (a 1)), (1, .int (x)), (2, .int (y)), (3, .int (nI (n)))]) (I := fun k n => n + k = sPn v ∧ pAt v.1 (sPn v) x y = fnd (fun q => decide (nI (v.1.1 q) = x) && decide (nI (v.1.2.1 q) = y)) k n) (fun k n ls hI_k hl ih_k => ?_) (sPn v) (0) ls ⟨by omega, rfl⟩ (lv_sub hl [1, 2, 3, 0] rfl)
  obtain ⟨hk, hi⟩ := hI_k
  refine lv_iload_n hx hb dX0_pointAt_2 rfl (lv_at hl 3 rfl) ?_
  refine lv_aload_n hx hb dX0_pointAt_3 rfl (lv_at hl 0 rfl) ?_
  refine va_get (D := (dC, dI)) (ci := 0) (v := .int (nI (sPn v))) (C := RX0) (T := TX0) (N := 3) hx hb hts (by decide +kernel) hown hK hP 1 rfl rfl 2 (by decide) (hts (.fieldLink RX0 18 "TriangleSheet$Points" "came" "I") (by decide +kernel)) (fun _ h9 => h9) rfl dX0_pointAt_4 ?_
  refine lv_icmp_ge (tgt := 38) hx hb dX0_pointAt_7 (by decide) (fun c_1 => ?_) (fun c_1 => ?_)
  · skip
    have c_1 : sPn v ≤ n := (nI_leI (a := sPn v) (b := n) (by omega) (by omega)).mp c_1
    refine lv_iconst (v := iI (-1)) hx hb dX0_pointAt_38 (by decide) ?_
    exact ro_iret hx hb hr (rO (by rw [hi, show k = 0 by omega]; rfl)) dX0_pointAt_39 hlocks
  · skip
    have c_1 : ¬ (sPn v ≤ n) := fun hq9 => c_1 ((nI_leI (a := sPn v) (b := n) (by omega) (by omega)).mpr hq9)
    refine lv_aload_n hx hb dX0_pointAt_10 rfl (lv_at hl 0 rfl) ?_
    refine va_get (D := (dC, dI)) (ci := 0) (v := .ref (a 2)) (C := RX0) (T := TX0) (N := 3) hx hb hts (by decide +kernel) hown hK hP 1 rfl rfl 0 (by decide) (hts (.fieldLink RX0 9 "TriangleSheet$Points" "xs" "[I") (by decide +kernel)) (fun _ h9 => h9) rfl dX0_pointAt_11 ?_
    refine lv_iload_n hx hb dX0_pointAt_14 rfl (lv_at hl 3 rfl) ?_
    refine ia_ld (k := n) hx hb hK hP 2 0 rfl rfl (by omega) (by decide) dX0_pointAt_15 ?_
    refine W.eq (g2 := F0 m 16 ls [.int (nI (v.1.1 (n)))]) rfl ?_
    have bd_2 := hv.1.1 (n)
    refine lv_iload_n hx hb dX0_pointAt_16 rfl (lv_at hl 1 rfl) ?_
    refine lv_icmp_ne (tgt := 32) hx hb dX0_pointAt_17 (by decide) (fun c_3 => ?_) (fun c_3 => ?_)
    · skip
      refine lv_iinc (v := nI (n + 1)) (lv' := [(3, .int (nI (n + 1))), (0, .ref (a 1)), (1, .int (x)), (2, .int (y))]) hx hb dX0_pointAt_32 hl (k := 3) rfl (nI_1 (n)) (by decide) rfl (fun ls hl => ?_)
      refine lv_goto (tgt := 2) hx hb dX0_pointAt_35 (by decide) ?_
      exact ih_k (k - 1) (n + 1) ls (by omega) ⟨by omega, hi.trans (fnd_miss (by omega) (by simp [c_1, c_3]))⟩ (lv_sub hl [1, 2, 3, 0] rfl)
    · skip
      refine lv_aload_n hx hb dX0_pointAt_20 rfl (lv_at hl 0 rfl) ?_
      refine va_get (D := (dC, dI)) (ci := 0) (v := .ref (a 3)) (C := RX0) (T := TX0) (N := 3) hx hb hts (by decide +kernel) hown hK hP 1 rfl rfl 1 (by decide) (hts (.fieldLink RX0 15 "TriangleSheet$Points" "ys" "[I") (by decide +kernel)) (fun _ h9 => h9) rfl dX0_pointAt_21 ?_
      refine lv_iload_n hx hb dX0_pointAt_24 rfl (lv_at hl 3 rfl) ?_
      refine ia_ld (k := n) hx hb hK hP 3 0 rfl rfl (by omega) (by decide) dX0_pointAt_25 ?_
      refine W.eq (g2 := F0 m 26 ls [.int (nI (v.1.2.1 (n)))]) rfl ?_
      have bd_4 := hv.1.2.1 (n)
      refine lv_iload_n hx hb dX0_pointAt_26 rfl (lv_at hl 2 rfl) ?_
      refine lv_icmp_ne (tgt := 32) hx hb dX0_pointAt_27 (by decide) (fun c_5 => ?_) (fun c_5 => ?_)
      · skip
        refine lv_iinc (v := nI (n + 1)) (lv' := [(3, .int (nI (n + 1))), (0, .ref (a 1)), (1, .int (x)), (2, .int (y))]) hx hb dX0_pointAt_32 hl (k := 3) rfl (nI_1 (n)) (by decide) rfl (fun ls hl => ?_)
        refine lv_goto (tgt := 2) hx hb dX0_pointAt_35 (by decide) ?_
        exact ih_k (k - 1) (n + 1) ls (by omega) ⟨by omega, hi.trans (fnd_miss (by omega) (by simp [c_1, c_3, c_5]))⟩ (lv_sub hl [1, 2, 3, 0] rfl)
      · skip
        refine lv_iload_n hx hb dX0_pointAt_30 rfl (lv_at hl 3 rfl) ?_
        exact ro_iret hx hb hr (rO (by rw [hi, fnd_hit (by omega) (by simp [c_1, c_3, c_5])]; rfl)) dX0_pointAt_31 hlocks
set_option maxHeartbeats 4000000 in
set_option maxRecDepth 100000 in
theorem c_X0_canAdd (l : Launch) (dC : Nat → ClassId) (dI : Nat → Nat → Nat) (cI cL cZ : ClassId) (a : Nat → Nat) (v : SV) (x y : Int32) (hv : okS v) : Met l yX0_canAdd wsX0_canAdd ({ frames := 1, cells := 0, slots := 0, locals := 23 }) (va_Pc [.ref (a 1), .int (x), .int (y)] (ro_B (dC, dI) vwCl (wS cI cL a v) (tyS cI cL cZ))) (k2_QcV (.int (bI (decide (sPn v < 60) && decide (pAt v.1 (sPn v) x y = none))))) 0 0 (fun _ => False) := by
  refine ro_Met (cc := cX0_canAdd) (maxL := 3) (ret := (some .boolean)) (by decide) rfl (Nat.le_of_ble_eq_true rfl) ?_
  intro pr en s m below meth co ls hx hb hml hr hlocks hown hts hP hK hl
  have hl : lv_has ls 3 [(0, .ref (a 1)), (1, .int (x)), (2, .int (y))] := hl
  have hown : s.vm.findClass RX0 = some m.cls := hown
  have hvp : sPn v ≤ 60 ∧ sTn v ≤ 60 ∧ sTm v ≤ 200 := ⟨hv.2.1, hv.2.2.2.1, hv.2.2.2.2.1⟩
  refine lv_aload_n hx hb dX0_canAdd_0 rfl (lv_at hl 0 rfl) ?_
  refine va_get (D := (dC, dI)) (ci := 0) (v := .int (nI (sPn v))) (C := RX0) (T := TX0) (N := 3) hx hb hts (by decide +kernel) hown hK hP 1 rfl rfl 2 (by decide) (hts (.fieldLink RX0 18 "TriangleSheet$Points" "came" "I") (by decide +kernel)) (fun _ h9 => h9) rfl dX0_canAdd_1 ?_
  refine lv_bipush (v := nI (60)) hx hb dX0_canAdd_4 (by decide) ?_
  refine lv_icmp_ge (tgt := 23) hx hb dX0_canAdd_6 (by decide) (fun c_1 => ?_) (fun c_1 => ?_)
  · skip
    have c_1 : 60 ≤ sPn v := (nI_leI (a := 60) (b := sPn v) (by omega) (by omega)).mp c_1
    refine lv_iconst (v := nI (0)) hx hb dX0_canAdd_23 (by decide) ?_
    exact ro_zret hx hb hr (by decide) (rb_0 (by first | (simp [c_1]; done) | (simp; omega) | (simp [c_1]; omega))) dX0_canAdd_24 hlocks
  · skip
    have c_1 : ¬ (60 ≤ sPn v) := fun hq9 => c_1 ((nI_leI (a := 60) (b := sPn v) (by omega) (by omega)).mpr hq9)
    refine lv_aload_n hx hb dX0_canAdd_9 rfl (lv_at hl 0 rfl) ?_
    refine lv_iload_n hx hb dX0_canAdd_10 rfl (lv_at hl 1 rfl) ?_
    refine lv_iload_n hx hb dX0_canAdd_11 rfl (lv_at hl 2 rfl) ?_
    refine ro_V (As := [.int (x), .int (y)]) (rest := []) (q0 := 1) (ci := 0) hx hb hml hown hts (c_X0_pointAt l dC dI cI cL cZ a v x y hv) (cwV 2 hts gX0_canAdd_X0_pointAt rfl rfl rfl (by decide +kernel) ⟨Nat.le_of_ble_eq_true rfl, Nat.le_of_ble_eq_true rfl⟩) hK hP rfl rfl rfl hl.1 rfl (Nat.le_of_ble_eq_true rfl) dX0_canAdd_12 ⟨Nat.zero_le _, Nat.zero_le _⟩ ?_
    have ps_2 : ∀ k, pAt v.1 (sPn v) x y = some k → k < 2 ^ 31 := fun k h => by have := pAt_lt h; omega
    refine lv_iconst (v := iI (-1)) hx hb dX0_canAdd_15 (by decide) ?_
    refine lv_icmp_ne (tgt := 23) hx hb dX0_canAdd_16 (by decide) (fun c_3 => ?_) (fun c_3 => ?_)
    · skip
      have c_3 : ¬ (pAt v.1 (sPn v) x y) = none := fun hq9 => c_3 ((oI_m1 (by assumption)).mpr hq9)
      refine lv_iconst (v := nI (0)) hx hb dX0_canAdd_23 (by decide) ?_
      exact ro_zret hx hb hr (by decide) (rb_0 (by first | (simp [c_1, c_3]; done) | (simp; omega) | (simp [c_1, c_3]; omega))) dX0_canAdd_24 hlocks
    · skip
      have c_3 : (pAt v.1 (sPn v) x y) = none := (oI_m1 (by assumption)).mp c_3
      refine lv_iconst (v := nI (1)) hx hb dX0_canAdd_19 (by decide) ?_
      refine lv_goto (tgt := 24) hx hb dX0_canAdd_20 (by decide) ?_
      exact ro_zret hx hb hr (by decide) (rb_1 (by simp [c_1, c_3]; omega)) dX0_canAdd_24 hlocks
set_option maxHeartbeats 4000000 in
set_option maxRecDepth 100000 in
theorem c_X0_turnAt (l : Launch) (dC : Nat → ClassId) (dI : Nat → Nat → Nat) (cI cL cZ : ClassId) (a : Nat → Nat) (v : SV) (p q x y : Nat) (hp : p < 60) (hq : q < 60) : Met l yX0_turnAt wsX0_turnAt ({ frames := 0, cells := 0, slots := 0, locals := 0 }) (va_Pc [.ref (a 1), .int (nI (p)), .int (nI (q)), .int (nI (x)), .int (nI (y))] (ro_B (dC, dI) vwCl (wS cI cL a v) (tyS cI cL cZ))) (k2_QcV (.int (iI (tat v.1 p q (x : Int) (y : Int))))) 0 0 (fun _ => False) := by
  refine ro_Met (cc := cX0_turnAt) (maxL := 5) (ret := (some .int)) (by decide) rfl (Nat.le_of_ble_eq_true rfl) ?_
  intro pr en s m below meth co ls hx hb hml hr hlocks hown hts hP hK hl
  have hl : lv_has ls 5 [(0, .ref (a 1)), (1, .int (nI (p))), (2, .int (nI (q))), (3, .int (nI (x))), (4, .int (nI (y)))] := hl
  have hown : s.vm.findClass RX0 = some m.cls := hown
  refine lv_aload_n hx hb dX0_turnAt_0 rfl (lv_at hl 0 rfl) ?_
  refine va_get (D := (dC, dI)) (ci := 0) (v := .ref (a 2)) (C := RX0) (T := TX0) (N := 3) hx hb hts (by decide +kernel) hown hK hP 1 rfl rfl 0 (by decide) (hts (.fieldLink RX0 9 "TriangleSheet$Points" "xs" "[I") (by decide +kernel)) (fun _ h9 => h9) rfl dX0_turnAt_1 ?_
  refine lv_iload_n hx hb dX0_turnAt_4 rfl (lv_at hl 2 rfl) ?_
  refine ia_ld (k := q) hx hb hK hP 2 0 rfl rfl (by omega) (by decide) dX0_turnAt_5 ?_
  refine W.eq (g2 := F0 m 6 ls [.int (nI (v.1.1 (q)))]) rfl ?_
  refine lv_aload_n hx hb dX0_turnAt_6 rfl (lv_at hl 0 rfl) ?_
  refine va_get (D := (dC, dI)) (ci := 0) (v := .ref (a 2)) (C := RX0) (T := TX0) (N := 3) hx hb hts (by decide +kernel) hown hK hP 1 rfl rfl 0 (by decide) (hts (.fieldLink RX0 9 "TriangleSheet$Points" "xs" "[I") (by decide +kernel)) (fun _ h9 => h9) rfl dX0_turnAt_7 ?_
  refine lv_iload_n hx hb dX0_turnAt_10 rfl (lv_at hl 1 rfl) ?_
  refine ia_ld (k := p) hx hb hK hP 2 0 rfl rfl (by omega) (by decide) dX0_turnAt_11 ?_
  refine W.eq (g2 := F0 m 12 ls [.int (nI (v.1.1 (p))), .int (nI (v.1.1 (q)))]) rfl ?_
  refine lv_isub hx hb dX0_turnAt_12 ?_
  refine rt_i (y := (iI ((((v.1.1 (q) : Nat) : Int)) - (((v.1.1 (p) : Nat) : Int))))) (nn_sub (v.1.1 (q)) (v.1.1 (p))) ?_
  refine lv_iload hx hb dX0_turnAt_13 (lv_at hl 4 rfl) ?_
  refine lv_aload_n hx hb dX0_turnAt_15 rfl (lv_at hl 0 rfl) ?_
  refine va_get (D := (dC, dI)) (ci := 0) (v := .ref (a 3)) (C := RX0) (T := TX0) (N := 3) hx hb hts (by decide +kernel) hown hK hP 1 rfl rfl 1 (by decide) (hts (.fieldLink RX0 15 "TriangleSheet$Points" "ys" "[I") (by decide +kernel)) (fun _ h9 => h9) rfl dX0_turnAt_16 ?_
  refine lv_iload_n hx hb dX0_turnAt_19 rfl (lv_at hl 1 rfl) ?_
  refine ia_ld (k := p) hx hb hK hP 3 0 rfl rfl (by omega) (by decide) dX0_turnAt_20 ?_
  refine W.eq (g2 := F0 m 21 ls [.int (nI (v.1.2.1 (p))), .int (nI (y)), .int (iI ((((v.1.1 (q) : Nat) : Int)) - (((v.1.1 (p) : Nat) : Int))))]) rfl ?_
  refine lv_isub hx hb dX0_turnAt_21 ?_
  refine rt_i (y := (iI ((((y : Nat) : Int)) - (((v.1.2.1 (p) : Nat) : Int))))) (nn_sub (y) (v.1.2.1 (p))) ?_
  refine lv_imul hx hb dX0_turnAt_22 ?_
  refine rt_i (y := (iI (((((v.1.1 (q) : Nat) : Int)) - (((v.1.1 (p) : Nat) : Int))) * ((((y : Nat) : Int)) - (((v.1.2.1 (p) : Nat) : Int)))))) (zz_mul ((((v.1.1 (q) : Nat) : Int)) - (((v.1.1 (p) : Nat) : Int))) ((((y : Nat) : Int)) - (((v.1.2.1 (p) : Nat) : Int)))) ?_
  refine lv_aload_n hx hb dX0_turnAt_23 rfl (lv_at hl 0 rfl) ?_
  refine va_get (D := (dC, dI)) (ci := 0) (v := .ref (a 3)) (C := RX0) (T := TX0) (N := 3) hx hb hts (by decide +kernel) hown hK hP 1 rfl rfl 1 (by decide) (hts (.fieldLink RX0 15 "TriangleSheet$Points" "ys" "[I") (by decide +kernel)) (fun _ h9 => h9) rfl dX0_turnAt_24 ?_
  refine lv_iload_n hx hb dX0_turnAt_27 rfl (lv_at hl 2 rfl) ?_
  refine ia_ld (k := q) hx hb hK hP 3 0 rfl rfl (by omega) (by decide) dX0_turnAt_28 ?_
  refine W.eq (g2 := F0 m 29 ls [.int (nI (v.1.2.1 (q))), .int (iI (((((v.1.1 (q) : Nat) : Int)) - (((v.1.1 (p) : Nat) : Int))) * ((((y : Nat) : Int)) - (((v.1.2.1 (p) : Nat) : Int)))))]) rfl ?_
  refine lv_aload_n hx hb dX0_turnAt_29 rfl (lv_at hl 0 rfl) ?_
  refine va_get (D := (dC, dI)) (ci := 0) (v := .ref (a 3)) (C := RX0) (T := TX0) (N := 3) hx hb hts (by decide +kernel) hown hK hP 1 rfl rfl 1 (by decide) (hts (.fieldLink RX0 15 "TriangleSheet$Points" "ys" "[I") (by decide +kernel)) (fun _ h9 => h9) rfl dX0_turnAt_30 ?_
  refine lv_iload_n hx hb dX0_turnAt_33 rfl (lv_at hl 1 rfl) ?_
  refine ia_ld (k := p) hx hb hK hP 3 0 rfl rfl (by omega) (by decide) dX0_turnAt_34 ?_
  refine W.eq (g2 := F0 m 35 ls [.int (nI (v.1.2.1 (p))), .int (nI (v.1.2.1 (q))), .int (iI (((((v.1.1 (q) : Nat) : Int)) - (((v.1.1 (p) : Nat) : Int))) * ((((y : Nat) : Int)) - (((v.1.2.1 (p) : Nat) : Int)))))]) rfl ?_
  refine lv_isub hx hb dX0_turnAt_35 ?_
  refine rt_i (y := (iI ((((v.1.2.1 (q) : Nat) : Int)) - (((v.1.2.1 (p) : Nat) : Int))))) (nn_sub (v.1.2.1 (q)) (v.1.2.1 (p))) ?_
  refine lv_iload_n hx hb dX0_turnAt_36 rfl (lv_at hl 3 rfl) ?_
  refine lv_aload_n hx hb dX0_turnAt_37 rfl (lv_at hl 0 rfl) ?_
  refine va_get (D := (dC, dI)) (ci := 0) (v := .ref (a 2)) (C := RX0) (T := TX0) (N := 3) hx hb hts (by decide +kernel) hown hK hP 1 rfl rfl 0 (by decide) (hts (.fieldLink RX0 9 "TriangleSheet$Points" "xs" "[I") (by decide +kernel)) (fun _ h9 => h9) rfl dX0_turnAt_38 ?_
  refine lv_iload_n hx hb dX0_turnAt_41 rfl (lv_at hl 1 rfl) ?_
  refine ia_ld (k := p) hx hb hK hP 2 0 rfl rfl (by omega) (by decide) dX0_turnAt_42 ?_
  refine W.eq (g2 := F0 m 43 ls [.int (nI (v.1.1 (p))), .int (nI (x)), .int (iI ((((v.1.2.1 (q) : Nat) : Int)) - (((v.1.2.1 (p) : Nat) : Int)))), .int (iI (((((v.1.1 (q) : Nat) : Int)) - (((v.1.1 (p) : Nat) : Int))) * ((((y : Nat) : Int)) - (((v.1.2.1 (p) : Nat) : Int)))))]) rfl ?_
  refine lv_isub hx hb dX0_turnAt_43 ?_
  refine rt_i (y := (iI ((((x : Nat) : Int)) - (((v.1.1 (p) : Nat) : Int))))) (nn_sub (x) (v.1.1 (p))) ?_
  refine lv_imul hx hb dX0_turnAt_44 ?_
  refine rt_i (y := (iI (((((v.1.2.1 (q) : Nat) : Int)) - (((v.1.2.1 (p) : Nat) : Int))) * ((((x : Nat) : Int)) - (((v.1.1 (p) : Nat) : Int)))))) (zz_mul ((((v.1.2.1 (q) : Nat) : Int)) - (((v.1.2.1 (p) : Nat) : Int))) ((((x : Nat) : Int)) - (((v.1.1 (p) : Nat) : Int)))) ?_
  refine lv_isub hx hb dX0_turnAt_45 ?_
  refine rt_i (y := (iI ((((((v.1.1 (q) : Nat) : Int)) - (((v.1.1 (p) : Nat) : Int))) * ((((y : Nat) : Int)) - (((v.1.2.1 (p) : Nat) : Int)))) - (((((v.1.2.1 (q) : Nat) : Int)) - (((v.1.2.1 (p) : Nat) : Int))) * ((((x : Nat) : Int)) - (((v.1.1 (p) : Nat) : Int))))))) (zz_sub (((((v.1.1 (q) : Nat) : Int)) - (((v.1.1 (p) : Nat) : Int))) * ((((y : Nat) : Int)) - (((v.1.2.1 (p) : Nat) : Int)))) (((((v.1.2.1 (q) : Nat) : Int)) - (((v.1.2.1 (p) : Nat) : Int))) * ((((x : Nat) : Int)) - (((v.1.1 (p) : Nat) : Int))))) ?_
  exact ro_iret hx hb hr rfl dX0_turnAt_46 hlocks
set_option maxHeartbeats 4000000 in
set_option maxRecDepth 100000 in
theorem c_X0_turnOf (l : Launch) (dC : Nat → ClassId) (dI : Nat → Nat → Nat) (cI cL cZ : ClassId) (a : Nat → Nat) (v : SV) (p q r : Nat) (hp : p < 60) (hq : q < 60) (hr : r < 60) : Met l yX0_turnOf wsX0_turnOf ({ frames := 1, cells := 0, slots := 0, locals := 24 }) (va_Pc [.ref (a 1), .int (nI (p)), .int (nI (q)), .int (nI (r))] (ro_B (dC, dI) vwCl (wS cI cL a v) (tyS cI cL cZ))) (k2_QcV (.int (iI (tof v.1 p q r)))) 0 0 (fun _ => False) := by
  refine ro_Met (cc := cX0_turnOf) (maxL := 4) (ret := (some .int)) (by decide) rfl (Nat.le_of_ble_eq_true rfl) ?_
  intro pr en s m below meth co ls hx hb hml hr hlocks hown hts hP hK hl
  have hl : lv_has ls 4 [(0, .ref (a 1)), (1, .int (nI (p))), (2, .int (nI (q))), (3, .int (nI (r)))] := hl
  have hown : s.vm.findClass RX0 = some m.cls := hown
  refine lv_aload_n hx hb dX0_turnOf_0 rfl (lv_at hl 0 rfl) ?_
  refine lv_iload_n hx hb dX0_turnOf_1 rfl (lv_at hl 1 rfl) ?_
  refine lv_iload_n hx hb dX0_turnOf_2 rfl (lv_at hl 2 rfl) ?_
  refine lv_aload_n hx hb dX0_turnOf_3 rfl (lv_at hl 0 rfl) ?_
  refine va_get (D := (dC, dI)) (ci := 0) (v := .ref (a 2)) (C := RX0) (T := TX0) (N := 3) hx hb hts (by decide +kernel) hown hK hP 1 rfl rfl 0 (by decide) (hts (.fieldLink RX0 9 "TriangleSheet$Points" "xs" "[I") (by decide +kernel)) (fun _ h9 => h9) rfl dX0_turnOf_4 ?_
  refine lv_iload_n hx hb dX0_turnOf_7 rfl (lv_at hl 3 rfl) ?_
  refine ia_ld (k := r) hx hb hK hP 2 0 rfl rfl (by omega) (by decide) dX0_turnOf_8 ?_
  refine W.eq (g2 := F0 m 9 ls [.int (nI (v.1.1 (r))), .int (nI (q)), .int (nI (p)), .ref (a 1)]) rfl ?_
  refine lv_aload_n hx hb dX0_turnOf_9 rfl (lv_at hl 0 rfl) ?_
  refine va_get (D := (dC, dI)) (ci := 0) (v := .ref (a 3)) (C := RX0) (T := TX0) (N := 3) hx hb hts (by decide +kernel) hown hK hP 1 rfl rfl 1 (by decide) (hts (.fieldLink RX0 15 "TriangleSheet$Points" "ys" "[I") (by decide +kernel)) (fun _ h9 => h9) rfl dX0_turnOf_10 ?_
  refine lv_iload_n hx hb dX0_turnOf_13 rfl (lv_at hl 3 rfl) ?_
  refine ia_ld (k := r) hx hb hK hP 3 0 rfl rfl (by omega) (by decide) dX0_turnOf_14 ?_
  refine W.eq (g2 := F0 m 15 ls [.int (nI (v.1.2.1 (r))), .int (nI (v.1.1 (r))), .int (nI (q)), .int (nI (p)), .ref (a 1)]) rfl ?_
  refine ro_V (As := [.int (nI (p)), .int (nI (q)), .int (nI (v.1.1 (r))), .int (nI (v.1.2.1 (r)))]) (rest := []) (q0 := 1) (ci := 0) hx hb hml hown hts (c_X0_turnAt l dC dI cI cL cZ a v p q (v.1.1 (r)) (v.1.2.1 (r)) (by omega) (by omega)) (cwV 4 hts gX0_turnOf_X0_turnAt rfl rfl rfl (by decide +kernel) ⟨Nat.le_of_ble_eq_true rfl, Nat.le_of_ble_eq_true rfl⟩) hK hP rfl rfl rfl hl.1 rfl (Nat.le_of_ble_eq_true rfl) dX0_turnOf_15 ⟨Nat.zero_le _, Nat.zero_le _⟩ ?_
  exact ro_iret hx hb hr rfl dX0_turnOf_18 hlocks
set_option maxHeartbeats 4000000 in
set_option maxRecDepth 100000 in
theorem c_X0_areOpposite (l : Launch) (dC : Nat → ClassId) (dI : Nat → Nat → Nat)  (x y : Int) (hxo : zOk x) (hyo : zOk y) : Met l yX0_areOpposite wsX0_areOpposite ({ frames := 0, cells := 0, slots := 0, locals := 0 }) (va_Pc [.int (iI (x)), .int (iI (y))] (ro_B (dC, dI) vwCl [] [])) (k2_QcV (.int (bI (opp x y)))) 0 0 (fun _ => False) := by
  refine ro_Met (cc := cX0_areOpposite) (maxL := 2) (ret := (some .boolean)) (by decide) rfl (Nat.le_of_ble_eq_true rfl) ?_
  intro pr en s m below meth co ls hx hb hml hr hlocks hown hts hP hK hl
  have hl : lv_has ls 2 [(0, .int (iI (x))), (1, .int (iI (y)))] := hl
  have hown : s.vm.findClass RX0 = some m.cls := hown
  refine lv_iload_n hx hb dX0_areOpposite_0 rfl (lv_at hl 0 rfl) ?_
  refine lv_if_ge (tgt := 8) hx hb dX0_areOpposite_1 (by decide) (fun c_1 => ?_) (fun c_1 => ?_)
  · skip
    have c_1 : 0 ≤ x := (l0_le (by assumption)).mp c_1
    refine lv_iload_n hx hb dX0_areOpposite_8 rfl (lv_at hl 0 rfl) ?_
    refine lv_if_le (tgt := 20) hx hb dX0_areOpposite_9 (by decide) (fun c_2 => ?_) (fun c_2 => ?_)
    · skip
      have c_2 : x ≤ 0 := (z0_le (by assumption)).mp c_2
      refine lv_iconst (v := nI (0)) hx hb dX0_areOpposite_20 (by decide) ?_
      exact ro_zret hx hb hr (by decide) (rb_0 (by simp [opp]; omega)) dX0_areOpposite_21 hlocks
    · skip
      have c_2 : ¬ (x ≤ 0) := fun hq9 => c_2 ((z0_le (by assumption)).mpr hq9)
      refine lv_iload_n hx hb dX0_areOpposite_12 rfl (lv_at hl 1 rfl) ?_
      refine lv_if_ge (tgt := 20) hx hb dX0_areOpposite_13 (by decide) (fun c_3 => ?_) (fun c_3 => ?_)
      · skip
        have c_3 : 0 ≤ y := (l0_le (by assumption)).mp c_3
        refine lv_iconst (v := nI (0)) hx hb dX0_areOpposite_20 (by decide) ?_
        exact ro_zret hx hb hr (by decide) (rb_0 (by simp [opp]; omega)) dX0_areOpposite_21 hlocks
      · skip
        have c_3 : ¬ (0 ≤ y) := fun hq9 => c_3 ((l0_le (by assumption)).mpr hq9)
        refine lv_iconst (v := nI (1)) hx hb dX0_areOpposite_16 (by decide) ?_
        refine lv_goto (tgt := 21) hx hb dX0_areOpposite_17 (by decide) ?_
        exact ro_zret hx hb hr (by decide) (rb_1 (by simp [opp]; omega)) dX0_areOpposite_21 hlocks
  · skip
    have c_1 : ¬ (0 ≤ x) := fun hq9 => c_1 ((l0_le (by assumption)).mpr hq9)
    refine lv_iload_n hx hb dX0_areOpposite_4 rfl (lv_at hl 1 rfl) ?_
    refine lv_if_gt (tgt := 16) hx hb dX0_areOpposite_5 (by decide) (fun c_4 => ?_) (fun c_4 => ?_)
    · skip
      have c_4 : 0 < y := (l0_lt (by assumption)).mp c_4
      refine lv_iconst (v := nI (1)) hx hb dX0_areOpposite_16 (by decide) ?_
      refine lv_goto (tgt := 21) hx hb dX0_areOpposite_17 (by decide) ?_
      exact ro_zret hx hb hr (by decide) (rb_1 (by simp [opp]; omega)) dX0_areOpposite_21 hlocks
    · skip
      have c_4 : ¬ (0 < y) := fun hq9 => c_4 ((l0_lt (by assumption)).mpr hq9)
      refine lv_iload_n hx hb dX0_areOpposite_8 rfl (lv_at hl 0 rfl) ?_
      refine lv_if_le (tgt := 20) hx hb dX0_areOpposite_9 (by decide) (fun c_5 => ?_) (fun c_5 => ?_)
      · skip
        have c_5 : x ≤ 0 := (z0_le (by assumption)).mp c_5
        refine lv_iconst (v := nI (0)) hx hb dX0_areOpposite_20 (by decide) ?_
        exact ro_zret hx hb hr (by decide) (rb_0 (by simp [opp]; omega)) dX0_areOpposite_21 hlocks
      · skip
        have c_5 : ¬ (x ≤ 0) := fun hq9 => c_5 ((z0_le (by assumption)).mpr hq9)
        refine lv_iload_n hx hb dX0_areOpposite_12 rfl (lv_at hl 1 rfl) ?_
        refine lv_if_ge (tgt := 20) hx hb dX0_areOpposite_13 (by decide) (fun c_6 => ?_) (fun c_6 => ?_)
        · skip
          have c_6 : 0 ≤ y := (l0_le (by assumption)).mp c_6
          refine lv_iconst (v := nI (0)) hx hb dX0_areOpposite_20 (by decide) ?_
          exact ro_zret hx hb hr (by decide) (rb_0 (by simp [opp]; omega)) dX0_areOpposite_21 hlocks
        · skip
          have c_6 : ¬ (0 ≤ y) := fun hq9 => c_6 ((l0_le (by assumption)).mpr hq9)
          refine lv_iconst (v := nI (1)) hx hb dX0_areOpposite_16 (by decide) ?_
          refine lv_goto (tgt := 21) hx hb dX0_areOpposite_17 (by decide) ?_
          exact ro_zret hx hb hr (by decide) (rb_1 (by simp [opp]; omega)) dX0_areOpposite_21 hlocks
set_option maxHeartbeats 4000000 in
set_option maxRecDepth 100000 in
theorem c_X0_isCrossing (l : Launch) (dC : Nat → ClassId) (dI : Nat → Nat → Nat) (cI cL cZ : ClassId) (a : Nat → Nat) (v : SV) (p q r u : Nat) (hv : okS v) (hp : p < 60) (hq : q < 60) (hr : r < 60) (hu : u < 60) : Met l yX0_isCrossing wsX0_isCrossing ({ frames := 2, cells := 0, slots := 0, locals := 47 }) (va_Pc [.ref (a 1), .int (nI (p)), .int (nI (q)), .int (nI (r)), .int (nI (u))] (ro_B (dC, dI) vwCl (wS cI cL a v) (tyS cI cL cZ))) (k2_QcV (.int (bI (crs v.1 p q r u)))) 0 0 (fun _ => False) := by
  refine ro_Met (cc := cX0_isCrossing) (maxL := 5) (ret := (some .boolean)) (by decide) rfl (Nat.le_of_ble_eq_true rfl) ?_
  intro pr en s m below meth co ls hx hb hml hr hlocks hown hts hP hK hl
  have hl : lv_has ls 5 [(0, .ref (a 1)), (1, .int (nI (p))), (2, .int (nI (q))), (3, .int (nI (r))), (4, .int (nI (u)))] := hl
  have hown : s.vm.findClass RX0 = some m.cls := hown
  have hvp : sPn v ≤ 60 ∧ sTn v ≤ 60 ∧ sTm v ≤ 200 := ⟨hv.2.1, hv.2.2.2.1, hv.2.2.2.2.1⟩
  refine lv_aload_n hx hb dX0_isCrossing_0 rfl (lv_at hl 0 rfl) ?_
  refine lv_iload_n hx hb dX0_isCrossing_1 rfl (lv_at hl 1 rfl) ?_
  refine lv_iload_n hx hb dX0_isCrossing_2 rfl (lv_at hl 2 rfl) ?_
  refine lv_iload_n hx hb dX0_isCrossing_3 rfl (lv_at hl 3 rfl) ?_
  refine ro_V (As := [.int (nI (p)), .int (nI (q)), .int (nI (r))]) (rest := []) (q0 := 1) (ci := 0) hx hb hml hown hts (c_X0_turnOf l dC dI cI cL cZ a v p q r (by omega) (by omega) (by omega)) (cwV 3 hts gX0_isCrossing_X0_turnOf rfl rfl rfl (by decide +kernel) ⟨Nat.le_of_ble_eq_true rfl, Nat.le_of_ble_eq_true rfl⟩) hK hP rfl rfl rfl hl.1 rfl (Nat.le_of_ble_eq_true rfl) dX0_isCrossing_4 ⟨Nat.zero_le _, Nat.zero_le _⟩ ?_
  refine lv_aload_n hx hb dX0_isCrossing_7 rfl (lv_at hl 0 rfl) ?_
  refine lv_iload_n hx hb dX0_isCrossing_8 rfl (lv_at hl 1 rfl) ?_
  refine lv_iload_n hx hb dX0_isCrossing_9 rfl (lv_at hl 2 rfl) ?_
  refine lv_iload hx hb dX0_isCrossing_10 (lv_at hl 4 rfl) ?_
  refine ro_V (As := [.int (nI (p)), .int (nI (q)), .int (nI (u))]) (rest := [.int (iI (tof v.1 p q r))]) (q0 := 1) (ci := 0) hx hb hml hown hts (c_X0_turnOf l dC dI cI cL cZ a v p q u (by omega) (by omega) (by omega)) (cwV 3 hts gX0_isCrossing_X0_turnOf rfl rfl rfl (by decide +kernel) ⟨Nat.le_of_ble_eq_true rfl, Nat.le_of_ble_eq_true rfl⟩) hK hP rfl rfl rfl hl.1 rfl (Nat.le_of_ble_eq_true rfl) dX0_isCrossing_12 ⟨Nat.zero_le _, Nat.zero_le _⟩ ?_
  refine ro_S (As := [.int (iI (tof v.1 p q r)), .int (iI (tof v.1 p q u))]) (rest := []) hx hb hml hown hts (c_X0_areOpposite l dC dI  (tof v.1 p q r) (tof v.1 p q u) (tof_ok hv.1) (tof_ok hv.1)) (va_cwS 2 hts gX0_isCrossing_X0_areOpposite rfl rfl rfl (by decide +kernel) ⟨Nat.le_of_ble_eq_true rfl, Nat.le_of_ble_eq_true rfl⟩) (hK.sub [] rfl) (hP.sub [] rfl) rfl hl.1 rfl (Nat.le_of_ble_eq_true rfl) dX0_isCrossing_15 ⟨Nat.zero_le _, Nat.zero_le _⟩ ?_
  refine lv_if_eq (tgt := 47) hx hb dX0_isCrossing_18 (by decide) (fun c_1 => ?_) (fun c_1 => ?_)
  · skip
    have c_1 : (opp (tof v.1 p q r) (tof v.1 p q u)) = false := bI_f c_1
    refine lv_iconst (v := nI (0)) hx hb dX0_isCrossing_47 (by decide) ?_
    exact ro_zret hx hb hr (by decide) (rb_0 (by simp [crs, c_1])) dX0_isCrossing_48 hlocks
  · skip
    have c_1 : (opp (tof v.1 p q r) (tof v.1 p q u)) = true := bI_t c_1
    refine lv_aload_n hx hb dX0_isCrossing_21 rfl (lv_at hl 0 rfl) ?_
    refine lv_iload_n hx hb dX0_isCrossing_22 rfl (lv_at hl 3 rfl) ?_
    refine lv_iload hx hb dX0_isCrossing_23 (lv_at hl 4 rfl) ?_
    refine lv_iload_n hx hb dX0_isCrossing_25 rfl (lv_at hl 1 rfl) ?_
    refine ro_V (As := [.int (nI (r)), .int (nI (u)), .int (nI (p))]) (rest := []) (q0 := 1) (ci := 0) hx hb hml hown hts (c_X0_turnOf l dC dI cI cL cZ a v r u p (by omega) (by omega) (by omega)) (cwV 3 hts gX0_isCrossing_X0_turnOf rfl rfl rfl (by decide +kernel) ⟨Nat.le_of_ble_eq_true rfl, Nat.le_of_ble_eq_true rfl⟩) hK hP rfl rfl rfl hl.1 rfl (Nat.le_of_ble_eq_true rfl) dX0_isCrossing_26 ⟨Nat.zero_le _, Nat.zero_le _⟩ ?_
    refine lv_aload_n hx hb dX0_isCrossing_29 rfl (lv_at hl 0 rfl) ?_
    refine lv_iload_n hx hb dX0_isCrossing_30 rfl (lv_at hl 3 rfl) ?_
    refine lv_iload hx hb dX0_isCrossing_31 (lv_at hl 4 rfl) ?_
    refine lv_iload_n hx hb dX0_isCrossing_33 rfl (lv_at hl 2 rfl) ?_
    refine ro_V (As := [.int (nI (r)), .int (nI (u)), .int (nI (q))]) (rest := [.int (iI (tof v.1 r u p))]) (q0 := 1) (ci := 0) hx hb hml hown hts (c_X0_turnOf l dC dI cI cL cZ a v r u q (by omega) (by omega) (by omega)) (cwV 3 hts gX0_isCrossing_X0_turnOf rfl rfl rfl (by decide +kernel) ⟨Nat.le_of_ble_eq_true rfl, Nat.le_of_ble_eq_true rfl⟩) hK hP rfl rfl rfl hl.1 rfl (Nat.le_of_ble_eq_true rfl) dX0_isCrossing_34 ⟨Nat.zero_le _, Nat.zero_le _⟩ ?_
    refine ro_S (As := [.int (iI (tof v.1 r u p)), .int (iI (tof v.1 r u q))]) (rest := []) hx hb hml hown hts (c_X0_areOpposite l dC dI  (tof v.1 r u p) (tof v.1 r u q) (tof_ok hv.1) (tof_ok hv.1)) (va_cwS 2 hts gX0_isCrossing_X0_areOpposite rfl rfl rfl (by decide +kernel) ⟨Nat.le_of_ble_eq_true rfl, Nat.le_of_ble_eq_true rfl⟩) (hK.sub [] rfl) (hP.sub [] rfl) rfl hl.1 rfl (Nat.le_of_ble_eq_true rfl) dX0_isCrossing_37 ⟨Nat.zero_le _, Nat.zero_le _⟩ ?_
    refine lv_if_eq (tgt := 47) hx hb dX0_isCrossing_40 (by decide) (fun c_2 => ?_) (fun c_2 => ?_)
    · skip
      have c_2 : (opp (tof v.1 r u p) (tof v.1 r u q)) = false := bI_f c_2
      refine lv_iconst (v := nI (0)) hx hb dX0_isCrossing_47 (by decide) ?_
      exact ro_zret hx hb hr (by decide) (rb_0 (by simp [crs, c_1, c_2])) dX0_isCrossing_48 hlocks
    · skip
      have c_2 : (opp (tof v.1 r u p) (tof v.1 r u q)) = true := bI_t c_2
      refine lv_iconst (v := nI (1)) hx hb dX0_isCrossing_43 (by decide) ?_
      refine lv_goto (tgt := 48) hx hb dX0_isCrossing_44 (by decide) ?_
      exact ro_zret hx hb hr (by decide) (rb_1 (by simp [crs, c_1, c_2])) dX0_isCrossing_48 hlocks
set_option maxHeartbeats 4000000 in
set_option maxRecDepth 100000 in
theorem c_X1_came (l : Launch) (dC : Nat → ClassId) (dI : Nat → Nat → Nat) (cI cL cZ : ClassId) (a : Nat → Nat) (v : SV)   : Met l yX1_came wsX1_came ({ frames := 0, cells := 0, slots := 0, locals := 0 }) (va_Pc [.ref (a 4)] (ro_B (dC, dI) vwCl (wS cI cL a v) (tyS cI cL cZ))) (k2_QcV (.int (nI (sTm v)))) 0 0 (fun _ => False) := by
  refine ro_Met (cc := cX1_came) (maxL := 1) (ret := (some .int)) (by decide) rfl (Nat.le_of_ble_eq_true rfl) ?_
  intro pr en s m below meth co ls hx hb hml hr hlocks hown hts hP hK hl
  have hl : lv_has ls 1 [(0, .ref (a 4))] := hl
  have hown : s.vm.findClass RX1 = some m.cls := hown
  refine lv_aload_n hx hb dX1_came_0 rfl (lv_at hl 0 rfl) ?_
  refine va_get (D := (dC, dI)) (ci := 1) (v := .int (nI (sTm v))) (C := RX1) (T := TX1) (N := 4) hx hb hts (by decide +kernel) hown hK hP 4 rfl rfl 3 (by decide) (hts (.fieldLink RX1 22 "TriangleSheet$Triangles" "came" "I") (by decide +kernel)) (fun _ h9 => h9) rfl dX1_came_1 ?_
  exact ro_iret hx hb hr rfl dX1_came_4 hlocks
set_option maxHeartbeats 4000000 in
set_option maxRecDepth 100000 in
theorem c_X1_thereCount (l : Launch) (dC : Nat → ClassId) (dI : Nat → Nat → Nat) (cI cL cZ : ClassId) (a : Nat → Nat) (v : SV)   : Met l yX1_thereCount wsX1_thereCount ({ frames := 0, cells := 0, slots := 0, locals := 0 }) (va_Pc [.ref (a 4)] (ro_B (dC, dI) vwCl (wS cI cL a v) (tyS cI cL cZ))) (k2_QcV (.int (nI (sTn v)))) 0 0 (fun _ => False) := by
  refine ro_Met (cc := cX1_thereCount) (maxL := 1) (ret := (some .int)) (by decide) rfl (Nat.le_of_ble_eq_true rfl) ?_
  intro pr en s m below meth co ls hx hb hml hr hlocks hown hts hP hK hl
  have hl : lv_has ls 1 [(0, .ref (a 4))] := hl
  have hown : s.vm.findClass RX1 = some m.cls := hown
  refine lv_aload_n hx hb dX1_thereCount_0 rfl (lv_at hl 0 rfl) ?_
  refine va_get (D := (dC, dI)) (ci := 1) (v := .int (nI (sTn v))) (C := RX1) (T := TX1) (N := 4) hx hb hts (by decide +kernel) hown hK hP 4 rfl rfl 2 (by decide) (hts (.fieldLink RX1 18 "TriangleSheet$Triangles" "thereCount" "I") (by decide +kernel)) (fun _ h9 => h9) rfl dX1_thereCount_1 ?_
  exact ro_iret hx hb hr rfl dX1_thereCount_4 hlocks
set_option maxHeartbeats 4000000 in
set_option maxRecDepth 100000 in
theorem c_X1_numberAt (l : Launch) (dC : Nat → ClassId) (dI : Nat → Nat → Nat) (cI cL cZ : ClassId) (a : Nat → Nat) (v : SV) (i : Nat) (hi : i < 60) : Met l yX1_numberAt wsX1_numberAt ({ frames := 0, cells := 0, slots := 0, locals := 0 }) (va_Pc [.ref (a 4), .int (nI (i))] (ro_B (dC, dI) vwCl (wS cI cL a v) (tyS cI cL cZ))) (k2_QcV (.int (nI (sTh v i)))) 0 0 (fun _ => False) := by
  refine ro_Met (cc := cX1_numberAt) (maxL := 2) (ret := (some .int)) (by decide) rfl (Nat.le_of_ble_eq_true rfl) ?_
  intro pr en s m below meth co ls hx hb hml hr hlocks hown hts hP hK hl
  have hl : lv_has ls 2 [(0, .ref (a 4)), (1, .int (nI (i)))] := hl
  have hown : s.vm.findClass RX1 = some m.cls := hown
  refine lv_aload_n hx hb dX1_numberAt_0 rfl (lv_at hl 0 rfl) ?_
  refine va_get (D := (dC, dI)) (ci := 1) (v := .ref (a 6)) (C := RX1) (T := TX1) (N := 4) hx hb hts (by decide +kernel) hown hK hP 4 rfl rfl 1 (by decide) (hts (.fieldLink RX1 15 "TriangleSheet$Triangles" "there" "[I") (by decide +kernel)) (fun _ h9 => h9) rfl dX1_numberAt_1 ?_
  refine lv_iload_n hx hb dX1_numberAt_4 rfl (lv_at hl 1 rfl) ?_
  refine ia_ld (k := i) hx hb hK hP 6 0 rfl rfl (by omega) (by decide) dX1_numberAt_5 ?_
  refine W.eq (g2 := F0 m 6 ls [.int (nI (sTh v (i)))]) rfl ?_
  exact ro_iret hx hb hr rfl dX1_numberAt_6 hlocks
set_option maxHeartbeats 4000000 in
set_option maxRecDepth 100000 in
theorem c_X1_isThere (l : Launch) (dC : Nat → ClassId) (dI : Nat → Nat → Nat) (cI cL cZ : ClassId) (a : Nat → Nat) (v : SV) (t : Int32) (hv : okS v) : Met l yX1_isThere wsX1_isThere ({ frames := 0, cells := 0, slots := 0, locals := 0 }) (va_Pc [.ref (a 4), .int (t)] (ro_B (dC, dI) vwCl (wS cI cL a v) (tyS cI cL cZ))) (k2_QcV (.int (bI (thB (sTh v) (sTn v) t)))) 0 0 (fun _ => False) := by
  refine ro_Met (cc := cX1_isThere) (maxL := 3) (ret := (some .boolean)) (by decide) rfl (Nat.le_of_ble_eq_true rfl) ?_
  intro pr en s m below meth co ls hx hb hml hr hlocks hown hts hP hK hl
  have hl : lv_has ls 3 [(0, .ref (a 4)), (1, .int (t))] := hl
  have hown : s.vm.findClass RX1 = some m.cls := hown
  have hvp : sPn v ≤ 60 ∧ sTn v ≤ 60 ∧ sTm v ≤ 200 := ⟨hv.2.1, hv.2.2.2.1, hv.2.2.2.2.1⟩
  refine lv_iconst (v := nI (0)) hx hb dX1_isThere_0 (by decide) ?_
  refine lv_istore_n (lv' := [(2, .int (nI (0))), (0, .ref (a 4)), (1, .int (t))]) hx hb dX1_isThere_1 rfl hl (by decide) rfl (fun ls hl => ?_)
  refine lp (σ := Nat) (LV := fun n => [(0, .ref (a 4)), (1, .int (t)), (2, .int (nI (n)))]) (I := fun k n => n + k = sTn v ∧ fnd (fun i => decide (nI (sTh v i) = t)) (sTn v) 0 = fnd (fun i => decide (nI (sTh v i) = t)) k n) (fun k n ls hI_k hl ih_k => ?_) (sTn v) (0) ls ⟨by omega, rfl⟩ (lv_sub hl [1, 2, 0] rfl)
  obtain ⟨hk, hi⟩ := hI_k
  refine lv_iload_n hx hb dX1_isThere_2 rfl (lv_at hl 2 rfl) ?_
  refine lv_aload_n hx hb dX1_isThere_3 rfl (lv_at hl 0 rfl) ?_
  refine va_get (D := (dC, dI)) (ci := 1) (v := .int (nI (sTn v))) (C := RX1) (T := TX1) (N := 4) hx hb hts (by decide +kernel) hown hK hP 4 rfl rfl 2 (by decide) (hts (.fieldLink RX1 18 "TriangleSheet$Triangles" "thereCount" "I") (by decide +kernel)) (fun _ h9 => h9) rfl dX1_isThere_4 ?_
  refine lv_icmp_ge (tgt := 28) hx hb dX1_isThere_7 (by decide) (fun c_1 => ?_) (fun c_1 => ?_)
  · skip
    have c_1 : sTn v ≤ n := (nI_leI (a := sTn v) (b := n) (by omega) (by omega)).mp c_1
    refine lv_iconst (v := nI (0)) hx hb dX1_isThere_28 (by decide) ?_
    exact ro_zret hx hb hr (by decide) (rb_0 (by rw [thB, hi, show k = 0 by omega]; rfl)) dX1_isThere_29 hlocks
  · skip
    have c_1 : ¬ (sTn v ≤ n) := fun hq9 => c_1 ((nI_leI (a := sTn v) (b := n) (by omega) (by omega)).mpr hq9)
    refine lv_aload_n hx hb dX1_isThere_10 rfl (lv_at hl 0 rfl) ?_
    refine va_get (D := (dC, dI)) (ci := 1) (v := .ref (a 6)) (C := RX1) (T := TX1) (N := 4) hx hb hts (by decide +kernel) hown hK hP 4 rfl rfl 1 (by decide) (hts (.fieldLink RX1 15 "TriangleSheet$Triangles" "there" "[I") (by decide +kernel)) (fun _ h9 => h9) rfl dX1_isThere_11 ?_
    refine lv_iload_n hx hb dX1_isThere_14 rfl (lv_at hl 2 rfl) ?_
    refine ia_ld (k := n) hx hb hK hP 6 0 rfl rfl (by omega) (by decide) dX1_isThere_15 ?_
    refine W.eq (g2 := F0 m 16 ls [.int (nI (sTh v (n)))]) rfl ?_
    have bd_2 := hv.2.2.1 (n)
    refine lv_iload_n hx hb dX1_isThere_16 rfl (lv_at hl 1 rfl) ?_
    refine lv_icmp_ne (tgt := 22) hx hb dX1_isThere_17 (by decide) (fun c_3 => ?_) (fun c_3 => ?_)
    · skip
      refine lv_iinc (v := nI (n + 1)) (lv' := [(2, .int (nI (n + 1))), (0, .ref (a 4)), (1, .int (t))]) hx hb dX1_isThere_22 hl (k := 2) rfl (nI_1 (n)) (by decide) rfl (fun ls hl => ?_)
      refine lv_goto (tgt := 2) hx hb dX1_isThere_25 (by decide) ?_
      exact ih_k (k - 1) (n + 1) ls (by omega) ⟨by omega, hi.trans (fnd_miss (by omega) (by simp [c_1, c_3]))⟩ (lv_sub hl [1, 2, 0] rfl)
    · skip
      refine lv_iconst (v := nI (1)) hx hb dX1_isThere_20 (by decide) ?_
      exact ro_zret hx hb hr (by decide) (rb_1 (by rw [thB, hi, fnd_hit (by omega) (by simp [c_1, c_3])]; rfl)) dX1_isThere_21 hlocks
set_option maxHeartbeats 4000000 in
set_option maxRecDepth 100000 in
theorem c_X1_canAdd (l : Launch) (dC : Nat → ClassId) (dI : Nat → Nat → Nat) (cI cL cZ : ClassId) (a : Nat → Nat) (v : SV) (j : Nat) (hv : okS v) (hj : j ≤ 2) : Met l yX1_canAdd wsX1_canAdd ({ frames := 0, cells := 0, slots := 0, locals := 0 }) (va_Pc [.ref (a 4), .int (nI (j))] (ro_B (dC, dI) vwCl (wS cI cL a v) (tyS cI cL cZ))) (k2_QcV (.int (bI (decide (sTn v + j ≤ 60) && decide (sTm v + j ≤ 200))))) 0 0 (fun _ => False) := by
  refine ro_Met (cc := cX1_canAdd) (maxL := 2) (ret := (some .boolean)) (by decide) rfl (Nat.le_of_ble_eq_true rfl) ?_
  intro pr en s m below meth co ls hx hb hml hr hlocks hown hts hP hK hl
  have hl : lv_has ls 2 [(0, .ref (a 4)), (1, .int (nI (j)))] := hl
  have hown : s.vm.findClass RX1 = some m.cls := hown
  have hvp : sPn v ≤ 60 ∧ sTn v ≤ 60 ∧ sTm v ≤ 200 := ⟨hv.2.1, hv.2.2.2.1, hv.2.2.2.2.1⟩
  refine lv_aload_n hx hb dX1_canAdd_0 rfl (lv_at hl 0 rfl) ?_
  refine va_get (D := (dC, dI)) (ci := 1) (v := .int (nI (sTn v))) (C := RX1) (T := TX1) (N := 4) hx hb hts (by decide +kernel) hown hK hP 4 rfl rfl 2 (by decide) (hts (.fieldLink RX1 18 "TriangleSheet$Triangles" "thereCount" "I") (by decide +kernel)) (fun _ h9 => h9) rfl dX1_canAdd_1 ?_
  refine lv_iload_n hx hb dX1_canAdd_4 rfl (lv_at hl 1 rfl) ?_
  refine lv_iadd hx hb dX1_canAdd_5 ?_
  refine rt_i (y := (nI (sTn v + j))) (nn_add (sTn v) (j)) ?_
  refine lv_bipush (v := nI (60)) hx hb dX1_canAdd_6 (by decide) ?_
  refine lv_icmp_gt (tgt := 27) hx hb dX1_canAdd_8 (by decide) (fun c_1 => ?_) (fun c_1 => ?_)
  · skip
    have c_1 : 60 < sTn v + j := (nI_ltI (a := 60) (b := sTn v + j) (by omega) (by omega)).mp c_1
    refine lv_iconst (v := nI (0)) hx hb dX1_canAdd_27 (by decide) ?_
    exact ro_zret hx hb hr (by decide) (rb_0 (by simp; omega)) dX1_canAdd_28 hlocks
  · skip
    have c_1 : ¬ (60 < sTn v + j) := fun hq9 => c_1 ((nI_ltI (a := 60) (b := sTn v + j) (by omega) (by omega)).mpr hq9)
    refine lv_aload_n hx hb dX1_canAdd_11 rfl (lv_at hl 0 rfl) ?_
    refine va_get (D := (dC, dI)) (ci := 1) (v := .int (nI (sTm v))) (C := RX1) (T := TX1) (N := 4) hx hb hts (by decide +kernel) hown hK hP 4 rfl rfl 3 (by decide) (hts (.fieldLink RX1 22 "TriangleSheet$Triangles" "came" "I") (by decide +kernel)) (fun _ h9 => h9) rfl dX1_canAdd_12 ?_
    refine lv_iload_n hx hb dX1_canAdd_15 rfl (lv_at hl 1 rfl) ?_
    refine lv_iadd hx hb dX1_canAdd_16 ?_
    refine rt_i (y := (nI (sTm v + j))) (nn_add (sTm v) (j)) ?_
    refine lv_sipush (v := nI (200)) hx hb dX1_canAdd_17 (by decide) ?_
    refine lv_icmp_gt (tgt := 27) hx hb dX1_canAdd_20 (by decide) (fun c_2 => ?_) (fun c_2 => ?_)
    · skip
      have c_2 : 200 < sTm v + j := (nI_ltI (a := 200) (b := sTm v + j) (by omega) (by omega)).mp c_2
      refine lv_iconst (v := nI (0)) hx hb dX1_canAdd_27 (by decide) ?_
      exact ro_zret hx hb hr (by decide) (rb_0 (by simp; omega)) dX1_canAdd_28 hlocks
    · skip
      have c_2 : ¬ (200 < sTm v + j) := fun hq9 => c_2 ((nI_ltI (a := 200) (b := sTm v + j) (by omega) (by omega)).mpr hq9)
      refine lv_iconst (v := nI (1)) hx hb dX1_canAdd_23 (by decide) ?_
      refine lv_goto (tgt := 28) hx hb dX1_canAdd_24 (by decide) ?_
      exact ro_zret hx hb hr (by decide) (rb_1 (by simp; omega)) dX1_canAdd_28 hlocks
set_option maxHeartbeats 4000000 in
set_option maxRecDepth 100000 in
theorem c_X1_cornerOf (l : Launch) (dC : Nat → ClassId) (dI : Nat → Nat → Nat) (cI cL cZ : ClassId) (a : Nat → Nat) (v : SV) (t k : Nat) (ht : t < 200) (hk : k < 5) : Met l yX1_cornerOf wsX1_cornerOf ({ frames := 0, cells := 0, slots := 0, locals := 0 }) (va_Pc [.ref (a 4), .int (nI (t)), .int (nI (k))] (ro_B (dC, dI) vwCl (wS cI cL a v) (tyS cI cL cZ))) (k2_QcV (.int (nI (gc v.1 t k)))) 0 0 (fun _ => False) := by
  refine ro_Met (cc := cX1_cornerOf) (maxL := 3) (ret := (some .int)) (by decide) rfl (Nat.le_of_ble_eq_true rfl) ?_
  intro pr en s m below meth co ls hx hb hml hr hlocks hown hts hP hK hl
  have hl : lv_has ls 3 [(0, .ref (a 4)), (1, .int (nI (t))), (2, .int (nI (k)))] := hl
  have hown : s.vm.findClass RX1 = some m.cls := hown
  refine lv_aload_n hx hb dX1_cornerOf_0 rfl (lv_at hl 0 rfl) ?_
  refine va_get (D := (dC, dI)) (ci := 1) (v := .ref (a 5)) (C := RX1) (T := TX1) (N := 4) hx hb hts (by decide +kernel) hown hK hP 4 rfl rfl 0 (by decide) (hts (.fieldLink RX1 9 "TriangleSheet$Triangles" "corners" "[I") (by decide +kernel)) (fun _ h9 => h9) rfl dX1_cornerOf_1 ?_
  refine lv_iconst (v := nI (3)) hx hb dX1_cornerOf_4 (by decide) ?_
  refine lv_iload_n hx hb dX1_cornerOf_5 rfl (lv_at hl 1 rfl) ?_
  refine lv_imul hx hb dX1_cornerOf_6 ?_
  refine rt_i (y := (nI ((3) * (t)))) (nn_mul (3) (t)) ?_
  refine lv_iload_n hx hb dX1_cornerOf_7 rfl (lv_at hl 2 rfl) ?_
  refine lv_iconst (v := nI (3)) hx hb dX1_cornerOf_8 (by decide) ?_
  refine lv_irem hx hb dX1_cornerOf_9 (by decide) ?_
  refine rt_i (y := (nI ((k) % 3))) (pk_rem (by omega) (by decide) (by decide)) ?_
  refine lv_iadd hx hb dX1_cornerOf_10 ?_
  refine rt_i (y := (nI ((3) * (t) + (k) % 3))) (nn_add ((3) * (t)) ((k) % 3)) ?_
  refine ia_ld (k := (3) * (t) + (k) % 3) hx hb hK hP 5 0 rfl rfl (by omega) (by decide) dX1_cornerOf_11 ?_
  refine W.eq (g2 := F0 m 12 ls [.int (nI (v.1.2.2 ((3) * (t) + (k) % 3)))]) rfl ?_
  exact ro_iret hx hb hr rfl dX1_cornerOf_12 hlocks
set_option maxHeartbeats 4000000 in
set_option maxRecDepth 100000 in
theorem c_X1_hasCorner (l : Launch) (dC : Nat → ClassId) (dI : Nat → Nat → Nat) (cI cL cZ : ClassId) (a : Nat → Nat) (v : SV) (t q : Nat) (hv : okS v) (ht : t < 200) (hq : q < 60) : Met l yX1_hasCorner wsX1_hasCorner ({ frames := 0, cells := 0, slots := 0, locals := 0 }) (va_Pc [.ref (a 4), .int (nI (t)), .int (nI (q))] (ro_B (dC, dI) vwCl (wS cI cL a v) (tyS cI cL cZ))) (k2_QcV (.int (bI (hcr v.1 t q)))) 0 0 (fun _ => False) := by
  refine ro_Met (cc := cX1_hasCorner) (maxL := 3) (ret := (some .boolean)) (by decide) rfl (Nat.le_of_ble_eq_true rfl) ?_
  intro pr en s m below meth co ls hx hb hml hr hlocks hown hts hP hK hl
  have hl : lv_has ls 3 [(0, .ref (a 4)), (1, .int (nI (t))), (2, .int (nI (q)))] := hl
  have hown : s.vm.findClass RX1 = some m.cls := hown
  have hvp : sPn v ≤ 60 ∧ sTn v ≤ 60 ∧ sTm v ≤ 200 := ⟨hv.2.1, hv.2.2.2.1, hv.2.2.2.2.1⟩
  refine lv_aload_n hx hb dX1_hasCorner_0 rfl (lv_at hl 0 rfl) ?_
  refine va_get (D := (dC, dI)) (ci := 1) (v := .ref (a 5)) (C := RX1) (T := TX1) (N := 4) hx hb hts (by decide +kernel) hown hK hP 4 rfl rfl 0 (by decide) (hts (.fieldLink RX1 9 "TriangleSheet$Triangles" "corners" "[I") (by decide +kernel)) (fun _ h9 => h9) rfl dX1_hasCorner_1 ?_
  refine lv_iconst (v := nI (3)) hx hb dX1_hasCorner_4 (by decide) ?_
  refine lv_iload_n hx hb dX1_hasCorner_5 rfl (lv_at hl 1 rfl) ?_
  refine lv_imul hx hb dX1_hasCorner_6 ?_
  refine rt_i (y := (nI ((3) * (t)))) (nn_mul (3) (t)) ?_
  refine ia_ld (k := (3) * (t)) hx hb hK hP 5 0 rfl rfl (by omega) (by decide) dX1_hasCorner_7 ?_
  refine W.eq (g2 := F0 m 8 ls [.int (nI (v.1.2.2 ((3) * (t))))]) rfl ?_
  have bd_1 := hv.1.2.2 ((3) * (t))
  refine lv_iload_n hx hb dX1_hasCorner_8 rfl (lv_at hl 2 rfl) ?_
  refine lv_icmp_eq (tgt := 40) hx hb dX1_hasCorner_9 (by decide) (fun c_2 => ?_) (fun c_2 => ?_)
  · skip
    have c_2 : v.1.2.2 ((3) * (t)) = q := (nI_eq (a := v.1.2.2 ((3) * (t))) (b := q) (by omega) (by omega)).mp c_2
    refine lv_iconst (v := nI (1)) hx hb dX1_hasCorner_40 (by decide) ?_
    refine lv_goto (tgt := 45) hx hb dX1_hasCorner_41 (by decide) ?_
    exact ro_zret hx hb hr (by decide) (rb_1 (by show (decide (v.1.2.2 (3 * t) = q) || (decide (v.1.2.2 (3 * t + 1) = q) || decide (v.1.2.2 (3 * t + 2) = q))) = true; first | (simp [c_2]; done) | (simp; omega) | (simp [c_2]; omega))) dX1_hasCorner_45 hlocks
  · skip
    have c_2 : ¬ (v.1.2.2 ((3) * (t)) = q) := fun hq9 => c_2 ((nI_eq (a := v.1.2.2 ((3) * (t))) (b := q) (by omega) (by omega)).mpr hq9)
    refine lv_aload_n hx hb dX1_hasCorner_12 rfl (lv_at hl 0 rfl) ?_
    refine va_get (D := (dC, dI)) (ci := 1) (v := .ref (a 5)) (C := RX1) (T := TX1) (N := 4) hx hb hts (by decide +kernel) hown hK hP 4 rfl rfl 0 (by decide) (hts (.fieldLink RX1 9 "TriangleSheet$Triangles" "corners" "[I") (by decide +kernel)) (fun _ h9 => h9) rfl dX1_hasCorner_13 ?_
    refine lv_iconst (v := nI (3)) hx hb dX1_hasCorner_16 (by decide) ?_
    refine lv_iload_n hx hb dX1_hasCorner_17 rfl (lv_at hl 1 rfl) ?_
    refine lv_imul hx hb dX1_hasCorner_18 ?_
    refine rt_i (y := (nI ((3) * (t)))) (nn_mul (3) (t)) ?_
    refine lv_iconst (v := nI (1)) hx hb dX1_hasCorner_19 (by decide) ?_
    refine lv_iadd hx hb dX1_hasCorner_20 ?_
    refine rt_i (y := (nI ((3) * (t) + 1))) (nn_add ((3) * (t)) (1)) ?_
    refine ia_ld (k := (3) * (t) + 1) hx hb hK hP 5 0 rfl rfl (by omega) (by decide) dX1_hasCorner_21 ?_
    refine W.eq (g2 := F0 m 22 ls [.int (nI (v.1.2.2 ((3) * (t) + 1)))]) rfl ?_
    have bd_3 := hv.1.2.2 ((3) * (t) + 1)
    refine lv_iload_n hx hb dX1_hasCorner_22 rfl (lv_at hl 2 rfl) ?_
    refine lv_icmp_eq (tgt := 40) hx hb dX1_hasCorner_23 (by decide) (fun c_4 => ?_) (fun c_4 => ?_)
    · skip
      have c_4 : v.1.2.2 ((3) * (t) + 1) = q := (nI_eq (a := v.1.2.2 ((3) * (t) + 1)) (b := q) (by omega) (by omega)).mp c_4
      refine lv_iconst (v := nI (1)) hx hb dX1_hasCorner_40 (by decide) ?_
      refine lv_goto (tgt := 45) hx hb dX1_hasCorner_41 (by decide) ?_
      exact ro_zret hx hb hr (by decide) (rb_1 (by show (decide (v.1.2.2 (3 * t) = q) || (decide (v.1.2.2 (3 * t + 1) = q) || decide (v.1.2.2 (3 * t + 2) = q))) = true; first | (simp [c_2, c_4]; done) | (simp; omega) | (simp [c_2, c_4]; omega))) dX1_hasCorner_45 hlocks
    · skip
      have c_4 : ¬ (v.1.2.2 ((3) * (t) + 1) = q) := fun hq9 => c_4 ((nI_eq (a := v.1.2.2 ((3) * (t) + 1)) (b := q) (by omega) (by omega)).mpr hq9)
      refine lv_aload_n hx hb dX1_hasCorner_26 rfl (lv_at hl 0 rfl) ?_
      refine va_get (D := (dC, dI)) (ci := 1) (v := .ref (a 5)) (C := RX1) (T := TX1) (N := 4) hx hb hts (by decide +kernel) hown hK hP 4 rfl rfl 0 (by decide) (hts (.fieldLink RX1 9 "TriangleSheet$Triangles" "corners" "[I") (by decide +kernel)) (fun _ h9 => h9) rfl dX1_hasCorner_27 ?_
      refine lv_iconst (v := nI (3)) hx hb dX1_hasCorner_30 (by decide) ?_
      refine lv_iload_n hx hb dX1_hasCorner_31 rfl (lv_at hl 1 rfl) ?_
      refine lv_imul hx hb dX1_hasCorner_32 ?_
      refine rt_i (y := (nI ((3) * (t)))) (nn_mul (3) (t)) ?_
      refine lv_iconst (v := nI (2)) hx hb dX1_hasCorner_33 (by decide) ?_
      refine lv_iadd hx hb dX1_hasCorner_34 ?_
      refine rt_i (y := (nI ((3) * (t) + 2))) (nn_add ((3) * (t)) (2)) ?_
      refine ia_ld (k := (3) * (t) + 2) hx hb hK hP 5 0 rfl rfl (by omega) (by decide) dX1_hasCorner_35 ?_
      refine W.eq (g2 := F0 m 36 ls [.int (nI (v.1.2.2 ((3) * (t) + 2)))]) rfl ?_
      have bd_5 := hv.1.2.2 ((3) * (t) + 2)
      refine lv_iload_n hx hb dX1_hasCorner_36 rfl (lv_at hl 2 rfl) ?_
      refine lv_icmp_ne (tgt := 44) hx hb dX1_hasCorner_37 (by decide) (fun c_6 => ?_) (fun c_6 => ?_)
      · skip
        have c_6 : ¬ (v.1.2.2 ((3) * (t) + 2) = q) := fun hq9 => c_6 ((nI_eq (a := v.1.2.2 ((3) * (t) + 2)) (b := q) (by omega) (by omega)).mpr hq9)
        refine lv_iconst (v := nI (0)) hx hb dX1_hasCorner_44 (by decide) ?_
        exact ro_zret hx hb hr (by decide) (rb_0 (by show (decide (v.1.2.2 (3 * t) = q) || (decide (v.1.2.2 (3 * t + 1) = q) || decide (v.1.2.2 (3 * t + 2) = q))) = false; first | (simp [c_2, c_4, c_6]; done) | (simp; omega) | (simp [c_2, c_4, c_6]; omega))) dX1_hasCorner_45 hlocks
      · skip
        have c_6 : v.1.2.2 ((3) * (t) + 2) = q := (nI_eq (a := v.1.2.2 ((3) * (t) + 2)) (b := q) (by omega) (by omega)).mp c_6
        refine lv_iconst (v := nI (1)) hx hb dX1_hasCorner_40 (by decide) ?_
        refine lv_goto (tgt := 45) hx hb dX1_hasCorner_41 (by decide) ?_
        exact ro_zret hx hb hr (by decide) (rb_1 (by show (decide (v.1.2.2 (3 * t) = q) || (decide (v.1.2.2 (3 * t + 1) = q) || decide (v.1.2.2 (3 * t + 2) = q))) = true; first | (simp [c_2, c_4, c_6]; done) | (simp; omega) | (simp [c_2, c_4, c_6]; omega))) dX1_hasCorner_45 hlocks
set_option maxHeartbeats 4000000 in
set_option maxRecDepth 100000 in
theorem c_X1_thirdCorner (l : Launch) (dC : Nat → ClassId) (dI : Nat → Nat → Nat) (cI cL cZ : ClassId) (a : Nat → Nat) (v : SV) (t x y d : Nat) (ht : t < 200) (hd : v.1.2.2 (3 * t) + v.1.2.2 (3 * t + 1) + v.1.2.2 (3 * t + 2) = x + y + d) : Met l yX1_thirdCorner wsX1_thirdCorner ({ frames := 0, cells := 0, slots := 0, locals := 0 }) (va_Pc [.ref (a 4), .int (nI (t)), .int (nI (x)), .int (nI (y))] (ro_B (dC, dI) vwCl (wS cI cL a v) (tyS cI cL cZ))) (k2_QcV (.int (nI (d)))) 0 0 (fun _ => False) := by
  refine ro_Met (cc := cX1_thirdCorner) (maxL := 4) (ret := (some .int)) (by decide) rfl (Nat.le_of_ble_eq_true rfl) ?_
  intro pr en s m below meth co ls hx hb hml hr hlocks hown hts hP hK hl
  have hl : lv_has ls 4 [(0, .ref (a 4)), (1, .int (nI (t))), (2, .int (nI (x))), (3, .int (nI (y)))] := hl
  have hown : s.vm.findClass RX1 = some m.cls := hown
  refine lv_aload_n hx hb dX1_thirdCorner_0 rfl (lv_at hl 0 rfl) ?_
  refine va_get (D := (dC, dI)) (ci := 1) (v := .ref (a 5)) (C := RX1) (T := TX1) (N := 4) hx hb hts (by decide +kernel) hown hK hP 4 rfl rfl 0 (by decide) (hts (.fieldLink RX1 9 "TriangleSheet$Triangles" "corners" "[I") (by decide +kernel)) (fun _ h9 => h9) rfl dX1_thirdCorner_1 ?_
  refine lv_iconst (v := nI (3)) hx hb dX1_thirdCorner_4 (by decide) ?_
  refine lv_iload_n hx hb dX1_thirdCorner_5 rfl (lv_at hl 1 rfl) ?_
  refine lv_imul hx hb dX1_thirdCorner_6 ?_
  refine rt_i (y := (nI ((3) * (t)))) (nn_mul (3) (t)) ?_
  refine ia_ld (k := (3) * (t)) hx hb hK hP 5 0 rfl rfl (by omega) (by decide) dX1_thirdCorner_7 ?_
  refine W.eq (g2 := F0 m 8 ls [.int (nI (v.1.2.2 ((3) * (t))))]) rfl ?_
  refine lv_aload_n hx hb dX1_thirdCorner_8 rfl (lv_at hl 0 rfl) ?_
  refine va_get (D := (dC, dI)) (ci := 1) (v := .ref (a 5)) (C := RX1) (T := TX1) (N := 4) hx hb hts (by decide +kernel) hown hK hP 4 rfl rfl 0 (by decide) (hts (.fieldLink RX1 9 "TriangleSheet$Triangles" "corners" "[I") (by decide +kernel)) (fun _ h9 => h9) rfl dX1_thirdCorner_9 ?_
  refine lv_iconst (v := nI (3)) hx hb dX1_thirdCorner_12 (by decide) ?_
  refine lv_iload_n hx hb dX1_thirdCorner_13 rfl (lv_at hl 1 rfl) ?_
  refine lv_imul hx hb dX1_thirdCorner_14 ?_
  refine rt_i (y := (nI ((3) * (t)))) (nn_mul (3) (t)) ?_
  refine lv_iconst (v := nI (1)) hx hb dX1_thirdCorner_15 (by decide) ?_
  refine lv_iadd hx hb dX1_thirdCorner_16 ?_
  refine rt_i (y := (nI ((3) * (t) + 1))) (nn_add ((3) * (t)) (1)) ?_
  refine ia_ld (k := (3) * (t) + 1) hx hb hK hP 5 0 rfl rfl (by omega) (by decide) dX1_thirdCorner_17 ?_
  refine W.eq (g2 := F0 m 18 ls [.int (nI (v.1.2.2 ((3) * (t) + 1))), .int (nI (v.1.2.2 ((3) * (t))))]) rfl ?_
  refine lv_iadd hx hb dX1_thirdCorner_18 ?_
  refine rt_i (y := (nI (v.1.2.2 ((3) * (t)) + v.1.2.2 ((3) * (t) + 1)))) (nn_add (v.1.2.2 ((3) * (t))) (v.1.2.2 ((3) * (t) + 1))) ?_
  refine lv_aload_n hx hb dX1_thirdCorner_19 rfl (lv_at hl 0 rfl) ?_
  refine va_get (D := (dC, dI)) (ci := 1) (v := .ref (a 5)) (C := RX1) (T := TX1) (N := 4) hx hb hts (by decide +kernel) hown hK hP 4 rfl rfl 0 (by decide) (hts (.fieldLink RX1 9 "TriangleSheet$Triangles" "corners" "[I") (by decide +kernel)) (fun _ h9 => h9) rfl dX1_thirdCorner_20 ?_
  refine lv_iconst (v := nI (3)) hx hb dX1_thirdCorner_23 (by decide) ?_
  refine lv_iload_n hx hb dX1_thirdCorner_24 rfl (lv_at hl 1 rfl) ?_
  refine lv_imul hx hb dX1_thirdCorner_25 ?_
  refine rt_i (y := (nI ((3) * (t)))) (nn_mul (3) (t)) ?_
  refine lv_iconst (v := nI (2)) hx hb dX1_thirdCorner_26 (by decide) ?_
  refine lv_iadd hx hb dX1_thirdCorner_27 ?_
  refine rt_i (y := (nI ((3) * (t) + 2))) (nn_add ((3) * (t)) (2)) ?_
  refine ia_ld (k := (3) * (t) + 2) hx hb hK hP 5 0 rfl rfl (by omega) (by decide) dX1_thirdCorner_28 ?_
  refine W.eq (g2 := F0 m 29 ls [.int (nI (v.1.2.2 ((3) * (t) + 2))), .int (nI (v.1.2.2 ((3) * (t)) + v.1.2.2 ((3) * (t) + 1)))]) rfl ?_
  refine lv_iadd hx hb dX1_thirdCorner_29 ?_
  refine rt_i (y := (nI (v.1.2.2 ((3) * (t)) + v.1.2.2 ((3) * (t) + 1) + v.1.2.2 ((3) * (t) + 2)))) (nn_add (v.1.2.2 ((3) * (t)) + v.1.2.2 ((3) * (t) + 1)) (v.1.2.2 ((3) * (t) + 2))) ?_
  refine lv_iload_n hx hb dX1_thirdCorner_30 rfl (lv_at hl 2 rfl) ?_
  refine lv_isub hx hb dX1_thirdCorner_31 ?_
  refine rt_i (y := (iI ((((v.1.2.2 ((3) * (t)) + v.1.2.2 ((3) * (t) + 1) + v.1.2.2 ((3) * (t) + 2) : Nat) : Int)) - (((x : Nat) : Int))))) (nn_sub (v.1.2.2 ((3) * (t)) + v.1.2.2 ((3) * (t) + 1) + v.1.2.2 ((3) * (t) + 2)) (x)) ?_
  refine lv_iload_n hx hb dX1_thirdCorner_32 rfl (lv_at hl 3 rfl) ?_
  refine lv_isub hx hb dX1_thirdCorner_33 ?_
  refine rt_i (y := (iI (((((v.1.2.2 ((3) * (t)) + v.1.2.2 ((3) * (t) + 1) + v.1.2.2 ((3) * (t) + 2) : Nat) : Int)) - (((x : Nat) : Int))) - (((y : Nat) : Int))))) (zn_sub ((((v.1.2.2 ((3) * (t)) + v.1.2.2 ((3) * (t) + 1) + v.1.2.2 ((3) * (t) + 2) : Nat) : Int)) - (((x : Nat) : Int))) (y)) ?_
  exact ro_iret hx hb hr (congrArg Value.int (by rw [nI_z d]; congr 1; omega)) dX1_thirdCorner_34 hlocks
set_option maxHeartbeats 4000000 in
set_option maxRecDepth 100000 in
theorem c_X1_hasEdge (l : Launch) (dC : Nat → ClassId) (dI : Nat → Nat → Nat) (cI cL cZ : ClassId) (a : Nat → Nat) (v : SV) (t f o : Nat) (hv : okS v) (ht : t < 200) (hf : f < 60) (ho : o < 60) : Met l yX1_hasEdge wsX1_hasEdge ({ frames := 0, cells := 0, slots := 0, locals := 0 }) (va_Pc [.ref (a 4), .int (nI (t)), .int (nI (f)), .int (nI (o))] (ro_B (dC, dI) vwCl (wS cI cL a v) (tyS cI cL cZ))) (k2_QcV (.int (bI (hed v.1 t f o)))) 0 0 (fun _ => False) := by
  refine ro_Met (cc := cX1_hasEdge) (maxL := 7) (ret := (some .boolean)) (by decide) rfl (Nat.le_of_ble_eq_true rfl) ?_
  intro pr en s m below meth co ls hx hb hml hr hlocks hown hts hP hK hl
  have hl : lv_has ls 7 [(0, .ref (a 4)), (1, .int (nI (t))), (2, .int (nI (f))), (3, .int (nI (o)))] := hl
  have hown : s.vm.findClass RX1 = some m.cls := hown
  have hvp : sPn v ≤ 60 ∧ sTn v ≤ 60 ∧ sTm v ≤ 200 := ⟨hv.2.1, hv.2.2.2.1, hv.2.2.2.2.1⟩
  refine lv_aload_n hx hb dX1_hasEdge_0 rfl (lv_at hl 0 rfl) ?_
  refine va_get (D := (dC, dI)) (ci := 1) (v := .ref (a 5)) (C := RX1) (T := TX1) (N := 4) hx hb hts (by decide +kernel) hown hK hP 4 rfl rfl 0 (by decide) (hts (.fieldLink RX1 9 "TriangleSheet$Triangles" "corners" "[I") (by decide +kernel)) (fun _ h9 => h9) rfl dX1_hasEdge_1 ?_
  refine lv_iconst (v := nI (3)) hx hb dX1_hasEdge_4 (by decide) ?_
  refine lv_iload_n hx hb dX1_hasEdge_5 rfl (lv_at hl 1 rfl) ?_
  refine lv_imul hx hb dX1_hasEdge_6 ?_
  refine rt_i (y := (nI ((3) * (t)))) (nn_mul (3) (t)) ?_
  refine ia_ld (k := (3) * (t)) hx hb hK hP 5 0 rfl rfl (by omega) (by decide) dX1_hasEdge_7 ?_
  refine W.eq (g2 := F0 m 8 ls [.int (nI (v.1.2.2 ((3) * (t))))]) rfl ?_
  have bd_1 := hv.1.2.2 ((3) * (t))
  refine lv_istore (lv' := [(4, .int (nI (v.1.2.2 ((3) * (t))))), (0, .ref (a 4)), (1, .int (nI (t))), (2, .int (nI (f))), (3, .int (nI (o)))]) hx hb dX1_hasEdge_8 hl (by decide) rfl (fun ls hl => ?_)
  refine lv_aload_n hx hb dX1_hasEdge_10 rfl (lv_at hl 1 rfl) ?_
  refine va_get (D := (dC, dI)) (ci := 1) (v := .ref (a 5)) (C := RX1) (T := TX1) (N := 4) hx hb hts (by decide +kernel) hown hK hP 4 rfl rfl 0 (by decide) (hts (.fieldLink RX1 9 "TriangleSheet$Triangles" "corners" "[I") (by decide +kernel)) (fun _ h9 => h9) rfl dX1_hasEdge_11 ?_
  refine lv_iconst (v := nI (3)) hx hb dX1_hasEdge_14 (by decide) ?_
  refine lv_iload_n hx hb dX1_hasEdge_15 rfl (lv_at hl 2 rfl) ?_
  refine lv_imul hx hb dX1_hasEdge_16 ?_
  refine rt_i (y := (nI ((3) * (t)))) (nn_mul (3) (t)) ?_
  refine lv_iconst (v := nI (1)) hx hb dX1_hasEdge_17 (by decide) ?_
  refine lv_iadd hx hb dX1_hasEdge_18 ?_
  refine rt_i (y := (nI ((3) * (t) + 1))) (nn_add ((3) * (t)) (1)) ?_
  refine ia_ld (k := (3) * (t) + 1) hx hb hK hP 5 0 rfl rfl (by omega) (by decide) dX1_hasEdge_19 ?_
  refine W.eq (g2 := F0 m 20 ls [.int (nI (v.1.2.2 ((3) * (t) + 1)))]) rfl ?_
  have bd_2 := hv.1.2.2 ((3) * (t) + 1)
  refine lv_istore (lv' := [(5, .int (nI (v.1.2.2 ((3) * (t) + 1)))), (4, .int (nI (v.1.2.2 ((3) * (t))))), (0, .ref (a 4)), (1, .int (nI (t))), (2, .int (nI (f))), (3, .int (nI (o)))]) hx hb dX1_hasEdge_20 hl (by decide) rfl (fun ls hl => ?_)
  refine lv_aload_n hx hb dX1_hasEdge_22 rfl (lv_at hl 2 rfl) ?_
  refine va_get (D := (dC, dI)) (ci := 1) (v := .ref (a 5)) (C := RX1) (T := TX1) (N := 4) hx hb hts (by decide +kernel) hown hK hP 4 rfl rfl 0 (by decide) (hts (.fieldLink RX1 9 "TriangleSheet$Triangles" "corners" "[I") (by decide +kernel)) (fun _ h9 => h9) rfl dX1_hasEdge_23 ?_
  refine lv_iconst (v := nI (3)) hx hb dX1_hasEdge_26 (by decide) ?_
  refine lv_iload_n hx hb dX1_hasEdge_27 rfl (lv_at hl 3 rfl) ?_
  refine lv_imul hx hb dX1_hasEdge_28 ?_
  refine rt_i (y := (nI ((3) * (t)))) (nn_mul (3) (t)) ?_
  refine lv_iconst (v := nI (2)) hx hb dX1_hasEdge_29 (by decide) ?_
  refine lv_iadd hx hb dX1_hasEdge_30 ?_
  refine rt_i (y := (nI ((3) * (t) + 2))) (nn_add ((3) * (t)) (2)) ?_
  refine ia_ld (k := (3) * (t) + 2) hx hb hK hP 5 0 rfl rfl (by omega) (by decide) dX1_hasEdge_31 ?_
  refine W.eq (g2 := F0 m 32 ls [.int (nI (v.1.2.2 ((3) * (t) + 2)))]) rfl ?_
  have bd_3 := hv.1.2.2 ((3) * (t) + 2)
  refine lv_istore (lv' := [(6, .int (nI (v.1.2.2 ((3) * (t) + 2)))), (5, .int (nI (v.1.2.2 ((3) * (t) + 1)))), (4, .int (nI (v.1.2.2 ((3) * (t))))), (0, .ref (a 4)), (1, .int (nI (t))), (2, .int (nI (f))), (3, .int (nI (o)))]) hx hb dX1_hasEdge_32 hl (by decide) rfl (fun ls hl => ?_)
  refine lv_iload hx hb dX1_hasEdge_34 (lv_at hl 2 rfl) ?_
  refine lv_iload_n hx hb dX1_hasEdge_36 rfl (lv_at hl 5 rfl) ?_
  refine lv_icmp_ne (tgt := 46) hx hb dX1_hasEdge_37 (by decide) (fun c_4 => ?_) (fun c_4 => ?_)
  · skip
    have c_4 : ¬ (v.1.2.2 ((3) * (t)) = f) := fun hq9 => c_4 ((nI_eq (a := v.1.2.2 ((3) * (t))) (b := f) (by omega) (by omega)).mpr hq9)
    refine lv_iload hx hb dX1_hasEdge_46 (lv_at hl 1 rfl) ?_
    refine lv_iload_n hx hb dX1_hasEdge_48 rfl (lv_at hl 5 rfl) ?_
    refine lv_icmp_ne (tgt := 58) hx hb dX1_hasEdge_49 (by decide) (fun c_5 => ?_) (fun c_5 => ?_)
    · skip
      have c_5 : ¬ (v.1.2.2 ((3) * (t) + 1) = f) := fun hq9 => c_5 ((nI_eq (a := v.1.2.2 ((3) * (t) + 1)) (b := f) (by omega) (by omega)).mpr hq9)
      refine lv_iload hx hb dX1_hasEdge_58 (lv_at hl 0 rfl) ?_
      refine lv_iload_n hx hb dX1_hasEdge_60 rfl (lv_at hl 5 rfl) ?_
      refine lv_icmp_ne (tgt := 74) hx hb dX1_hasEdge_61 (by decide) (fun c_6 => ?_) (fun c_6 => ?_)
      · skip
        have c_6 : ¬ (v.1.2.2 ((3) * (t) + 2) = f) := fun hq9 => c_6 ((nI_eq (a := v.1.2.2 ((3) * (t) + 2)) (b := f) (by omega) (by omega)).mpr hq9)
        refine lv_iconst (v := nI (0)) hx hb dX1_hasEdge_74 (by decide) ?_
        exact ro_zret hx hb hr (by decide) (rb_0 (by show ((decide (v.1.2.2 (3 * t) = f) && decide (v.1.2.2 (3 * t + 1) = o)) || ((decide (v.1.2.2 (3 * t + 1) = f) && decide (v.1.2.2 (3 * t + 2) = o)) || (decide (v.1.2.2 (3 * t + 2) = f) && decide (v.1.2.2 (3 * t) = o)))) = false; first | (simp [c_4, c_5, c_6]; done) | (simp; omega) | (simp [c_4, c_5, c_6]; omega))) dX1_hasEdge_75 hlocks
      · skip
        have c_6 : v.1.2.2 ((3) * (t) + 2) = f := (nI_eq (a := v.1.2.2 ((3) * (t) + 2)) (b := f) (by omega) (by omega)).mp c_6
        refine lv_iload hx hb dX1_hasEdge_64 (lv_at hl 2 rfl) ?_
        refine lv_iload_n hx hb dX1_hasEdge_66 rfl (lv_at hl 6 rfl) ?_
        refine lv_icmp_ne (tgt := 74) hx hb dX1_hasEdge_67 (by decide) (fun c_7 => ?_) (fun c_7 => ?_)
        · skip
          have c_7 : ¬ (v.1.2.2 ((3) * (t)) = o) := fun hq9 => c_7 ((nI_eq (a := v.1.2.2 ((3) * (t))) (b := o) (by omega) (by omega)).mpr hq9)
          refine lv_iconst (v := nI (0)) hx hb dX1_hasEdge_74 (by decide) ?_
          exact ro_zret hx hb hr (by decide) (rb_0 (by show ((decide (v.1.2.2 (3 * t) = f) && decide (v.1.2.2 (3 * t + 1) = o)) || ((decide (v.1.2.2 (3 * t + 1) = f) && decide (v.1.2.2 (3 * t + 2) = o)) || (decide (v.1.2.2 (3 * t + 2) = f) && decide (v.1.2.2 (3 * t) = o)))) = false; first | (simp [c_4, c_5, c_6, c_7]; done) | (simp; omega) | (simp [c_4, c_5, c_6, c_7]; omega))) dX1_hasEdge_75 hlocks
        · skip
          have c_7 : v.1.2.2 ((3) * (t)) = o := (nI_eq (a := v.1.2.2 ((3) * (t))) (b := o) (by omega) (by omega)).mp c_7
          refine lv_iconst (v := nI (1)) hx hb dX1_hasEdge_70 (by decide) ?_
          refine lv_goto (tgt := 75) hx hb dX1_hasEdge_71 (by decide) ?_
          exact ro_zret hx hb hr (by decide) (rb_1 (by show ((decide (v.1.2.2 (3 * t) = f) && decide (v.1.2.2 (3 * t + 1) = o)) || ((decide (v.1.2.2 (3 * t + 1) = f) && decide (v.1.2.2 (3 * t + 2) = o)) || (decide (v.1.2.2 (3 * t + 2) = f) && decide (v.1.2.2 (3 * t) = o)))) = true; first | (simp [c_4, c_5, c_6, c_7]; done) | (simp; omega) | (simp [c_4, c_5, c_6, c_7]; omega))) dX1_hasEdge_75 hlocks
    · skip
      have c_5 : v.1.2.2 ((3) * (t) + 1) = f := (nI_eq (a := v.1.2.2 ((3) * (t) + 1)) (b := f) (by omega) (by omega)).mp c_5
      refine lv_iload hx hb dX1_hasEdge_52 (lv_at hl 0 rfl) ?_
      refine lv_iload_n hx hb dX1_hasEdge_54 rfl (lv_at hl 6 rfl) ?_
      refine lv_icmp_eq (tgt := 70) hx hb dX1_hasEdge_55 (by decide) (fun c_8 => ?_) (fun c_8 => ?_)
      · skip
        have c_8 : v.1.2.2 ((3) * (t) + 2) = o := (nI_eq (a := v.1.2.2 ((3) * (t) + 2)) (b := o) (by omega) (by omega)).mp c_8
        refine lv_iconst (v := nI (1)) hx hb dX1_hasEdge_70 (by decide) ?_
        refine lv_goto (tgt := 75) hx hb dX1_hasEdge_71 (by decide) ?_
        exact ro_zret hx hb hr (by decide) (rb_1 (by show ((decide (v.1.2.2 (3 * t) = f) && decide (v.1.2.2 (3 * t + 1) = o)) || ((decide (v.1.2.2 (3 * t + 1) = f) && decide (v.1.2.2 (3 * t + 2) = o)) || (decide (v.1.2.2 (3 * t + 2) = f) && decide (v.1.2.2 (3 * t) = o)))) = true; first | (simp [c_4, c_5, c_8]; done) | (simp; omega) | (simp [c_4, c_5, c_8]; omega))) dX1_hasEdge_75 hlocks
      · skip
        have c_8 : ¬ (v.1.2.2 ((3) * (t) + 2) = o) := fun hq9 => c_8 ((nI_eq (a := v.1.2.2 ((3) * (t) + 2)) (b := o) (by omega) (by omega)).mpr hq9)
        refine lv_iload hx hb dX1_hasEdge_58 (lv_at hl 0 rfl) ?_
        refine lv_iload_n hx hb dX1_hasEdge_60 rfl (lv_at hl 5 rfl) ?_
        refine lv_icmp_ne (tgt := 74) hx hb dX1_hasEdge_61 (by decide) (fun c_9 => ?_) (fun c_9 => ?_)
        · skip
          have c_9 : ¬ (v.1.2.2 ((3) * (t) + 2) = f) := fun hq9 => c_9 ((nI_eq (a := v.1.2.2 ((3) * (t) + 2)) (b := f) (by omega) (by omega)).mpr hq9)
          refine lv_iconst (v := nI (0)) hx hb dX1_hasEdge_74 (by decide) ?_
          exact ro_zret hx hb hr (by decide) (rb_0 (by show ((decide (v.1.2.2 (3 * t) = f) && decide (v.1.2.2 (3 * t + 1) = o)) || ((decide (v.1.2.2 (3 * t + 1) = f) && decide (v.1.2.2 (3 * t + 2) = o)) || (decide (v.1.2.2 (3 * t + 2) = f) && decide (v.1.2.2 (3 * t) = o)))) = false; first | (simp [c_4, c_5, c_8, c_9]; done) | (simp; omega) | (simp [c_4, c_5, c_8, c_9]; omega))) dX1_hasEdge_75 hlocks
        · skip
          have c_9 : v.1.2.2 ((3) * (t) + 2) = f := (nI_eq (a := v.1.2.2 ((3) * (t) + 2)) (b := f) (by omega) (by omega)).mp c_9
          refine lv_iload hx hb dX1_hasEdge_64 (lv_at hl 2 rfl) ?_
          refine lv_iload_n hx hb dX1_hasEdge_66 rfl (lv_at hl 6 rfl) ?_
          refine lv_icmp_ne (tgt := 74) hx hb dX1_hasEdge_67 (by decide) (fun c_10 => ?_) (fun c_10 => ?_)
          · skip
            have c_10 : ¬ (v.1.2.2 ((3) * (t)) = o) := fun hq9 => c_10 ((nI_eq (a := v.1.2.2 ((3) * (t))) (b := o) (by omega) (by omega)).mpr hq9)
            refine lv_iconst (v := nI (0)) hx hb dX1_hasEdge_74 (by decide) ?_
            exact ro_zret hx hb hr (by decide) (rb_0 (by show ((decide (v.1.2.2 (3 * t) = f) && decide (v.1.2.2 (3 * t + 1) = o)) || ((decide (v.1.2.2 (3 * t + 1) = f) && decide (v.1.2.2 (3 * t + 2) = o)) || (decide (v.1.2.2 (3 * t + 2) = f) && decide (v.1.2.2 (3 * t) = o)))) = false; first | (simp [c_4, c_5, c_8, c_9, c_10]; done) | (simp; omega) | (simp [c_4, c_5, c_8, c_9, c_10]; omega))) dX1_hasEdge_75 hlocks
          · skip
            have c_10 : v.1.2.2 ((3) * (t)) = o := (nI_eq (a := v.1.2.2 ((3) * (t))) (b := o) (by omega) (by omega)).mp c_10
            refine lv_iconst (v := nI (1)) hx hb dX1_hasEdge_70 (by decide) ?_
            refine lv_goto (tgt := 75) hx hb dX1_hasEdge_71 (by decide) ?_
            exact ro_zret hx hb hr (by decide) (rb_1 (by show ((decide (v.1.2.2 (3 * t) = f) && decide (v.1.2.2 (3 * t + 1) = o)) || ((decide (v.1.2.2 (3 * t + 1) = f) && decide (v.1.2.2 (3 * t + 2) = o)) || (decide (v.1.2.2 (3 * t + 2) = f) && decide (v.1.2.2 (3 * t) = o)))) = true; first | (simp [c_4, c_5, c_8, c_9, c_10]; done) | (simp; omega) | (simp [c_4, c_5, c_8, c_9, c_10]; omega))) dX1_hasEdge_75 hlocks
  · skip
    have c_4 : v.1.2.2 ((3) * (t)) = f := (nI_eq (a := v.1.2.2 ((3) * (t))) (b := f) (by omega) (by omega)).mp c_4
    refine lv_iload hx hb dX1_hasEdge_40 (lv_at hl 1 rfl) ?_
    refine lv_iload_n hx hb dX1_hasEdge_42 rfl (lv_at hl 6 rfl) ?_
    refine lv_icmp_eq (tgt := 70) hx hb dX1_hasEdge_43 (by decide) (fun c_11 => ?_) (fun c_11 => ?_)
    · skip
      have c_11 : v.1.2.2 ((3) * (t) + 1) = o := (nI_eq (a := v.1.2.2 ((3) * (t) + 1)) (b := o) (by omega) (by omega)).mp c_11
      refine lv_iconst (v := nI (1)) hx hb dX1_hasEdge_70 (by decide) ?_
      refine lv_goto (tgt := 75) hx hb dX1_hasEdge_71 (by decide) ?_
      exact ro_zret hx hb hr (by decide) (rb_1 (by show ((decide (v.1.2.2 (3 * t) = f) && decide (v.1.2.2 (3 * t + 1) = o)) || ((decide (v.1.2.2 (3 * t + 1) = f) && decide (v.1.2.2 (3 * t + 2) = o)) || (decide (v.1.2.2 (3 * t + 2) = f) && decide (v.1.2.2 (3 * t) = o)))) = true; first | (simp [c_4, c_11]; done) | (simp; omega) | (simp [c_4, c_11]; omega))) dX1_hasEdge_75 hlocks
    · skip
      have c_11 : ¬ (v.1.2.2 ((3) * (t) + 1) = o) := fun hq9 => c_11 ((nI_eq (a := v.1.2.2 ((3) * (t) + 1)) (b := o) (by omega) (by omega)).mpr hq9)
      refine lv_iload hx hb dX1_hasEdge_46 (lv_at hl 1 rfl) ?_
      refine lv_iload_n hx hb dX1_hasEdge_48 rfl (lv_at hl 5 rfl) ?_
      refine lv_icmp_ne (tgt := 58) hx hb dX1_hasEdge_49 (by decide) (fun c_12 => ?_) (fun c_12 => ?_)
      · skip
        have c_12 : ¬ (v.1.2.2 ((3) * (t) + 1) = f) := fun hq9 => c_12 ((nI_eq (a := v.1.2.2 ((3) * (t) + 1)) (b := f) (by omega) (by omega)).mpr hq9)
        refine lv_iload hx hb dX1_hasEdge_58 (lv_at hl 0 rfl) ?_
        refine lv_iload_n hx hb dX1_hasEdge_60 rfl (lv_at hl 5 rfl) ?_
        refine lv_icmp_ne (tgt := 74) hx hb dX1_hasEdge_61 (by decide) (fun c_13 => ?_) (fun c_13 => ?_)
        · skip
          have c_13 : ¬ (v.1.2.2 ((3) * (t) + 2) = f) := fun hq9 => c_13 ((nI_eq (a := v.1.2.2 ((3) * (t) + 2)) (b := f) (by omega) (by omega)).mpr hq9)
          refine lv_iconst (v := nI (0)) hx hb dX1_hasEdge_74 (by decide) ?_
          exact ro_zret hx hb hr (by decide) (rb_0 (by show ((decide (v.1.2.2 (3 * t) = f) && decide (v.1.2.2 (3 * t + 1) = o)) || ((decide (v.1.2.2 (3 * t + 1) = f) && decide (v.1.2.2 (3 * t + 2) = o)) || (decide (v.1.2.2 (3 * t + 2) = f) && decide (v.1.2.2 (3 * t) = o)))) = false; first | (simp [c_4, c_11, c_12, c_13]; done) | (simp; omega) | (simp [c_4, c_11, c_12, c_13]; omega))) dX1_hasEdge_75 hlocks
        · skip
          have c_13 : v.1.2.2 ((3) * (t) + 2) = f := (nI_eq (a := v.1.2.2 ((3) * (t) + 2)) (b := f) (by omega) (by omega)).mp c_13
          refine lv_iload hx hb dX1_hasEdge_64 (lv_at hl 2 rfl) ?_
          refine lv_iload_n hx hb dX1_hasEdge_66 rfl (lv_at hl 6 rfl) ?_
          refine lv_icmp_ne (tgt := 74) hx hb dX1_hasEdge_67 (by decide) (fun c_14 => ?_) (fun c_14 => ?_)
          · skip
            have c_14 : ¬ (v.1.2.2 ((3) * (t)) = o) := fun hq9 => c_14 ((nI_eq (a := v.1.2.2 ((3) * (t))) (b := o) (by omega) (by omega)).mpr hq9)
            refine lv_iconst (v := nI (0)) hx hb dX1_hasEdge_74 (by decide) ?_
            exact ro_zret hx hb hr (by decide) (rb_0 (by show ((decide (v.1.2.2 (3 * t) = f) && decide (v.1.2.2 (3 * t + 1) = o)) || ((decide (v.1.2.2 (3 * t + 1) = f) && decide (v.1.2.2 (3 * t + 2) = o)) || (decide (v.1.2.2 (3 * t + 2) = f) && decide (v.1.2.2 (3 * t) = o)))) = false; first | (simp [c_4, c_11, c_12, c_13, c_14]; done) | (simp; omega) | (simp [c_4, c_11, c_12, c_13, c_14]; omega))) dX1_hasEdge_75 hlocks
          · skip
            have c_14 : v.1.2.2 ((3) * (t)) = o := (nI_eq (a := v.1.2.2 ((3) * (t))) (b := o) (by omega) (by omega)).mp c_14
            refine lv_iconst (v := nI (1)) hx hb dX1_hasEdge_70 (by decide) ?_
            refine lv_goto (tgt := 75) hx hb dX1_hasEdge_71 (by decide) ?_
            exact ro_zret hx hb hr (by decide) (rb_1 (by show ((decide (v.1.2.2 (3 * t) = f) && decide (v.1.2.2 (3 * t + 1) = o)) || ((decide (v.1.2.2 (3 * t + 1) = f) && decide (v.1.2.2 (3 * t + 2) = o)) || (decide (v.1.2.2 (3 * t + 2) = f) && decide (v.1.2.2 (3 * t) = o)))) = true; first | (simp [c_4, c_11, c_12, c_13, c_14]; done) | (simp; omega) | (simp [c_4, c_11, c_12, c_13, c_14]; omega))) dX1_hasEdge_75 hlocks
      · skip
        have c_12 : v.1.2.2 ((3) * (t) + 1) = f := (nI_eq (a := v.1.2.2 ((3) * (t) + 1)) (b := f) (by omega) (by omega)).mp c_12
        refine lv_iload hx hb dX1_hasEdge_52 (lv_at hl 0 rfl) ?_
        refine lv_iload_n hx hb dX1_hasEdge_54 rfl (lv_at hl 6 rfl) ?_
        refine lv_icmp_eq (tgt := 70) hx hb dX1_hasEdge_55 (by decide) (fun c_15 => ?_) (fun c_15 => ?_)
        · skip
          have c_15 : v.1.2.2 ((3) * (t) + 2) = o := (nI_eq (a := v.1.2.2 ((3) * (t) + 2)) (b := o) (by omega) (by omega)).mp c_15
          refine lv_iconst (v := nI (1)) hx hb dX1_hasEdge_70 (by decide) ?_
          refine lv_goto (tgt := 75) hx hb dX1_hasEdge_71 (by decide) ?_
          exact ro_zret hx hb hr (by decide) (rb_1 (by show ((decide (v.1.2.2 (3 * t) = f) && decide (v.1.2.2 (3 * t + 1) = o)) || ((decide (v.1.2.2 (3 * t + 1) = f) && decide (v.1.2.2 (3 * t + 2) = o)) || (decide (v.1.2.2 (3 * t + 2) = f) && decide (v.1.2.2 (3 * t) = o)))) = true; first | (simp [c_4, c_11, c_12, c_15]; done) | (simp; omega) | (simp [c_4, c_11, c_12, c_15]; omega))) dX1_hasEdge_75 hlocks
        · skip
          have c_15 : ¬ (v.1.2.2 ((3) * (t) + 2) = o) := fun hq9 => c_15 ((nI_eq (a := v.1.2.2 ((3) * (t) + 2)) (b := o) (by omega) (by omega)).mpr hq9)
          refine lv_iload hx hb dX1_hasEdge_58 (lv_at hl 0 rfl) ?_
          refine lv_iload_n hx hb dX1_hasEdge_60 rfl (lv_at hl 5 rfl) ?_
          refine lv_icmp_ne (tgt := 74) hx hb dX1_hasEdge_61 (by decide) (fun c_16 => ?_) (fun c_16 => ?_)
          · skip
            have c_16 : ¬ (v.1.2.2 ((3) * (t) + 2) = f) := fun hq9 => c_16 ((nI_eq (a := v.1.2.2 ((3) * (t) + 2)) (b := f) (by omega) (by omega)).mpr hq9)
            refine lv_iconst (v := nI (0)) hx hb dX1_hasEdge_74 (by decide) ?_
            exact ro_zret hx hb hr (by decide) (rb_0 (by show ((decide (v.1.2.2 (3 * t) = f) && decide (v.1.2.2 (3 * t + 1) = o)) || ((decide (v.1.2.2 (3 * t + 1) = f) && decide (v.1.2.2 (3 * t + 2) = o)) || (decide (v.1.2.2 (3 * t + 2) = f) && decide (v.1.2.2 (3 * t) = o)))) = false; first | (simp [c_4, c_11, c_12, c_15, c_16]; done) | (simp; omega) | (simp [c_4, c_11, c_12, c_15, c_16]; omega))) dX1_hasEdge_75 hlocks
          · skip
            have c_16 : v.1.2.2 ((3) * (t) + 2) = f := (nI_eq (a := v.1.2.2 ((3) * (t) + 2)) (b := f) (by omega) (by omega)).mp c_16
            refine lv_iload hx hb dX1_hasEdge_64 (lv_at hl 2 rfl) ?_
            refine lv_iload_n hx hb dX1_hasEdge_66 rfl (lv_at hl 6 rfl) ?_
            refine lv_icmp_ne (tgt := 74) hx hb dX1_hasEdge_67 (by decide) (fun c_17 => ?_) (fun c_17 => ?_)
            · skip
              have c_17 : ¬ (v.1.2.2 ((3) * (t)) = o) := fun hq9 => c_17 ((nI_eq (a := v.1.2.2 ((3) * (t))) (b := o) (by omega) (by omega)).mpr hq9)
              refine lv_iconst (v := nI (0)) hx hb dX1_hasEdge_74 (by decide) ?_
              exact ro_zret hx hb hr (by decide) (rb_0 (by show ((decide (v.1.2.2 (3 * t) = f) && decide (v.1.2.2 (3 * t + 1) = o)) || ((decide (v.1.2.2 (3 * t + 1) = f) && decide (v.1.2.2 (3 * t + 2) = o)) || (decide (v.1.2.2 (3 * t + 2) = f) && decide (v.1.2.2 (3 * t) = o)))) = false; first | (simp [c_4, c_11, c_12, c_15, c_16, c_17]; done) | (simp; omega) | (simp [c_4, c_11, c_12, c_15, c_16, c_17]; omega))) dX1_hasEdge_75 hlocks
            · skip
              have c_17 : v.1.2.2 ((3) * (t)) = o := (nI_eq (a := v.1.2.2 ((3) * (t))) (b := o) (by omega) (by omega)).mp c_17
              refine lv_iconst (v := nI (1)) hx hb dX1_hasEdge_70 (by decide) ?_
              refine lv_goto (tgt := 75) hx hb dX1_hasEdge_71 (by decide) ?_
              exact ro_zret hx hb hr (by decide) (rb_1 (by show ((decide (v.1.2.2 (3 * t) = f) && decide (v.1.2.2 (3 * t + 1) = o)) || ((decide (v.1.2.2 (3 * t + 1) = f) && decide (v.1.2.2 (3 * t + 2) = o)) || (decide (v.1.2.2 (3 * t + 2) = f) && decide (v.1.2.2 (3 * t) = o)))) = true; first | (simp [c_4, c_11, c_12, c_15, c_16, c_17]; done) | (simp; omega) | (simp [c_4, c_11, c_12, c_15, c_16, c_17]; omega))) dX1_hasEdge_75 hlocks
set_option maxHeartbeats 4000000 in
set_option maxRecDepth 100000 in
theorem c_X1_neighbour (l : Launch) (dC : Nat → ClassId) (dI : Nat → Nat → Nat) (cI cL cZ : ClassId) (a : Nat → Nat) (v : SV) (t j : Nat) (hv : okS v) (ht : t < 200) (hj : j < 4) : Met l yX1_neighbour wsX1_neighbour ({ frames := 1, cells := 0, slots := 0, locals := 26 }) (va_Pc [.ref (a 4), .int (nI (t)), .int (nI (j))] (ro_B (dC, dI) vwCl (wS cI cL a v) (tyS cI cL cZ))) (k2_QcV (.int (oI (nbr v.1 (sTh v) (sTn v) t j)))) 0 0 (fun _ => False) := by
  refine ro_Met (cc := cX1_neighbour) (maxL := 6) (ret := (some .int)) (by decide) rfl (Nat.le_of_ble_eq_true rfl) ?_
  intro pr en s m below meth co ls hx hb hml hr hlocks hown hts hP hK hl
  have hl : lv_has ls 6 [(0, .ref (a 4)), (1, .int (nI (t))), (2, .int (nI (j)))] := hl
  have hown : s.vm.findClass RX1 = some m.cls := hown
  have hvp : sPn v ≤ 60 ∧ sTn v ≤ 60 ∧ sTm v ≤ 200 := ⟨hv.2.1, hv.2.2.2.1, hv.2.2.2.2.1⟩
  have hg1 := gc_lt hv.1 (t := t) (k := j)
  have hg2 := gc_lt hv.1 (t := t) (k := j + 1)
  refine lv_aload_n hx hb dX1_neighbour_0 rfl (lv_at hl 0 rfl) ?_
  refine lv_iload_n hx hb dX1_neighbour_1 rfl (lv_at hl 1 rfl) ?_
  refine lv_iload_n hx hb dX1_neighbour_2 rfl (lv_at hl 2 rfl) ?_
  refine ro_V (As := [.int (nI (t)), .int (nI (j))]) (rest := []) (q0 := 4) (ci := 1) hx hb hml hown hts (c_X1_cornerOf l dC dI cI cL cZ a v t j (by omega) (by omega)) (cwV 2 hts gX1_neighbour_X1_cornerOf rfl rfl rfl (by decide +kernel) ⟨Nat.le_of_ble_eq_true rfl, Nat.le_of_ble_eq_true rfl⟩) hK hP rfl rfl rfl hl.1 rfl (Nat.le_of_ble_eq_true rfl) dX1_neighbour_3 ⟨Nat.zero_le _, Nat.zero_le _⟩ ?_
  refine lv_istore_n (lv' := [(3, .int (nI (gc v.1 t j))), (0, .ref (a 4)), (1, .int (nI (t))), (2, .int (nI (j)))]) hx hb dX1_neighbour_6 rfl hl (by decide) rfl (fun ls hl => ?_)
  refine lv_aload_n hx hb dX1_neighbour_7 rfl (lv_at hl 1 rfl) ?_
  refine lv_iload_n hx hb dX1_neighbour_8 rfl (lv_at hl 2 rfl) ?_
  refine lv_iload_n hx hb dX1_neighbour_9 rfl (lv_at hl 3 rfl) ?_
  refine lv_iconst (v := nI (1)) hx hb dX1_neighbour_10 (by decide) ?_
  refine lv_iadd hx hb dX1_neighbour_11 ?_
  refine rt_i (y := (nI (j + 1))) (nn_add (j) (1)) ?_
  refine ro_V (As := [.int (nI (t)), .int (nI (j + 1))]) (rest := []) (q0 := 4) (ci := 1) hx hb hml hown hts (c_X1_cornerOf l dC dI cI cL cZ a v t (j + 1) (by omega) (by omega)) (cwV 2 hts gX1_neighbour_X1_cornerOf rfl rfl rfl (by decide +kernel) ⟨Nat.le_of_ble_eq_true rfl, Nat.le_of_ble_eq_true rfl⟩) hK hP rfl rfl rfl hl.1 rfl (Nat.le_of_ble_eq_true rfl) dX1_neighbour_12 ⟨Nat.zero_le _, Nat.zero_le _⟩ ?_
  refine lv_istore (lv' := [(4, .int (nI (gc v.1 t (j + 1)))), (3, .int (nI (gc v.1 t j))), (0, .ref (a 4)), (1, .int (nI (t))), (2, .int (nI (j)))]) hx hb dX1_neighbour_15 hl (by decide) rfl (fun ls hl => ?_)
  refine lv_iconst (v := nI (0)) hx hb dX1_neighbour_17 (by decide) ?_
  refine lv_istore (lv' := [(5, .int (nI (0))), (4, .int (nI (gc v.1 t (j + 1)))), (3, .int (nI (gc v.1 t j))), (0, .ref (a 4)), (1, .int (nI (t))), (2, .int (nI (j)))]) hx hb dX1_neighbour_18 hl (by decide) rfl (fun ls hl => ?_)
  refine lp (σ := Nat) (LV := fun n => [(0, .ref (a 4)), (1, .int (nI (t))), (2, .int (nI (j))), (3, .int (nI (gc v.1 t j))), (4, .int (nI (gc v.1 t (j + 1)))), (5, .int (nI (n)))]) (I := fun k n => n + k = sTn v ∧ nbi v.1 (sTh v) (sTn v) t j = fnd (fun i => hed v.1 (sTh v i) (gc v.1 t (j + 1)) (gc v.1 t j)) k n) (fun k n ls hI_k hl ih_k => ?_) (sTn v) (0) ls ⟨by omega, rfl⟩ (lv_sub hl [3, 4, 5, 2, 1, 0] rfl)
  obtain ⟨hk, hi⟩ := hI_k
  refine lv_iload hx hb dX1_neighbour_20 (lv_at hl 5 rfl) ?_
  refine lv_aload_n hx hb dX1_neighbour_22 rfl (lv_at hl 0 rfl) ?_
  refine va_get (D := (dC, dI)) (ci := 1) (v := .int (nI (sTn v))) (C := RX1) (T := TX1) (N := 4) hx hb hts (by decide +kernel) hown hK hP 4 rfl rfl 2 (by decide) (hts (.fieldLink RX1 18 "TriangleSheet$Triangles" "thereCount" "I") (by decide +kernel)) (fun _ h9 => h9) rfl dX1_neighbour_23 ?_
  refine lv_icmp_ge (tgt := 60) hx hb dX1_neighbour_26 (by decide) (fun c_1 => ?_) (fun c_1 => ?_)
  · skip
    have c_1 : sTn v ≤ n := (nI_leI (a := sTn v) (b := n) (by omega) (by omega)).mp c_1
    refine lv_iconst (v := iI (-1)) hx hb dX1_neighbour_60 (by decide) ?_
    exact ro_iret hx hb hr (rO (by rw [nbr, hi, show k = 0 by omega]; rfl)) dX1_neighbour_61 hlocks
  · skip
    have c_1 : ¬ (sTn v ≤ n) := fun hq9 => c_1 ((nI_leI (a := sTn v) (b := n) (by omega) (by omega)).mpr hq9)
    refine lv_aload_n hx hb dX1_neighbour_29 rfl (lv_at hl 0 rfl) ?_
    refine lv_aload_n hx hb dX1_neighbour_30 rfl (lv_at hl 0 rfl) ?_
    refine va_get (D := (dC, dI)) (ci := 1) (v := .ref (a 6)) (C := RX1) (T := TX1) (N := 4) hx hb hts (by decide +kernel) hown hK hP 4 rfl rfl 1 (by decide) (hts (.fieldLink RX1 15 "TriangleSheet$Triangles" "there" "[I") (by decide +kernel)) (fun _ h9 => h9) rfl dX1_neighbour_31 ?_
    refine lv_iload hx hb dX1_neighbour_34 (lv_at hl 5 rfl) ?_
    refine ia_ld (k := n) hx hb hK hP 6 0 rfl rfl (by omega) (by decide) dX1_neighbour_36 ?_
    refine W.eq (g2 := F0 m 37 ls [.int (nI (sTh v (n))), .ref (a 4)]) rfl ?_
    have bd_2 := hv.2.2.1 (n)
    refine lv_iload hx hb dX1_neighbour_37 (lv_at hl 4 rfl) ?_
    refine lv_iload_n hx hb dX1_neighbour_39 rfl (lv_at hl 3 rfl) ?_
    refine ro_V (As := [.int (nI (sTh v (n))), .int (nI (gc v.1 t (j + 1))), .int (nI (gc v.1 t j))]) (rest := []) (q0 := 4) (ci := 1) hx hb hml hown hts (c_X1_hasEdge l dC dI cI cL cZ a v (sTh v (n)) (gc v.1 t (j + 1)) (gc v.1 t j) hv (by omega) (by omega) (by omega)) (cwV 3 hts gX1_neighbour_X1_hasEdge rfl rfl rfl (by decide +kernel) ⟨Nat.le_of_ble_eq_true rfl, Nat.le_of_ble_eq_true rfl⟩) hK hP rfl rfl rfl hl.1 rfl (Nat.le_of_ble_eq_true rfl) dX1_neighbour_40 ⟨Nat.zero_le _, Nat.zero_le _⟩ ?_
    refine lv_if_eq (tgt := 54) hx hb dX1_neighbour_43 (by decide) (fun c_3 => ?_) (fun c_3 => ?_)
    · skip
      have c_3 : (hed v.1 (sTh v (n)) (gc v.1 t (j + 1)) (gc v.1 t j)) = false := bI_f c_3
      refine lv_iinc (v := nI (n + 1)) (lv' := [(5, .int (nI (n + 1))), (0, .ref (a 4)), (1, .int (nI (t))), (2, .int (nI (j))), (3, .int (nI (gc v.1 t j))), (4, .int (nI (gc v.1 t (j + 1))))]) hx hb dX1_neighbour_54 hl (k := 5) rfl (nI_1 (n)) (by decide) rfl (fun ls hl => ?_)
      refine lv_goto (tgt := 20) hx hb dX1_neighbour_57 (by decide) ?_
      exact ih_k (k - 1) (n + 1) ls (by omega) ⟨by omega, hi.trans (fnd_miss (by omega) (by assumption))⟩ (lv_sub hl [1, 2, 3, 4, 5, 0] rfl)
    · skip
      have c_3 : (hed v.1 (sTh v (n)) (gc v.1 t (j + 1)) (gc v.1 t j)) = true := bI_t c_3
      refine lv_aload_n hx hb dX1_neighbour_46 rfl (lv_at hl 0 rfl) ?_
      refine va_get (D := (dC, dI)) (ci := 1) (v := .ref (a 6)) (C := RX1) (T := TX1) (N := 4) hx hb hts (by decide +kernel) hown hK hP 4 rfl rfl 1 (by decide) (hts (.fieldLink RX1 15 "TriangleSheet$Triangles" "there" "[I") (by decide +kernel)) (fun _ h9 => h9) rfl dX1_neighbour_47 ?_
      refine lv_iload hx hb dX1_neighbour_50 (lv_at hl 5 rfl) ?_
      refine ia_ld (k := n) hx hb hK hP 6 0 rfl rfl (by omega) (by decide) dX1_neighbour_52 ?_
      refine W.eq (g2 := F0 m 53 ls [.int (nI (sTh v (n)))]) rfl ?_
      have bd_4 := hv.2.2.1 (n)
      exact ro_iret hx hb hr (rO (by rw [nbr, hi, fnd_hit (by omega) (by assumption)]; rfl)) dX1_neighbour_53 hlocks
