set_option maxHeartbeats 4000000 in
set_option maxRecDepth 100000 in
theorem c_X3_hasSide (l : Launch) (dC : Nat → ClassId) (dI : Nat → Nat → Nat) (cI cL cZ : ClassId) (b : Nat → Nat) (w : MV) (t x y : Nat) (hv : okM w) (ht : t < 200) (hx9 : x < 60) (hy9 : y < 60) : Met l yX3_hasSide wsX3_hasSide ({ frames := 1, cells := 0, slots := 0, locals := 22 }) (va_Pc [.ref (b 0), .int (nI (t)), .int (nI (x)), .int (nI (y))] (ro_B (dC, dI) vwCl (wM cI cZ b w) (tyS cI cL cZ))) (k2_QcV (.int (bI (hsd w.1 t x y)))) 0 0 (fun _ => False) := by
  refine ro_Met (cc := cX3_hasSide) (maxL := 5) (ret := (some .boolean)) (by decide) rfl (Nat.le_of_ble_eq_true rfl) ?_
  intro pr en s m below meth co ls hx hb hml hr hlocks hown hts hP hK hl
  have hl : lv_has ls 5 [(0, .ref (b 0)), (1, .int (nI (t))), (2, .int (nI (x))), (3, .int (nI (y)))] := hl
  have hown : s.vm.findClass RX3 = some m.cls := hown
  have hvp : mPn w ≤ 60 ∧ mTm w ≤ 200 ∧ mTn w ≤ 60 := ⟨hv.2.1, hv.2.2.1, hv.2.2.2.1⟩
  refine lv_iconst (v := nI (0)) hx hb dX3_hasSide_0 (by decide) ?_
  refine lv_istore (lv' := [(4, .int (nI (0))), (0, .ref (b 0)), (1, .int (nI (t))), (2, .int (nI (x))), (3, .int (nI (y)))]) hx hb dX3_hasSide_1 hl (by decide) rfl (fun ls hl => ?_)
  refine lp (σ := Nat) (LV := fun n => [(0, .ref (b 0)), (1, .int (nI (t))), (2, .int (nI (x))), (3, .int (nI (y))), (4, .int (nI (n)))]) (I := fun k n => n + k = 3 ∧ fnd (fun k => (decide (gc w.1 t k = x) && decide (gc w.1 t (k + 1) = y)) || (decide (gc w.1 t k = y) && decide (gc w.1 t (k + 1) = x))) 3 0 = fnd (fun k => (decide (gc w.1 t k = x) && decide (gc w.1 t (k + 1) = y)) || (decide (gc w.1 t k = y) && decide (gc w.1 t (k + 1) = x))) k n) (fun k n ls hI_k hl ih_k => ?_) (3) (0) ls ⟨by omega, rfl⟩ (lv_sub hl [1, 2, 3, 4, 0] rfl)
  obtain ⟨hk, hi⟩ := hI_k
  have hg0 := gc_lt hv.1 (t := t) (k := n)
  have hg1 := gc_lt hv.1 (t := t) (k := n + 1)
  refine lv_iload hx hb dX3_hasSide_3 (lv_at hl 4 rfl) ?_
  refine lv_iconst (v := nI (3)) hx hb dX3_hasSide_5 (by decide) ?_
  refine lv_icmp_ge (tgt := 65) hx hb dX3_hasSide_6 (by decide) (fun c_1 => ?_) (fun c_1 => ?_)
  · skip
    have c_1 : 3 ≤ n := (nI_leI (a := 3) (b := n) (by omega) (by omega)).mp c_1
    refine lv_iconst (v := nI (0)) hx hb dX3_hasSide_65 (by decide) ?_
    exact ro_zret hx hb hr (by decide) (rb_0 (by rw [hsd, hi, show k = 0 by omega]; rfl)) dX3_hasSide_66 hlocks
  · skip
    have c_1 : ¬ (3 ≤ n) := fun hq9 => c_1 ((nI_leI (a := 3) (b := n) (by omega) (by omega)).mpr hq9)
    refine lv_aload_n hx hb dX3_hasSide_9 rfl (lv_at hl 0 rfl) ?_
    refine lv_iload_n hx hb dX3_hasSide_10 rfl (lv_at hl 1 rfl) ?_
    refine lv_iload hx hb dX3_hasSide_11 (lv_at hl 4 rfl) ?_
    refine ro_V (As := [.int (nI (t)), .int (nI (n))]) (rest := []) (q0 := 0) (ci := 3) hx hb hml hown hts (c_X3_at l dC dI cI cL cZ b w t n (by omega) (by omega)) (cwV 2 hts gX3_hasSide_X3_at rfl rfl rfl (by decide +kernel) ⟨Nat.le_of_ble_eq_true rfl, Nat.le_of_ble_eq_true rfl⟩) hK hP rfl rfl rfl hl.1 rfl (Nat.le_of_ble_eq_true rfl) dX3_hasSide_13 ⟨Nat.zero_le _, Nat.zero_le _⟩ ?_
    refine lv_iload_n hx hb dX3_hasSide_16 rfl (lv_at hl 2 rfl) ?_
    refine lv_icmp_ne (tgt := 33) hx hb dX3_hasSide_17 (by decide) (fun c_2 => ?_) (fun c_2 => ?_)
    · skip
      have c_2 : ¬ (gc w.1 t n = x) := fun hq9 => c_2 ((nI_eq (a := gc w.1 t n) (b := x) (by omega) (by omega)).mpr hq9)
      refine lv_aload_n hx hb dX3_hasSide_33 rfl (lv_at hl 0 rfl) ?_
      refine lv_iload_n hx hb dX3_hasSide_34 rfl (lv_at hl 1 rfl) ?_
      refine lv_iload hx hb dX3_hasSide_35 (lv_at hl 4 rfl) ?_
      refine ro_V (As := [.int (nI (t)), .int (nI (n))]) (rest := []) (q0 := 0) (ci := 3) hx hb hml hown hts (c_X3_at l dC dI cI cL cZ b w t n (by omega) (by omega)) (cwV 2 hts gX3_hasSide_X3_at rfl rfl rfl (by decide +kernel) ⟨Nat.le_of_ble_eq_true rfl, Nat.le_of_ble_eq_true rfl⟩) hK hP rfl rfl rfl hl.1 rfl (Nat.le_of_ble_eq_true rfl) dX3_hasSide_37 ⟨Nat.zero_le _, Nat.zero_le _⟩ ?_
      refine lv_iload_n hx hb dX3_hasSide_40 rfl (lv_at hl 3 rfl) ?_
      refine lv_icmp_ne (tgt := 59) hx hb dX3_hasSide_41 (by decide) (fun c_3 => ?_) (fun c_3 => ?_)
      · skip
        have c_3 : ¬ (gc w.1 t n = y) := fun hq9 => c_3 ((nI_eq (a := gc w.1 t n) (b := y) (by omega) (by omega)).mpr hq9)
        refine lv_iinc (v := nI (n + 1)) (lv' := [(4, .int (nI (n + 1))), (0, .ref (b 0)), (1, .int (nI (t))), (2, .int (nI (x))), (3, .int (nI (y)))]) hx hb dX3_hasSide_59 hl (k := 4) rfl (nI_1 (n)) (by decide) rfl (fun ls hl => ?_)
        refine lv_goto (tgt := 3) hx hb dX3_hasSide_62 (by decide) ?_
        exact ih_k (k - 1) (n + 1) ls (by omega) ⟨by omega, hi.trans (fnd_miss (by omega) (by first | (simp [c_1, c_2, c_3]; done) | (simp; omega)))⟩ (lv_sub hl [1, 2, 3, 4, 0] rfl)
      · skip
        have c_3 : gc w.1 t n = y := (nI_eq (a := gc w.1 t n) (b := y) (by omega) (by omega)).mp c_3
        refine lv_aload_n hx hb dX3_hasSide_44 rfl (lv_at hl 0 rfl) ?_
        refine lv_iload_n hx hb dX3_hasSide_45 rfl (lv_at hl 1 rfl) ?_
        refine lv_iload hx hb dX3_hasSide_46 (lv_at hl 4 rfl) ?_
        refine lv_iconst (v := nI (1)) hx hb dX3_hasSide_48 (by decide) ?_
        refine lv_iadd hx hb dX3_hasSide_49 ?_
        refine rt_i (y := (nI (n + 1))) (nn_add (n) (1)) ?_
        refine ro_V (As := [.int (nI (t)), .int (nI (n + 1))]) (rest := []) (q0 := 0) (ci := 3) hx hb hml hown hts (c_X3_at l dC dI cI cL cZ b w t (n + 1) (by omega) (by omega)) (cwV 2 hts gX3_hasSide_X3_at rfl rfl rfl (by decide +kernel) ⟨Nat.le_of_ble_eq_true rfl, Nat.le_of_ble_eq_true rfl⟩) hK hP rfl rfl rfl hl.1 rfl (Nat.le_of_ble_eq_true rfl) dX3_hasSide_50 ⟨Nat.zero_le _, Nat.zero_le _⟩ ?_
        refine lv_iload_n hx hb dX3_hasSide_53 rfl (lv_at hl 2 rfl) ?_
        refine lv_icmp_ne (tgt := 59) hx hb dX3_hasSide_54 (by decide) (fun c_4 => ?_) (fun c_4 => ?_)
        · skip
          have c_4 : ¬ (gc w.1 t (n + 1) = x) := fun hq9 => c_4 ((nI_eq (a := gc w.1 t (n + 1)) (b := x) (by omega) (by omega)).mpr hq9)
          refine lv_iinc (v := nI (n + 1)) (lv' := [(4, .int (nI (n + 1))), (0, .ref (b 0)), (1, .int (nI (t))), (2, .int (nI (x))), (3, .int (nI (y)))]) hx hb dX3_hasSide_59 hl (k := 4) rfl (nI_1 (n)) (by decide) rfl (fun ls hl => ?_)
          refine lv_goto (tgt := 3) hx hb dX3_hasSide_62 (by decide) ?_
          exact ih_k (k - 1) (n + 1) ls (by omega) ⟨by omega, hi.trans (fnd_miss (by omega) (by first | (simp [c_1, c_2, c_3, c_4]; done) | (simp; omega)))⟩ (lv_sub hl [1, 2, 3, 4, 0] rfl)
        · skip
          have c_4 : gc w.1 t (n + 1) = x := (nI_eq (a := gc w.1 t (n + 1)) (b := x) (by omega) (by omega)).mp c_4
          refine lv_iconst (v := nI (1)) hx hb dX3_hasSide_57 (by decide) ?_
          exact ro_zret hx hb hr (by decide) (rb_1 (by rw [hsd, hi, fnd_hit (by omega) (by first | (simp [c_1, c_2, c_3, c_4]; done) | (simp; omega))]; rfl)) dX3_hasSide_58 hlocks
    · skip
      have c_2 : gc w.1 t n = x := (nI_eq (a := gc w.1 t n) (b := x) (by omega) (by omega)).mp c_2
      refine lv_aload_n hx hb dX3_hasSide_20 rfl (lv_at hl 0 rfl) ?_
      refine lv_iload_n hx hb dX3_hasSide_21 rfl (lv_at hl 1 rfl) ?_
      refine lv_iload hx hb dX3_hasSide_22 (lv_at hl 4 rfl) ?_
      refine lv_iconst (v := nI (1)) hx hb dX3_hasSide_24 (by decide) ?_
      refine lv_iadd hx hb dX3_hasSide_25 ?_
      refine rt_i (y := (nI (n + 1))) (nn_add (n) (1)) ?_
      refine ro_V (As := [.int (nI (t)), .int (nI (n + 1))]) (rest := []) (q0 := 0) (ci := 3) hx hb hml hown hts (c_X3_at l dC dI cI cL cZ b w t (n + 1) (by omega) (by omega)) (cwV 2 hts gX3_hasSide_X3_at rfl rfl rfl (by decide +kernel) ⟨Nat.le_of_ble_eq_true rfl, Nat.le_of_ble_eq_true rfl⟩) hK hP rfl rfl rfl hl.1 rfl (Nat.le_of_ble_eq_true rfl) dX3_hasSide_26 ⟨Nat.zero_le _, Nat.zero_le _⟩ ?_
      refine lv_iload_n hx hb dX3_hasSide_29 rfl (lv_at hl 3 rfl) ?_
      refine lv_icmp_eq (tgt := 57) hx hb dX3_hasSide_30 (by decide) (fun c_5 => ?_) (fun c_5 => ?_)
      · skip
        have c_5 : gc w.1 t (n + 1) = y := (nI_eq (a := gc w.1 t (n + 1)) (b := y) (by omega) (by omega)).mp c_5
        refine lv_iconst (v := nI (1)) hx hb dX3_hasSide_57 (by decide) ?_
        exact ro_zret hx hb hr (by decide) (rb_1 (by rw [hsd, hi, fnd_hit (by omega) (by first | (simp [c_1, c_2, c_5]; done) | (simp; omega))]; rfl)) dX3_hasSide_58 hlocks
      · skip
        have c_5 : ¬ (gc w.1 t (n + 1) = y) := fun hq9 => c_5 ((nI_eq (a := gc w.1 t (n + 1)) (b := y) (by omega) (by omega)).mpr hq9)
        refine lv_aload_n hx hb dX3_hasSide_33 rfl (lv_at hl 0 rfl) ?_
        refine lv_iload_n hx hb dX3_hasSide_34 rfl (lv_at hl 1 rfl) ?_
        refine lv_iload hx hb dX3_hasSide_35 (lv_at hl 4 rfl) ?_
        refine ro_V (As := [.int (nI (t)), .int (nI (n))]) (rest := []) (q0 := 0) (ci := 3) hx hb hml hown hts (c_X3_at l dC dI cI cL cZ b w t n (by omega) (by omega)) (cwV 2 hts gX3_hasSide_X3_at rfl rfl rfl (by decide +kernel) ⟨Nat.le_of_ble_eq_true rfl, Nat.le_of_ble_eq_true rfl⟩) hK hP rfl rfl rfl hl.1 rfl (Nat.le_of_ble_eq_true rfl) dX3_hasSide_37 ⟨Nat.zero_le _, Nat.zero_le _⟩ ?_
        refine lv_iload_n hx hb dX3_hasSide_40 rfl (lv_at hl 3 rfl) ?_
        refine lv_icmp_ne (tgt := 59) hx hb dX3_hasSide_41 (by decide) (fun c_6 => ?_) (fun c_6 => ?_)
        · skip
          have c_6 : ¬ (gc w.1 t n = y) := fun hq9 => c_6 ((nI_eq (a := gc w.1 t n) (b := y) (by omega) (by omega)).mpr hq9)
          refine lv_iinc (v := nI (n + 1)) (lv' := [(4, .int (nI (n + 1))), (0, .ref (b 0)), (1, .int (nI (t))), (2, .int (nI (x))), (3, .int (nI (y)))]) hx hb dX3_hasSide_59 hl (k := 4) rfl (nI_1 (n)) (by decide) rfl (fun ls hl => ?_)
          refine lv_goto (tgt := 3) hx hb dX3_hasSide_62 (by decide) ?_
          exact ih_k (k - 1) (n + 1) ls (by omega) ⟨by omega, hi.trans (fnd_miss (by omega) (by first | (simp [c_1, c_2, c_5, c_6]; done) | (simp; omega)))⟩ (lv_sub hl [1, 2, 3, 4, 0] rfl)
        · skip
          have c_6 : gc w.1 t n = y := (nI_eq (a := gc w.1 t n) (b := y) (by omega) (by omega)).mp c_6
          refine lv_aload_n hx hb dX3_hasSide_44 rfl (lv_at hl 0 rfl) ?_
          refine lv_iload_n hx hb dX3_hasSide_45 rfl (lv_at hl 1 rfl) ?_
          refine lv_iload hx hb dX3_hasSide_46 (lv_at hl 4 rfl) ?_
          refine lv_iconst (v := nI (1)) hx hb dX3_hasSide_48 (by decide) ?_
          refine lv_iadd hx hb dX3_hasSide_49 ?_
          refine rt_i (y := (nI (n + 1))) (nn_add (n) (1)) ?_
          refine ro_V (As := [.int (nI (t)), .int (nI (n + 1))]) (rest := []) (q0 := 0) (ci := 3) hx hb hml hown hts (c_X3_at l dC dI cI cL cZ b w t (n + 1) (by omega) (by omega)) (cwV 2 hts gX3_hasSide_X3_at rfl rfl rfl (by decide +kernel) ⟨Nat.le_of_ble_eq_true rfl, Nat.le_of_ble_eq_true rfl⟩) hK hP rfl rfl rfl hl.1 rfl (Nat.le_of_ble_eq_true rfl) dX3_hasSide_50 ⟨Nat.zero_le _, Nat.zero_le _⟩ ?_
          refine lv_iload_n hx hb dX3_hasSide_53 rfl (lv_at hl 2 rfl) ?_
          refine lv_icmp_ne (tgt := 59) hx hb dX3_hasSide_54 (by decide) (fun c_7 => ?_) (fun c_7 => ?_)
          · skip
            have c_7 : ¬ (gc w.1 t (n + 1) = x) := fun hq9 => c_7 ((nI_eq (a := gc w.1 t (n + 1)) (b := x) (by omega) (by omega)).mpr hq9)
            refine lv_iinc (v := nI (n + 1)) (lv' := [(4, .int (nI (n + 1))), (0, .ref (b 0)), (1, .int (nI (t))), (2, .int (nI (x))), (3, .int (nI (y)))]) hx hb dX3_hasSide_59 hl (k := 4) rfl (nI_1 (n)) (by decide) rfl (fun ls hl => ?_)
            refine lv_goto (tgt := 3) hx hb dX3_hasSide_62 (by decide) ?_
            exact ih_k (k - 1) (n + 1) ls (by omega) ⟨by omega, hi.trans (fnd_miss (by omega) (by first | (simp [c_1, c_2, c_5, c_6, c_7]; done) | (simp; omega)))⟩ (lv_sub hl [1, 2, 3, 4, 0] rfl)
          · skip
            have c_7 : gc w.1 t (n + 1) = x := (nI_eq (a := gc w.1 t (n + 1)) (b := x) (by omega) (by omega)).mp c_7
            refine lv_iconst (v := nI (1)) hx hb dX3_hasSide_57 (by decide) ?_
            exact ro_zret hx hb hr (by decide) (rb_1 (by rw [hsd, hi, fnd_hit (by omega) (by first | (simp [c_1, c_2, c_5, c_6, c_7]; done) | (simp; omega))]; rfl)) dX3_hasSide_58 hlocks
set_option maxHeartbeats 4000000 in
set_option maxRecDepth 100000 in
theorem c_X3_cornerPoints (l : Launch) (dC : Nat → ClassId) (dI : Nat → Nat → Nat) (cI cL cZ : ClassId) (b : Nat → Nat) (w : MV)  (hv : okM w) : Met l yX3_cornerPoints wsX3_cornerPoints ({ frames := 2, cells := 0, slots := 0, locals := 44 }) (va_Pc [.ref (b 0)] (ro_B (dC, dI) vwCl (wM cI cZ b w) (tyS cI cL cZ))) (k2_QcV (.int (nI (mcpC w)))) 0 0 (fun _ => False) := by
  refine ro_Met (cc := cX3_cornerPoints) (maxL := 5) (ret := (some .int)) (by decide) rfl (Nat.le_of_ble_eq_true rfl) ?_
  intro pr en s m below meth co ls hx hb hml hr hlocks hown hts hP hK hl
  have hl : lv_has ls 5 [(0, .ref (b 0))] := hl
  have hown : s.vm.findClass RX3 = some m.cls := hown
  have hvp : mPn w ≤ 60 ∧ mTm w ≤ 200 ∧ mTn w ≤ 60 := ⟨hv.2.1, hv.2.2.1, hv.2.2.2.1⟩
  refine lv_iconst (v := nI (0)) hx hb dX3_cornerPoints_0 (by decide) ?_
  refine lv_istore_n (lv' := [(1, .int (nI (0))), (0, .ref (b 0))]) hx hb dX3_cornerPoints_1 rfl hl (by decide) rfl (fun ls hl => ?_)
  refine lv_iconst (v := nI (0)) hx hb dX3_cornerPoints_2 (by decide) ?_
  refine lv_istore_n (lv' := [(2, .int (nI (0))), (1, .int (nI (0))), (0, .ref (b 0))]) hx hb dX3_cornerPoints_3 rfl hl (by decide) rfl (fun ls hl => ?_)
  refine lp (σ := Nat × Nat) (LV := fun (n, sm) => [(0, .ref (b 0)), (1, .int (nI (sm))), (2, .int (nI (n)))]) (I := fun k (n, sm) => n + k = mPn w ∧ mcpC w = sm + cnt (fun p => anf (fun t => mIs w t && hcr w.1 t p) (mTm w) 0) k n) (fun k (n, sm) ls hI_k hl ih_k => ?_) (mPn w) (0, 0) ls ⟨by omega, by simp [mcpC]⟩ (lv_sub hl [2, 1, 0] rfl)
  obtain ⟨hk, hi⟩ := hI_k
  refine lv_iload_n hx hb dX3_cornerPoints_4 rfl (lv_at hl 2 rfl) ?_
  refine lv_aload_n hx hb dX3_cornerPoints_5 rfl (lv_at hl 0 rfl) ?_
  refine va_get (D := (dC, dI)) (ci := 3) (v := .int (nI (mPn w))) (C := RX3) (T := TX3) (N := 11) hx hb hts (by decide +kernel) hown hK hP 0 rfl rfl 1 (by decide) (hts (.fieldLink RX3 40 "TriangleSheetModel" "points" "I") (by decide +kernel)) (fun _ h9 => h9) rfl dX3_cornerPoints_6 ?_
  refine lv_icmp_ge (tgt := 80) hx hb dX3_cornerPoints_9 (by decide) (fun c_1 => ?_) (fun c_1 => ?_)
  · skip
    have c_1 : mPn w ≤ n := (nI_leI (a := mPn w) (b := n) (by omega) (by omega)).mp c_1
    refine lv_iload_n hx hb dX3_cornerPoints_80 rfl (lv_at hl 1 rfl) ?_
    exact ro_iret hx hb hr (rn (by rw [hi, show k = 0 by omega]; simp [cnt])) dX3_cornerPoints_81 hlocks
  · skip
    have c_1 : ¬ (mPn w ≤ n) := fun hq9 => c_1 ((nI_leI (a := mPn w) (b := n) (by omega) (by omega)).mpr hq9)
    refine lv_iconst (v := nI (0)) hx hb dX3_cornerPoints_12 (by decide) ?_
    refine lv_istore_n (lv' := [(3, .int (nI (0))), (0, .ref (b 0)), (1, .int (nI (sm))), (2, .int (nI (n)))]) hx hb dX3_cornerPoints_13 rfl hl (by decide) rfl (fun ls hl => ?_)
    refine lv_iconst (v := nI (0)) hx hb dX3_cornerPoints_14 (by decide) ?_
    refine lv_istore (lv' := [(4, .int (nI (0))), (3, .int (nI (0))), (0, .ref (b 0)), (1, .int (nI (sm))), (2, .int (nI (n)))]) hx hb dX3_cornerPoints_15 hl (by decide) rfl (fun ls hl => ?_)
    refine lp (σ := Nat × Bool) (LV := fun (t2, b2) => [(0, .ref (b 0)), (1, .int (nI (sm))), (2, .int (nI (n))), (3, .int (bI (b2))), (4, .int (nI (t2)))]) (I := fun k2 (t2, b2) => t2 + k2 = mTm w ∧ anf (fun t => mIs w t && hcr w.1 t n) (mTm w) 0 = (b2 || anf (fun t => mIs w t && hcr w.1 t n) k2 t2)) (fun k2 (t2, b2) ls hI_k2 hl ih_k2 => ?_) (mTm w) (0, false) ls ⟨by omega, (Bool.false_or _).symm⟩ (lv_sub hl [2, 3, 4, 1, 0] rfl)
    obtain ⟨hk2, hi2⟩ := hI_k2
    refine lv_iload hx hb dX3_cornerPoints_17 (lv_at hl 4 rfl) ?_
    refine lv_aload_n hx hb dX3_cornerPoints_19 rfl (lv_at hl 0 rfl) ?_
    refine va_get (D := (dC, dI)) (ci := 3) (v := .int (nI (mTm w))) (C := RX3) (T := TX3) (N := 11) hx hb hts (by decide +kernel) hown hK hP 0 rfl rfl 2 (by decide) (hts (.fieldLink RX3 43 "TriangleSheetModel" "came" "I") (by decide +kernel)) (fun _ h9 => h9) rfl dX3_cornerPoints_20 ?_
    refine lv_icmp_ge (tgt := 62) hx hb dX3_cornerPoints_23 (by decide) (fun c_2 => ?_) (fun c_2 => ?_)
    · skip
      have c_2 : mTm w ≤ t2 := (nI_leI (a := mTm w) (b := t2) (by omega) (by omega)).mp c_2
      refine lv_iload_n hx hb dX3_cornerPoints_62 rfl (lv_at hl 1 rfl) ?_
      refine lv_iload_n hx hb dX3_cornerPoints_63 rfl (lv_at hl 3 rfl) ?_
      have hj_3 : W pr l en ({ frames := 2, cells := 0, slots := 0, locals := 44 }) s m [.ref (b 0)].toArray below meth co s.heap [] 0 0 (MQ below (k2_QcV (.int (nI (mcpC w)))) [.ref (b 0)].toArray s 0 0 (fun _ => False)) (F0 m 72 ls [.int (nI (b2.toNat)), .int (nI (sm))]) := by
        refine lv_iadd hx hb dX3_cornerPoints_72 ?_
        refine rt_i (y := (nI (sm + b2.toNat))) (nn_add (sm) (b2.toNat)) ?_
        refine lv_istore_n (lv' := [(1, .int (nI (sm + b2.toNat))), (0, .ref (b 0)), (2, .int (nI (n))), (3, .int (bI (b2))), (4, .int (nI (t2)))]) hx hb dX3_cornerPoints_73 rfl hl (by decide) rfl (fun ls hl => ?_)
        refine lv_iinc (v := nI (n + 1)) (lv' := [(2, .int (nI (n + 1))), (1, .int (nI (sm + b2.toNat))), (0, .ref (b 0)), (3, .int (bI (b2))), (4, .int (nI (t2)))]) hx hb dX3_cornerPoints_74 hl (k := 2) rfl (nI_1 (n)) (by decide) rfl (fun ls hl => ?_)
        refine lv_goto (tgt := 4) hx hb dX3_cornerPoints_77 (by decide) ?_
        exact ih_k (k - 1) (n + 1, sm + b2.toNat) ls (by omega) ⟨by omega, by have e9 : anf (fun t => mIs w t && hcr w.1 t n) (mTm w) 0 = b2 := (by rw [hi2, show k2 = 0 by omega]; simp [anf]); rw [hi, cnt_s (by omega), e9]; omega⟩ (lv_sub hl [2, 1, 0] rfl)
      refine lv_if_eq (tgt := 71) hx hb dX3_cornerPoints_64 (by decide) (fun c_4 => ?_) (fun c_4 => ?_)
      · skip
        have c_4 : (b2) = false := bI_f c_4
        refine lv_iconst (v := nI (0)) hx hb dX3_cornerPoints_71 (by decide) ?_
        refine rt_i (y := (nI (b2.toNat))) (congrArg nI (by simp [c_1, c_2, c_4])) ?_
        exact hj_3
      · skip
        have c_4 : (b2) = true := bI_t c_4
        refine lv_iconst (v := nI (1)) hx hb dX3_cornerPoints_67 (by decide) ?_
        refine lv_goto (tgt := 72) hx hb dX3_cornerPoints_68 (by decide) ?_
        refine rt_i (y := (nI (b2.toNat))) (congrArg nI (by simp [c_1, c_2, c_4])) ?_
        exact hj_3
    · skip
      have c_2 : ¬ (mTm w ≤ t2) := fun hq9 => c_2 ((nI_leI (a := mTm w) (b := t2) (by omega) (by omega)).mpr hq9)
      refine lv_iload_n hx hb dX3_cornerPoints_26 rfl (lv_at hl 3 rfl) ?_
      refine lv_if_ne (tgt := 50) hx hb dX3_cornerPoints_27 (by decide) (fun c_5 => ?_) (fun c_5 => ?_)
      · skip
        have c_5 : (b2) = true := bI_t c_5
        refine lv_iconst (v := nI (1)) hx hb dX3_cornerPoints_50 (by decide) ?_
        refine lv_goto (tgt := 55) hx hb dX3_cornerPoints_51 (by decide) ?_
        refine lv_istore_n (lv' := [(3, .int (nI (1))), (0, .ref (b 0)), (1, .int (nI (sm))), (2, .int (nI (n))), (4, .int (nI (t2)))]) hx hb dX3_cornerPoints_55 rfl hl (by decide) rfl (fun ls hl => ?_)
        refine lv_iinc (v := nI (t2 + 1)) (lv' := [(4, .int (nI (t2 + 1))), (3, .int (nI (1))), (0, .ref (b 0)), (1, .int (nI (sm))), (2, .int (nI (n)))]) hx hb dX3_cornerPoints_56 hl (k := 4) rfl (nI_1 (t2)) (by decide) rfl (fun ls hl => ?_)
        refine lv_goto (tgt := 17) hx hb dX3_cornerPoints_59 (by decide) ?_
        exact ih_k2 (k2 - 1) (t2 + 1, true) ls (by omega) ⟨by omega, by rw [hi2, anf_s (by omega)]; simp [c_1, c_2, c_5]⟩ (lv_sub hl [2, 3, 4, 1, 0] rfl)
      · skip
        have c_5 : (b2) = false := bI_f c_5
        refine lv_aload_n hx hb dX3_cornerPoints_30 rfl (lv_at hl 0 rfl) ?_
        refine va_get (D := (dC, dI)) (ci := 3) (v := .ref (b 3)) (C := RX3) (T := TX3) (N := 11) hx hb hts (by decide +kernel) hown hK hP 0 rfl rfl 6 (by decide) (hts (.fieldLink RX3 16 "TriangleSheetModel" "is" "[Z") (by decide +kernel)) (fun _ h9 => h9) rfl dX3_cornerPoints_31 ?_
        refine lv_iload hx hb dX3_cornerPoints_34 (lv_at hl 4 rfl) ?_
        refine za_ld (k := t2) hx hb hK hP 3 2 rfl rfl (by omega) (by decide) dX3_cornerPoints_36 ?_
        refine W.eq (g2 := F0 m 37 ls [.int (bI (mIs w (t2)))]) rfl ?_
        refine lv_if_eq (tgt := 54) hx hb dX3_cornerPoints_37 (by decide) (fun c_6 => ?_) (fun c_6 => ?_)
        · skip
          have c_6 : (mIs w (t2)) = false := bI_f c_6
          refine lv_iconst (v := nI (0)) hx hb dX3_cornerPoints_54 (by decide) ?_
          refine lv_istore_n (lv' := [(3, .int (nI (0))), (0, .ref (b 0)), (1, .int (nI (sm))), (2, .int (nI (n))), (4, .int (nI (t2)))]) hx hb dX3_cornerPoints_55 rfl hl (by decide) rfl (fun ls hl => ?_)
          refine lv_iinc (v := nI (t2 + 1)) (lv' := [(4, .int (nI (t2 + 1))), (3, .int (nI (0))), (0, .ref (b 0)), (1, .int (nI (sm))), (2, .int (nI (n)))]) hx hb dX3_cornerPoints_56 hl (k := 4) rfl (nI_1 (t2)) (by decide) rfl (fun ls hl => ?_)
          refine lv_goto (tgt := 17) hx hb dX3_cornerPoints_59 (by decide) ?_
          exact ih_k2 (k2 - 1) (t2 + 1, false) ls (by omega) ⟨by omega, by rw [hi2, anf_s (by omega)]; simp [c_1, c_2, c_5, c_6]⟩ (lv_sub hl [2, 3, 4, 1, 0] rfl)
        · skip
          have c_6 : (mIs w (t2)) = true := bI_t c_6
          refine lv_aload_n hx hb dX3_cornerPoints_40 rfl (lv_at hl 0 rfl) ?_
          refine lv_iload hx hb dX3_cornerPoints_41 (lv_at hl 4 rfl) ?_
          refine lv_iload_n hx hb dX3_cornerPoints_43 rfl (lv_at hl 2 rfl) ?_
          refine ro_V (As := [.int (nI (t2)), .int (nI (n))]) (rest := []) (q0 := 0) (ci := 3) hx hb hml hown hts (c_X3_isCorner l dC dI cI cL cZ b w t2 n hv (by omega) (by omega)) (cwV 2 hts gX3_cornerPoints_X3_isCorner rfl rfl rfl (by decide +kernel) ⟨Nat.le_of_ble_eq_true rfl, Nat.le_of_ble_eq_true rfl⟩) hK hP rfl rfl rfl hl.1 rfl (Nat.le_of_ble_eq_true rfl) dX3_cornerPoints_44 ⟨Nat.zero_le _, Nat.zero_le _⟩ ?_
          refine lv_if_eq (tgt := 54) hx hb dX3_cornerPoints_47 (by decide) (fun c_7 => ?_) (fun c_7 => ?_)
          · skip
            have c_7 : (hcr w.1 t2 n) = false := bI_f c_7
            refine lv_iconst (v := nI (0)) hx hb dX3_cornerPoints_54 (by decide) ?_
            refine lv_istore_n (lv' := [(3, .int (nI (0))), (0, .ref (b 0)), (1, .int (nI (sm))), (2, .int (nI (n))), (4, .int (nI (t2)))]) hx hb dX3_cornerPoints_55 rfl hl (by decide) rfl (fun ls hl => ?_)
            refine lv_iinc (v := nI (t2 + 1)) (lv' := [(4, .int (nI (t2 + 1))), (3, .int (nI (0))), (0, .ref (b 0)), (1, .int (nI (sm))), (2, .int (nI (n)))]) hx hb dX3_cornerPoints_56 hl (k := 4) rfl (nI_1 (t2)) (by decide) rfl (fun ls hl => ?_)
            refine lv_goto (tgt := 17) hx hb dX3_cornerPoints_59 (by decide) ?_
            exact ih_k2 (k2 - 1) (t2 + 1, false) ls (by omega) ⟨by omega, by rw [hi2, anf_s (by omega)]; simp [c_1, c_2, c_5, c_6, c_7]⟩ (lv_sub hl [2, 3, 4, 1, 0] rfl)
          · skip
            have c_7 : (hcr w.1 t2 n) = true := bI_t c_7
            refine lv_iconst (v := nI (1)) hx hb dX3_cornerPoints_50 (by decide) ?_
            refine lv_goto (tgt := 55) hx hb dX3_cornerPoints_51 (by decide) ?_
            refine lv_istore_n (lv' := [(3, .int (nI (1))), (0, .ref (b 0)), (1, .int (nI (sm))), (2, .int (nI (n))), (4, .int (nI (t2)))]) hx hb dX3_cornerPoints_55 rfl hl (by decide) rfl (fun ls hl => ?_)
            refine lv_iinc (v := nI (t2 + 1)) (lv' := [(4, .int (nI (t2 + 1))), (3, .int (nI (1))), (0, .ref (b 0)), (1, .int (nI (sm))), (2, .int (nI (n)))]) hx hb dX3_cornerPoints_56 hl (k := 4) rfl (nI_1 (t2)) (by decide) rfl (fun ls hl => ?_)
            refine lv_goto (tgt := 17) hx hb dX3_cornerPoints_59 (by decide) ?_
            exact ih_k2 (k2 - 1) (t2 + 1, true) ls (by omega) ⟨by omega, by rw [hi2, anf_s (by omega)]; simp [c_1, c_2, c_5, c_6, c_7]⟩ (lv_sub hl [2, 3, 4, 1, 0] rfl)
set_option maxHeartbeats 4000000 in
set_option maxRecDepth 100000 in
theorem c_X3_sides (l : Launch) (dC : Nat → ClassId) (dI : Nat → Nat → Nat) (cI cL cZ : ClassId) (b : Nat → Nat) (w : MV)  (hv : okM w) : Met l yX3_sides wsX3_sides ({ frames := 2, cells := 0, slots := 0, locals := 46 }) (va_Pc [.ref (b 0)] (ro_B (dC, dI) vwCl (wM cI cZ b w) (tyS cI cL cZ))) (k2_QcV (.int (nI (msiC w)))) 0 0 (fun _ => False) := by
  refine ro_Met (cc := cX3_sides) (maxL := 6) (ret := (some .int)) (by decide) rfl (Nat.le_of_ble_eq_true rfl) ?_
  intro pr en s m below meth co ls hx hb hml hr hlocks hown hts hP hK hl
  have hl : lv_has ls 6 [(0, .ref (b 0))] := hl
  have hown : s.vm.findClass RX3 = some m.cls := hown
  have hvp : mPn w ≤ 60 ∧ mTm w ≤ 200 ∧ mTn w ≤ 60 := ⟨hv.2.1, hv.2.2.1, hv.2.2.2.1⟩
  refine lv_iconst (v := nI (0)) hx hb dX3_sides_0 (by decide) ?_
  refine lv_istore_n (lv' := [(1, .int (nI (0))), (0, .ref (b 0))]) hx hb dX3_sides_1 rfl hl (by decide) rfl (fun ls hl => ?_)
  refine lv_iconst (v := nI (0)) hx hb dX3_sides_2 (by decide) ?_
  refine lv_istore_n (lv' := [(2, .int (nI (0))), (1, .int (nI (0))), (0, .ref (b 0))]) hx hb dX3_sides_3 rfl hl (by decide) rfl (fun ls hl => ?_)
  refine lp (σ := Nat × Nat) (LV := fun (n, sm) => [(0, .ref (b 0)), (1, .int (nI (sm))), (2, .int (nI (n)))]) (I := fun k (n, sm) => n + k = mPn w ∧ msiC w = sm + smN (fun x => cnt (fun y => anf (fun t => mIs w t && hsd w.1 t x y) (mTm w) 0) x 0) k n) (fun k (n, sm) ls hI_k hl ih_k => ?_) (mPn w) (0, 0) ls ⟨by omega, by simp [msiC]⟩ (lv_sub hl [2, 1, 0] rfl)
  obtain ⟨hk, hi⟩ := hI_k
  refine lv_iload_n hx hb dX3_sides_4 rfl (lv_at hl 2 rfl) ?_
  refine lv_aload_n hx hb dX3_sides_5 rfl (lv_at hl 0 rfl) ?_
  refine va_get (D := (dC, dI)) (ci := 3) (v := .int (nI (mPn w))) (C := RX3) (T := TX3) (N := 11) hx hb hts (by decide +kernel) hown hK hP 0 rfl rfl 1 (by decide) (hts (.fieldLink RX3 40 "TriangleSheetModel" "points" "I") (by decide +kernel)) (fun _ h9 => h9) rfl dX3_sides_6 ?_
  refine lv_icmp_ge (tgt := 98) hx hb dX3_sides_9 (by decide) (fun c_1 => ?_) (fun c_1 => ?_)
  · skip
    have c_1 : mPn w ≤ n := (nI_leI (a := mPn w) (b := n) (by omega) (by omega)).mp c_1
    refine lv_iload_n hx hb dX3_sides_98 rfl (lv_at hl 1 rfl) ?_
    exact ro_iret hx hb hr (rn (by rw [hi, show k = 0 by omega]; simp [smN])) dX3_sides_99 hlocks
  · skip
    have c_1 : ¬ (mPn w ≤ n) := fun hq9 => c_1 ((nI_leI (a := mPn w) (b := n) (by omega) (by omega)).mpr hq9)
    refine lv_iconst (v := nI (0)) hx hb dX3_sides_12 (by decide) ?_
    refine lv_istore_n (lv' := [(3, .int (nI (0))), (0, .ref (b 0)), (1, .int (nI (sm))), (2, .int (nI (n)))]) hx hb dX3_sides_13 rfl hl (by decide) rfl (fun ls hl => ?_)
    refine lp (σ := Nat × Nat) (LV := fun (m2, s2) => [(0, .ref (b 0)), (1, .int (nI (s2))), (2, .int (nI (n))), (3, .int (nI (m2)))]) (I := fun k3 (m2, s2) => m2 + k3 = n ∧ sm + cnt (fun y => anf (fun t => mIs w t && hsd w.1 t n y) (mTm w) 0) n 0 = s2 + cnt (fun y => anf (fun t => mIs w t && hsd w.1 t n y) (mTm w) 0) k3 m2) (fun k3 (m2, s2) ls hI_k3 hl ih_k3 => ?_) (n) (0, sm) ls ⟨by omega, rfl⟩ (lv_sub hl [1, 2, 3, 0] rfl)
    obtain ⟨hk3, hi3⟩ := hI_k3
    refine lv_iload_n hx hb dX3_sides_14 rfl (lv_at hl 3 rfl) ?_
    refine lv_iload_n hx hb dX3_sides_15 rfl (lv_at hl 2 rfl) ?_
    refine lv_icmp_ge (tgt := 92) hx hb dX3_sides_16 (by decide) (fun c_2 => ?_) (fun c_2 => ?_)
    · skip
      have c_2 : n ≤ m2 := (nI_leI (a := n) (b := m2) (by omega) (by omega)).mp c_2
      refine lv_iinc (v := nI (n + 1)) (lv' := [(2, .int (nI (n + 1))), (0, .ref (b 0)), (1, .int (nI (s2))), (3, .int (nI (m2)))]) hx hb dX3_sides_92 hl (k := 2) rfl (nI_1 (n)) (by decide) rfl (fun ls hl => ?_)
      refine lv_goto (tgt := 4) hx hb dX3_sides_95 (by decide) ?_
      exact ih_k (k - 1) (n + 1, s2) ls (by omega) ⟨by omega, by rw [hi, smN_s (by omega)]; have e9 : k3 = 0 := by { omega }; rw [e9, cnt_0] at hi3; omega⟩ (lv_sub hl [1, 2, 0] rfl)
    · skip
      have c_2 : ¬ (n ≤ m2) := fun hq9 => c_2 ((nI_leI (a := n) (b := m2) (by omega) (by omega)).mpr hq9)
      refine lv_iconst (v := nI (0)) hx hb dX3_sides_19 (by decide) ?_
      refine lv_istore (lv' := [(4, .int (nI (0))), (0, .ref (b 0)), (1, .int (nI (s2))), (2, .int (nI (n))), (3, .int (nI (m2)))]) hx hb dX3_sides_20 hl (by decide) rfl (fun ls hl => ?_)
      refine lv_iconst (v := nI (0)) hx hb dX3_sides_22 (by decide) ?_
      refine lv_istore (lv' := [(5, .int (nI (0))), (4, .int (nI (0))), (0, .ref (b 0)), (1, .int (nI (s2))), (2, .int (nI (n))), (3, .int (nI (m2)))]) hx hb dX3_sides_23 hl (by decide) rfl (fun ls hl => ?_)
      refine lp (σ := Nat × Bool) (LV := fun (t2, b2) => [(0, .ref (b 0)), (1, .int (nI (s2))), (2, .int (nI (n))), (3, .int (nI (m2))), (4, .int (bI (b2))), (5, .int (nI (t2)))]) (I := fun k2 (t2, b2) => t2 + k2 = mTm w ∧ anf (fun t => mIs w t && hsd w.1 t n m2) (mTm w) 0 = (b2 || anf (fun t => mIs w t && hsd w.1 t n m2) k2 t2)) (fun k2 (t2, b2) ls hI_k2 hl ih_k2 => ?_) (mTm w) (0, false) ls ⟨by omega, (Bool.false_or _).symm⟩ (lv_sub hl [2, 3, 4, 5, 1, 0] rfl)
      obtain ⟨hk2, hi2⟩ := hI_k2
      refine lv_iload hx hb dX3_sides_25 (lv_at hl 5 rfl) ?_
      refine lv_aload_n hx hb dX3_sides_27 rfl (lv_at hl 0 rfl) ?_
      refine va_get (D := (dC, dI)) (ci := 3) (v := .int (nI (mTm w))) (C := RX3) (T := TX3) (N := 11) hx hb hts (by decide +kernel) hown hK hP 0 rfl rfl 2 (by decide) (hts (.fieldLink RX3 43 "TriangleSheetModel" "came" "I") (by decide +kernel)) (fun _ h9 => h9) rfl dX3_sides_28 ?_
      refine lv_icmp_ge (tgt := 73) hx hb dX3_sides_31 (by decide) (fun c_3 => ?_) (fun c_3 => ?_)
      · skip
        have c_3 : mTm w ≤ t2 := (nI_leI (a := mTm w) (b := t2) (by omega) (by omega)).mp c_3
        refine lv_iload_n hx hb dX3_sides_73 rfl (lv_at hl 1 rfl) ?_
        refine lv_iload hx hb dX3_sides_74 (lv_at hl 4 rfl) ?_
        have hj_4 : W pr l en ({ frames := 2, cells := 0, slots := 0, locals := 46 }) s m [.ref (b 0)].toArray below meth co s.heap [] 0 0 (MQ below (k2_QcV (.int (nI (msiC w)))) [.ref (b 0)].toArray s 0 0 (fun _ => False)) (F0 m 84 ls [.int (nI (b2.toNat)), .int (nI (s2))]) := by
          refine lv_iadd hx hb dX3_sides_84 ?_
          refine rt_i (y := (nI (s2 + b2.toNat))) (nn_add (s2) (b2.toNat)) ?_
          refine lv_istore_n (lv' := [(1, .int (nI (s2 + b2.toNat))), (0, .ref (b 0)), (2, .int (nI (n))), (3, .int (nI (m2))), (4, .int (bI (b2))), (5, .int (nI (t2)))]) hx hb dX3_sides_85 rfl hl (by decide) rfl (fun ls hl => ?_)
          refine lv_iinc (v := nI (m2 + 1)) (lv' := [(3, .int (nI (m2 + 1))), (1, .int (nI (s2 + b2.toNat))), (0, .ref (b 0)), (2, .int (nI (n))), (4, .int (bI (b2))), (5, .int (nI (t2)))]) hx hb dX3_sides_86 hl (k := 3) rfl (nI_1 (m2)) (by decide) rfl (fun ls hl => ?_)
          refine lv_goto (tgt := 14) hx hb dX3_sides_89 (by decide) ?_
          exact ih_k3 (k3 - 1) (m2 + 1, s2 + b2.toNat) ls (by omega) ⟨by omega, by have e9 : anf (fun t => mIs w t && hsd w.1 t n m2) (mTm w) 0 = b2 := (by rw [hi2, show k2 = 0 by omega]; simp [anf]); rw [hi3, cnt_s (by omega), e9]; omega⟩ (lv_sub hl [2, 1, 3, 0] rfl)
        refine lv_if_eq (tgt := 83) hx hb dX3_sides_76 (by decide) (fun c_5 => ?_) (fun c_5 => ?_)
        · skip
          have c_5 : (b2) = false := bI_f c_5
          refine lv_iconst (v := nI (0)) hx hb dX3_sides_83 (by decide) ?_
          refine rt_i (y := (nI (b2.toNat))) (congrArg nI (by simp [c_1, c_2, c_3, c_5])) ?_
          exact hj_4
        · skip
          have c_5 : (b2) = true := bI_t c_5
          refine lv_iconst (v := nI (1)) hx hb dX3_sides_79 (by decide) ?_
          refine lv_goto (tgt := 84) hx hb dX3_sides_80 (by decide) ?_
          refine rt_i (y := (nI (b2.toNat))) (congrArg nI (by simp [c_1, c_2, c_3, c_5])) ?_
          exact hj_4
      · skip
        have c_3 : ¬ (mTm w ≤ t2) := fun hq9 => c_3 ((nI_leI (a := mTm w) (b := t2) (by omega) (by omega)).mpr hq9)
        refine lv_iload hx hb dX3_sides_34 (lv_at hl 4 rfl) ?_
        refine lv_if_ne (tgt := 60) hx hb dX3_sides_36 (by decide) (fun c_6 => ?_) (fun c_6 => ?_)
        · skip
          have c_6 : (b2) = true := bI_t c_6
          refine lv_iconst (v := nI (1)) hx hb dX3_sides_60 (by decide) ?_
          refine lv_goto (tgt := 65) hx hb dX3_sides_61 (by decide) ?_
          refine lv_istore (lv' := [(4, .int (nI (1))), (0, .ref (b 0)), (1, .int (nI (s2))), (2, .int (nI (n))), (3, .int (nI (m2))), (5, .int (nI (t2)))]) hx hb dX3_sides_65 hl (by decide) rfl (fun ls hl => ?_)
          refine lv_iinc (v := nI (t2 + 1)) (lv' := [(5, .int (nI (t2 + 1))), (4, .int (nI (1))), (0, .ref (b 0)), (1, .int (nI (s2))), (2, .int (nI (n))), (3, .int (nI (m2)))]) hx hb dX3_sides_67 hl (k := 5) rfl (nI_1 (t2)) (by decide) rfl (fun ls hl => ?_)
          refine lv_goto (tgt := 25) hx hb dX3_sides_70 (by decide) ?_
          exact ih_k2 (k2 - 1) (t2 + 1, true) ls (by omega) ⟨by omega, by rw [hi2, anf_s (by omega)]; simp [c_1, c_2, c_3, c_6]⟩ (lv_sub hl [2, 3, 4, 5, 1, 0] rfl)
        · skip
          have c_6 : (b2) = false := bI_f c_6
          refine lv_aload_n hx hb dX3_sides_39 rfl (lv_at hl 0 rfl) ?_
          refine va_get (D := (dC, dI)) (ci := 3) (v := .ref (b 3)) (C := RX3) (T := TX3) (N := 11) hx hb hts (by decide +kernel) hown hK hP 0 rfl rfl 6 (by decide) (hts (.fieldLink RX3 16 "TriangleSheetModel" "is" "[Z") (by decide +kernel)) (fun _ h9 => h9) rfl dX3_sides_40 ?_
          refine lv_iload hx hb dX3_sides_43 (lv_at hl 5 rfl) ?_
          refine za_ld (k := t2) hx hb hK hP 3 2 rfl rfl (by omega) (by decide) dX3_sides_45 ?_
          refine W.eq (g2 := F0 m 46 ls [.int (bI (mIs w (t2)))]) rfl ?_
          refine lv_if_eq (tgt := 64) hx hb dX3_sides_46 (by decide) (fun c_7 => ?_) (fun c_7 => ?_)
          · skip
            have c_7 : (mIs w (t2)) = false := bI_f c_7
            refine lv_iconst (v := nI (0)) hx hb dX3_sides_64 (by decide) ?_
            refine lv_istore (lv' := [(4, .int (nI (0))), (0, .ref (b 0)), (1, .int (nI (s2))), (2, .int (nI (n))), (3, .int (nI (m2))), (5, .int (nI (t2)))]) hx hb dX3_sides_65 hl (by decide) rfl (fun ls hl => ?_)
            refine lv_iinc (v := nI (t2 + 1)) (lv' := [(5, .int (nI (t2 + 1))), (4, .int (nI (0))), (0, .ref (b 0)), (1, .int (nI (s2))), (2, .int (nI (n))), (3, .int (nI (m2)))]) hx hb dX3_sides_67 hl (k := 5) rfl (nI_1 (t2)) (by decide) rfl (fun ls hl => ?_)
            refine lv_goto (tgt := 25) hx hb dX3_sides_70 (by decide) ?_
            exact ih_k2 (k2 - 1) (t2 + 1, false) ls (by omega) ⟨by omega, by rw [hi2, anf_s (by omega)]; simp [c_1, c_2, c_3, c_6, c_7]⟩ (lv_sub hl [2, 3, 4, 5, 1, 0] rfl)
          · skip
            have c_7 : (mIs w (t2)) = true := bI_t c_7
            refine lv_aload_n hx hb dX3_sides_49 rfl (lv_at hl 0 rfl) ?_
            refine lv_iload hx hb dX3_sides_50 (lv_at hl 5 rfl) ?_
            refine lv_iload_n hx hb dX3_sides_52 rfl (lv_at hl 2 rfl) ?_
            refine lv_iload_n hx hb dX3_sides_53 rfl (lv_at hl 3 rfl) ?_
            refine ro_V (As := [.int (nI (t2)), .int (nI (n)), .int (nI (m2))]) (rest := []) (q0 := 0) (ci := 3) hx hb hml hown hts (c_X3_hasSide l dC dI cI cL cZ b w t2 n m2 hv (by omega) (by omega) (by omega)) (cwV 3 hts gX3_sides_X3_hasSide rfl rfl rfl (by decide +kernel) ⟨Nat.le_of_ble_eq_true rfl, Nat.le_of_ble_eq_true rfl⟩) hK hP rfl rfl rfl hl.1 rfl (Nat.le_of_ble_eq_true rfl) dX3_sides_54 ⟨Nat.zero_le _, Nat.zero_le _⟩ ?_
            refine lv_if_eq (tgt := 64) hx hb dX3_sides_57 (by decide) (fun c_8 => ?_) (fun c_8 => ?_)
            · skip
              have c_8 : (hsd w.1 t2 n m2) = false := bI_f c_8
              refine lv_iconst (v := nI (0)) hx hb dX3_sides_64 (by decide) ?_
              refine lv_istore (lv' := [(4, .int (nI (0))), (0, .ref (b 0)), (1, .int (nI (s2))), (2, .int (nI (n))), (3, .int (nI (m2))), (5, .int (nI (t2)))]) hx hb dX3_sides_65 hl (by decide) rfl (fun ls hl => ?_)
              refine lv_iinc (v := nI (t2 + 1)) (lv' := [(5, .int (nI (t2 + 1))), (4, .int (nI (0))), (0, .ref (b 0)), (1, .int (nI (s2))), (2, .int (nI (n))), (3, .int (nI (m2)))]) hx hb dX3_sides_67 hl (k := 5) rfl (nI_1 (t2)) (by decide) rfl (fun ls hl => ?_)
              refine lv_goto (tgt := 25) hx hb dX3_sides_70 (by decide) ?_
              exact ih_k2 (k2 - 1) (t2 + 1, false) ls (by omega) ⟨by omega, by rw [hi2, anf_s (by omega)]; simp [c_1, c_2, c_3, c_6, c_7, c_8]⟩ (lv_sub hl [2, 3, 4, 5, 1, 0] rfl)
            · skip
              have c_8 : (hsd w.1 t2 n m2) = true := bI_t c_8
              refine lv_iconst (v := nI (1)) hx hb dX3_sides_60 (by decide) ?_
              refine lv_goto (tgt := 65) hx hb dX3_sides_61 (by decide) ?_
              refine lv_istore (lv' := [(4, .int (nI (1))), (0, .ref (b 0)), (1, .int (nI (s2))), (2, .int (nI (n))), (3, .int (nI (m2))), (5, .int (nI (t2)))]) hx hb dX3_sides_65 hl (by decide) rfl (fun ls hl => ?_)
              refine lv_iinc (v := nI (t2 + 1)) (lv' := [(5, .int (nI (t2 + 1))), (4, .int (nI (1))), (0, .ref (b 0)), (1, .int (nI (s2))), (2, .int (nI (n))), (3, .int (nI (m2)))]) hx hb dX3_sides_67 hl (k := 5) rfl (nI_1 (t2)) (by decide) rfl (fun ls hl => ?_)
              refine lv_goto (tgt := 25) hx hb dX3_sides_70 (by decide) ?_
              exact ih_k2 (k2 - 1) (t2 + 1, true) ls (by omega) ⟨by omega, by rw [hi2, anf_s (by omega)]; simp [c_1, c_2, c_3, c_6, c_7, c_8]⟩ (lv_sub hl [2, 3, 4, 5, 1, 0] rfl)
set_option maxHeartbeats 4000000 in
set_option maxRecDepth 100000 in
theorem c_X3_edges_t (l : Launch) (dC : Nat → ClassId) (dI : Nat → Nat → Nat) (cI cL cZ : ClassId) (b : Nat → Nat) (w : MV)  (hv : okM w) : Met l yX3_edges wsX3_edges ({ frames := 2, cells := 0, slots := 0, locals := 46 }) (va_Pc [.ref (b 0), .int (bI (true))] (ro_B (dC, dI) vwCl (wM cI cZ b w) (tyS cI cL cZ))) (k2_QcV (.int (nI (medA w)))) 0 0 (fun _ => False) := by
  refine ro_Met (cc := cX3_edges) (maxL := 5) (ret := (some .int)) (by decide) rfl (Nat.le_of_ble_eq_true rfl) ?_
  intro pr en s m below meth co ls hx hb hml hr hlocks hown hts hP hK hl
  have hl : lv_has ls 5 [(0, .ref (b 0)), (1, .int (bI (true)))] := hl
  have hown : s.vm.findClass RX3 = some m.cls := hown
  have hvp : mPn w ≤ 60 ∧ mTm w ≤ 200 ∧ mTn w ≤ 60 := ⟨hv.2.1, hv.2.2.1, hv.2.2.2.1⟩
  refine lv_iconst (v := nI (0)) hx hb dX3_edges_0 (by decide) ?_
  refine lv_istore_n (lv' := [(2, .int (nI (0))), (0, .ref (b 0)), (1, .int (bI (true)))]) hx hb dX3_edges_1 rfl hl (by decide) rfl (fun ls hl => ?_)
  refine lv_iconst (v := nI (0)) hx hb dX3_edges_2 (by decide) ?_
  refine lv_istore_n (lv' := [(3, .int (nI (0))), (2, .int (nI (0))), (0, .ref (b 0)), (1, .int (bI (true)))]) hx hb dX3_edges_3 rfl hl (by decide) rfl (fun ls hl => ?_)
  refine lp (σ := Nat × Nat) (LV := fun (n, sm) => [(0, .ref (b 0)), (1, .int (bI (true))), (2, .int (nI (sm))), (3, .int (nI (n)))]) (I := fun k (n, sm) => n + k = mTm w ∧ medA w = sm + smN (fun t => if mIs w t = true then cnt (fun k => decide (mnb w t k = none)) 3 0 else 0) k n) (fun k (n, sm) ls hI_k hl ih_k => ?_) (mTm w) (0, 0) ls ⟨by omega, by simp [medA]⟩ (lv_sub hl [2, 3, 1, 0] rfl)
  obtain ⟨hk, hi⟩ := hI_k
  refine lv_iload_n hx hb dX3_edges_4 rfl (lv_at hl 3 rfl) ?_
  refine lv_aload_n hx hb dX3_edges_5 rfl (lv_at hl 0 rfl) ?_
  refine va_get (D := (dC, dI)) (ci := 3) (v := .int (nI (mTm w))) (C := RX3) (T := TX3) (N := 11) hx hb hts (by decide +kernel) hown hK hP 0 rfl rfl 2 (by decide) (hts (.fieldLink RX3 43 "TriangleSheetModel" "came" "I") (by decide +kernel)) (fun _ h9 => h9) rfl dX3_edges_6 ?_
  refine lv_icmp_ge (tgt := 83) hx hb dX3_edges_9 (by decide) (fun c_1 => ?_) (fun c_1 => ?_)
  · skip
    have c_1 : mTm w ≤ n := (nI_leI (a := mTm w) (b := n) (by omega) (by omega)).mp c_1
    refine lv_iload_n hx hb dX3_edges_83 rfl (lv_at hl 2 rfl) ?_
    exact ro_iret hx hb hr (rn (by rw [hi, show k = 0 by omega]; simp [smN])) dX3_edges_84 hlocks
  · skip
    have c_1 : ¬ (mTm w ≤ n) := fun hq9 => c_1 ((nI_leI (a := mTm w) (b := n) (by omega) (by omega)).mpr hq9)
    refine lv_iconst (v := nI (0)) hx hb dX3_edges_12 (by decide) ?_
    refine lv_istore (lv' := [(4, .int (nI (0))), (0, .ref (b 0)), (1, .int (bI (true))), (2, .int (nI (sm))), (3, .int (nI (n)))]) hx hb dX3_edges_13 hl (by decide) rfl (fun ls hl => ?_)
    refine lp (σ := Nat × Nat) (LV := fun (m2, s2) => [(0, .ref (b 0)), (1, .int (bI (true))), (2, .int (nI (s2))), (3, .int (nI (n))), (4, .int (nI (m2)))]) (I := fun k2 (m2, s2) => m2 + k2 = 3 ∧ (m2 = 0 → s2 = sm) ∧ (0 < m2 → mIs w n = true) ∧ sm + cnt (fun k => decide (mnb w n k = none)) 3 0 = s2 + cnt (fun k => decide (mnb w n k = none)) k2 m2) (fun k2 (m2, s2) ls hI_k2 hl ih_k2 => ?_) (3) (0, sm) ls ⟨by omega, fun _ => rfl, fun h => absurd h (by omega), rfl⟩ (lv_sub hl [1, 2, 3, 4, 0] rfl)
    obtain ⟨hk2, hz0, hz1, hi2⟩ := hI_k2
    refine lv_iload hx hb dX3_edges_15 (lv_at hl 4 rfl) ?_
    refine lv_iconst (v := nI (3)) hx hb dX3_edges_17 (by decide) ?_
    refine lv_icmp_ge (tgt := 77) hx hb dX3_edges_18 (by decide) (fun c_2 => ?_) (fun c_2 => ?_)
    · skip
      have c_2 : 3 ≤ m2 := (nI_leI (a := 3) (b := m2) (by omega) (by omega)).mp c_2
      refine lv_iinc (v := nI (n + 1)) (lv' := [(3, .int (nI (n + 1))), (0, .ref (b 0)), (1, .int (bI (true))), (2, .int (nI (s2))), (4, .int (nI (m2)))]) hx hb dX3_edges_77 hl (k := 3) rfl (nI_1 (n)) (by decide) rfl (fun ls hl => ?_)
      refine lv_goto (tgt := 4) hx hb dX3_edges_80 (by decide) ?_
      exact ih_k (k - 1) (n + 1, s2) ls (by omega) ⟨by omega, by rw [hi, smN_s (by omega)]; first | (rw [if_pos (hz1 (by omega))]; rw [show k2 = 0 by omega, cnt_0] at hi2; omega) | (have ez : mIs w n = false := (by assumption); have e0 : m2 = 0 := Nat.eq_zero_of_not_pos (fun h => absurd (hz1 h) (by rw [ez]; decide)); have e8 := hz0 e0; rw [if_neg (by rw [ez]; decide)]; omega)⟩ (lv_sub hl [1, 2, 3, 0] rfl)
    · skip
      have c_2 : ¬ (3 ≤ m2) := fun hq9 => c_2 ((nI_leI (a := 3) (b := m2) (by omega) (by omega)).mpr hq9)
      refine lv_aload_n hx hb dX3_edges_21 rfl (lv_at hl 0 rfl) ?_
      refine va_get (D := (dC, dI)) (ci := 3) (v := .ref (b 3)) (C := RX3) (T := TX3) (N := 11) hx hb hts (by decide +kernel) hown hK hP 0 rfl rfl 6 (by decide) (hts (.fieldLink RX3 16 "TriangleSheetModel" "is" "[Z") (by decide +kernel)) (fun _ h9 => h9) rfl dX3_edges_22 ?_
      refine lv_iload_n hx hb dX3_edges_25 rfl (lv_at hl 3 rfl) ?_
      refine za_ld (k := n) hx hb hK hP 3 2 rfl rfl (by omega) (by decide) dX3_edges_26 ?_
      refine W.eq (g2 := F0 m 27 ls [.int (bI (mIs w (n)))]) rfl ?_
      refine lv_if_eq (tgt := 77) hx hb dX3_edges_27 (by decide) (fun c_3 => ?_) (fun c_3 => ?_)
      · skip
        have c_3 : (mIs w (n)) = false := bI_f c_3
        refine lv_iinc (v := nI (n + 1)) (lv' := [(3, .int (nI (n + 1))), (0, .ref (b 0)), (1, .int (bI (true))), (2, .int (nI (s2))), (4, .int (nI (m2)))]) hx hb dX3_edges_77 hl (k := 3) rfl (nI_1 (n)) (by decide) rfl (fun ls hl => ?_)
        refine lv_goto (tgt := 4) hx hb dX3_edges_80 (by decide) ?_
        exact ih_k (k - 1) (n + 1, s2) ls (by omega) ⟨by omega, by rw [hi, smN_s (by omega)]; first | (rw [if_pos (hz1 (by omega))]; rw [show k2 = 0 by omega, cnt_0] at hi2; omega) | (have ez : mIs w n = false := (by assumption); have e0 : m2 = 0 := Nat.eq_zero_of_not_pos (fun h => absurd (hz1 h) (by rw [ez]; decide)); have e8 := hz0 e0; rw [if_neg (by rw [ez]; decide)]; omega)⟩ (lv_sub hl [1, 2, 3, 0] rfl)
      · skip
        have c_3 : (mIs w (n)) = true := bI_t c_3
        refine lv_iload_n hx hb dX3_edges_30 rfl (lv_at hl 2 rfl) ?_
        refine lv_iload_n hx hb dX3_edges_31 rfl (lv_at hl 1 rfl) ?_
        refine lv_if_eq (tgt := 54) hx hb dX3_edges_32 (by decide) (fun c_4 => absurd c_4 (by decide)) (fun c_4 => ?_)
        refine lv_aload_n hx hb dX3_edges_35 rfl (lv_at hl 0 rfl) ?_
        refine lv_iload_n hx hb dX3_edges_36 rfl (lv_at hl 3 rfl) ?_
        refine lv_iload hx hb dX3_edges_37 (lv_at hl 4 rfl) ?_
        refine ro_V (As := [.int (nI (n)), .int (nI (m2))]) (rest := [.int (nI (s2))]) (q0 := 0) (ci := 3) hx hb hml hown hts (c_X3_neighbour l dC dI cI cL cZ b w n m2 hv (by omega) (by omega)) (cwV 2 hts gX3_edges_X3_neighbour rfl rfl rfl (by decide +kernel) ⟨Nat.le_of_ble_eq_true rfl, Nat.le_of_ble_eq_true rfl⟩) hK hP rfl rfl rfl hl.1 rfl (Nat.le_of_ble_eq_true rfl) dX3_edges_39 ⟨Nat.zero_le _, Nat.zero_le _⟩ ?_
        have ps_5 : ∀ k, mnb w n m2 = some k → k < 2 ^ 31 := fun k h => by have := (mnb_lt h).1; omega
        refine lv_iconst (v := iI (-1)) hx hb dX3_edges_42 (by decide) ?_
        refine lv_icmp_ne (tgt := 50) hx hb dX3_edges_43 (by decide) (fun c_6 => ?_) (fun c_6 => ?_)
        · skip
          have c_6 : ¬ (mnb w n m2) = none := fun hq9 => c_6 ((oI_m1 (by assumption)).mpr hq9)
          refine lv_iconst (v := nI (0)) hx hb dX3_edges_50 (by decide) ?_
          refine lv_goto (tgt := 69) hx hb dX3_edges_51 (by decide) ?_
          refine lv_iadd hx hb dX3_edges_69 ?_
          refine rt_i (y := (nI (s2 + 0))) (nn_add (s2) (0)) ?_
          refine lv_istore_n (lv' := [(2, .int (nI (s2 + 0))), (0, .ref (b 0)), (1, .int (bI (true))), (3, .int (nI (n))), (4, .int (nI (m2)))]) hx hb dX3_edges_70 rfl hl (by decide) rfl (fun ls hl => ?_)
          refine lv_iinc (v := nI (m2 + 1)) (lv' := [(4, .int (nI (m2 + 1))), (2, .int (nI (s2 + 0))), (0, .ref (b 0)), (1, .int (bI (true))), (3, .int (nI (n)))]) hx hb dX3_edges_71 hl (k := 4) rfl (nI_1 (m2)) (by decide) rfl (fun ls hl => ?_)
          refine lv_goto (tgt := 15) hx hb dX3_edges_74 (by decide) ?_
          exact ih_k2 (k2 - 1) (m2 + 1, s2 + 0) ls (by omega) ⟨by omega, fun h => absurd h (by omega), fun _ => by assumption, by rw [hi2, cnt_s (by omega)]; simp [c_1, c_2, c_3, c_6]; try omega⟩ (lv_sub hl [2, 3, 1, 4, 0] rfl)
        · skip
          have c_6 : (mnb w n m2) = none := (oI_m1 (by assumption)).mp c_6
          refine lv_iconst (v := nI (1)) hx hb dX3_edges_46 (by decide) ?_
          refine lv_goto (tgt := 69) hx hb dX3_edges_47 (by decide) ?_
          refine lv_iadd hx hb dX3_edges_69 ?_
          refine rt_i (y := (nI (s2 + 1))) (nn_add (s2) (1)) ?_
          refine lv_istore_n (lv' := [(2, .int (nI (s2 + 1))), (0, .ref (b 0)), (1, .int (bI (true))), (3, .int (nI (n))), (4, .int (nI (m2)))]) hx hb dX3_edges_70 rfl hl (by decide) rfl (fun ls hl => ?_)
          refine lv_iinc (v := nI (m2 + 1)) (lv' := [(4, .int (nI (m2 + 1))), (2, .int (nI (s2 + 1))), (0, .ref (b 0)), (1, .int (bI (true))), (3, .int (nI (n)))]) hx hb dX3_edges_71 hl (k := 4) rfl (nI_1 (m2)) (by decide) rfl (fun ls hl => ?_)
          refine lv_goto (tgt := 15) hx hb dX3_edges_74 (by decide) ?_
          exact ih_k2 (k2 - 1) (m2 + 1, s2 + 1) ls (by omega) ⟨by omega, fun h => absurd h (by omega), fun _ => by assumption, by rw [hi2, cnt_s (by omega)]; simp [c_1, c_2, c_3, c_6]; try omega⟩ (lv_sub hl [2, 3, 1, 4, 0] rfl)
set_option maxHeartbeats 4000000 in
set_option maxRecDepth 100000 in
theorem c_X3_edges_f (l : Launch) (dC : Nat → ClassId) (dI : Nat → Nat → Nat) (cI cL cZ : ClassId) (b : Nat → Nat) (w : MV)  (hv : okM w) : Met l yX3_edges wsX3_edges ({ frames := 3, cells := 0, slots := 0, locals := 82 }) (va_Pc [.ref (b 0), .int (bI (false))] (ro_B (dC, dI) vwCl (wM cI cZ b w) (tyS cI cL cZ))) (k2_QcV (.int (nI (medG w)))) 0 0 (fun _ => False) := by
  refine ro_Met (cc := cX3_edges) (maxL := 5) (ret := (some .int)) (by decide) rfl (Nat.le_of_ble_eq_true rfl) ?_
  intro pr en s m below meth co ls hx hb hml hr hlocks hown hts hP hK hl
  have hl : lv_has ls 5 [(0, .ref (b 0)), (1, .int (bI (false)))] := hl
  have hown : s.vm.findClass RX3 = some m.cls := hown
  have hvp : mPn w ≤ 60 ∧ mTm w ≤ 200 ∧ mTn w ≤ 60 := ⟨hv.2.1, hv.2.2.1, hv.2.2.2.1⟩
  refine lv_iconst (v := nI (0)) hx hb dX3_edges_0 (by decide) ?_
  refine lv_istore_n (lv' := [(2, .int (nI (0))), (0, .ref (b 0)), (1, .int (bI (false)))]) hx hb dX3_edges_1 rfl hl (by decide) rfl (fun ls hl => ?_)
  refine lv_iconst (v := nI (0)) hx hb dX3_edges_2 (by decide) ?_
  refine lv_istore_n (lv' := [(3, .int (nI (0))), (2, .int (nI (0))), (0, .ref (b 0)), (1, .int (bI (false)))]) hx hb dX3_edges_3 rfl hl (by decide) rfl (fun ls hl => ?_)
  refine lp (σ := Nat × Nat) (LV := fun (n, sm) => [(0, .ref (b 0)), (1, .int (bI (false))), (2, .int (nI (sm))), (3, .int (nI (n)))]) (I := fun k (n, sm) => n + k = mTm w ∧ medG w = sm + smN (fun t => if mIs w t = true then cnt (fun k => !god w.1 t k (mnb w t k) (bey w.1 t k)) 3 0 else 0) k n) (fun k (n, sm) ls hI_k hl ih_k => ?_) (mTm w) (0, 0) ls ⟨by omega, by simp [medG]⟩ (lv_sub hl [2, 3, 1, 0] rfl)
  obtain ⟨hk, hi⟩ := hI_k
  refine lv_iload_n hx hb dX3_edges_4 rfl (lv_at hl 3 rfl) ?_
  refine lv_aload_n hx hb dX3_edges_5 rfl (lv_at hl 0 rfl) ?_
  refine va_get (D := (dC, dI)) (ci := 3) (v := .int (nI (mTm w))) (C := RX3) (T := TX3) (N := 11) hx hb hts (by decide +kernel) hown hK hP 0 rfl rfl 2 (by decide) (hts (.fieldLink RX3 43 "TriangleSheetModel" "came" "I") (by decide +kernel)) (fun _ h9 => h9) rfl dX3_edges_6 ?_
  refine lv_icmp_ge (tgt := 83) hx hb dX3_edges_9 (by decide) (fun c_1 => ?_) (fun c_1 => ?_)
  · skip
    have c_1 : mTm w ≤ n := (nI_leI (a := mTm w) (b := n) (by omega) (by omega)).mp c_1
    refine lv_iload_n hx hb dX3_edges_83 rfl (lv_at hl 2 rfl) ?_
    exact ro_iret hx hb hr (rn (by rw [hi, show k = 0 by omega]; simp [smN])) dX3_edges_84 hlocks
  · skip
    have c_1 : ¬ (mTm w ≤ n) := fun hq9 => c_1 ((nI_leI (a := mTm w) (b := n) (by omega) (by omega)).mpr hq9)
    refine lv_iconst (v := nI (0)) hx hb dX3_edges_12 (by decide) ?_
    refine lv_istore (lv' := [(4, .int (nI (0))), (0, .ref (b 0)), (1, .int (bI (false))), (2, .int (nI (sm))), (3, .int (nI (n)))]) hx hb dX3_edges_13 hl (by decide) rfl (fun ls hl => ?_)
    refine lp (σ := Nat × Nat) (LV := fun (m2, s2) => [(0, .ref (b 0)), (1, .int (bI (false))), (2, .int (nI (s2))), (3, .int (nI (n))), (4, .int (nI (m2)))]) (I := fun k2 (m2, s2) => m2 + k2 = 3 ∧ (m2 = 0 → s2 = sm) ∧ (0 < m2 → mIs w n = true) ∧ sm + cnt (fun k => !god w.1 n k (mnb w n k) (bey w.1 n k)) 3 0 = s2 + cnt (fun k => !god w.1 n k (mnb w n k) (bey w.1 n k)) k2 m2) (fun k2 (m2, s2) ls hI_k2 hl ih_k2 => ?_) (3) (0, sm) ls ⟨by omega, fun _ => rfl, fun h => absurd h (by omega), rfl⟩ (lv_sub hl [1, 2, 3, 4, 0] rfl)
    obtain ⟨hk2, hz0, hz1, hi2⟩ := hI_k2
    refine lv_iload hx hb dX3_edges_15 (lv_at hl 4 rfl) ?_
    refine lv_iconst (v := nI (3)) hx hb dX3_edges_17 (by decide) ?_
    refine lv_icmp_ge (tgt := 77) hx hb dX3_edges_18 (by decide) (fun c_2 => ?_) (fun c_2 => ?_)
    · skip
      have c_2 : 3 ≤ m2 := (nI_leI (a := 3) (b := m2) (by omega) (by omega)).mp c_2
      refine lv_iinc (v := nI (n + 1)) (lv' := [(3, .int (nI (n + 1))), (0, .ref (b 0)), (1, .int (bI (false))), (2, .int (nI (s2))), (4, .int (nI (m2)))]) hx hb dX3_edges_77 hl (k := 3) rfl (nI_1 (n)) (by decide) rfl (fun ls hl => ?_)
      refine lv_goto (tgt := 4) hx hb dX3_edges_80 (by decide) ?_
      exact ih_k (k - 1) (n + 1, s2) ls (by omega) ⟨by omega, by rw [hi, smN_s (by omega)]; first | (rw [if_pos (hz1 (by omega))]; rw [show k2 = 0 by omega, cnt_0] at hi2; omega) | (have ez : mIs w n = false := (by assumption); have e0 : m2 = 0 := Nat.eq_zero_of_not_pos (fun h => absurd (hz1 h) (by rw [ez]; decide)); have e8 := hz0 e0; rw [if_neg (by rw [ez]; decide)]; omega)⟩ (lv_sub hl [1, 2, 3, 0] rfl)
    · skip
      have c_2 : ¬ (3 ≤ m2) := fun hq9 => c_2 ((nI_leI (a := 3) (b := m2) (by omega) (by omega)).mpr hq9)
      refine lv_aload_n hx hb dX3_edges_21 rfl (lv_at hl 0 rfl) ?_
      refine va_get (D := (dC, dI)) (ci := 3) (v := .ref (b 3)) (C := RX3) (T := TX3) (N := 11) hx hb hts (by decide +kernel) hown hK hP 0 rfl rfl 6 (by decide) (hts (.fieldLink RX3 16 "TriangleSheetModel" "is" "[Z") (by decide +kernel)) (fun _ h9 => h9) rfl dX3_edges_22 ?_
      refine lv_iload_n hx hb dX3_edges_25 rfl (lv_at hl 3 rfl) ?_
      refine za_ld (k := n) hx hb hK hP 3 2 rfl rfl (by omega) (by decide) dX3_edges_26 ?_
      refine W.eq (g2 := F0 m 27 ls [.int (bI (mIs w (n)))]) rfl ?_
      refine lv_if_eq (tgt := 77) hx hb dX3_edges_27 (by decide) (fun c_3 => ?_) (fun c_3 => ?_)
      · skip
        have c_3 : (mIs w (n)) = false := bI_f c_3
        refine lv_iinc (v := nI (n + 1)) (lv' := [(3, .int (nI (n + 1))), (0, .ref (b 0)), (1, .int (bI (false))), (2, .int (nI (s2))), (4, .int (nI (m2)))]) hx hb dX3_edges_77 hl (k := 3) rfl (nI_1 (n)) (by decide) rfl (fun ls hl => ?_)
        refine lv_goto (tgt := 4) hx hb dX3_edges_80 (by decide) ?_
        exact ih_k (k - 1) (n + 1, s2) ls (by omega) ⟨by omega, by rw [hi, smN_s (by omega)]; first | (rw [if_pos (hz1 (by omega))]; rw [show k2 = 0 by omega, cnt_0] at hi2; omega) | (have ez : mIs w n = false := (by assumption); have e0 : m2 = 0 := Nat.eq_zero_of_not_pos (fun h => absurd (hz1 h) (by rw [ez]; decide)); have e8 := hz0 e0; rw [if_neg (by rw [ez]; decide)]; omega)⟩ (lv_sub hl [1, 2, 3, 0] rfl)
      · skip
        have c_3 : (mIs w (n)) = true := bI_t c_3
        refine lv_iload_n hx hb dX3_edges_30 rfl (lv_at hl 2 rfl) ?_
        refine lv_iload_n hx hb dX3_edges_31 rfl (lv_at hl 1 rfl) ?_
        refine lv_if_eq (tgt := 54) hx hb dX3_edges_32 (by decide) (fun c_4 => ?_) (fun c_4 => absurd (by decide) c_4)
        refine lv_aload_n hx hb dX3_edges_54 rfl (lv_at hl 0 rfl) ?_
        refine lv_iload_n hx hb dX3_edges_55 rfl (lv_at hl 3 rfl) ?_
        refine lv_iload hx hb dX3_edges_56 (lv_at hl 4 rfl) ?_
        refine ro_V (As := [.int (nI (n)), .int (nI (m2))]) (rest := [.int (nI (s2))]) (q0 := 0) (ci := 3) hx hb hml hown hts (c_X3_good l dC dI cI cL cZ b w n m2 hv (by omega) (by omega)) (cwV 2 hts gX3_edges_X3_good rfl rfl rfl (by decide +kernel) ⟨Nat.le_of_ble_eq_true rfl, Nat.le_of_ble_eq_true rfl⟩) hK hP rfl rfl rfl hl.1 rfl (Nat.le_of_ble_eq_true rfl) dX3_edges_58 ⟨Nat.zero_le _, Nat.zero_le _⟩ ?_
        refine lv_if_eq (tgt := 68) hx hb dX3_edges_61 (by decide) (fun c_5 => ?_) (fun c_5 => ?_)
        · skip
          have c_5 : (god w.1 n m2 (mnb w n m2) (bey w.1 n m2)) = false := bI_f c_5
          refine lv_iconst (v := nI (1)) hx hb dX3_edges_68 (by decide) ?_
          refine lv_iadd hx hb dX3_edges_69 ?_
          refine rt_i (y := (nI (s2 + 1))) (nn_add (s2) (1)) ?_
          refine lv_istore_n (lv' := [(2, .int (nI (s2 + 1))), (0, .ref (b 0)), (1, .int (bI (false))), (3, .int (nI (n))), (4, .int (nI (m2)))]) hx hb dX3_edges_70 rfl hl (by decide) rfl (fun ls hl => ?_)
          refine lv_iinc (v := nI (m2 + 1)) (lv' := [(4, .int (nI (m2 + 1))), (2, .int (nI (s2 + 1))), (0, .ref (b 0)), (1, .int (bI (false))), (3, .int (nI (n)))]) hx hb dX3_edges_71 hl (k := 4) rfl (nI_1 (m2)) (by decide) rfl (fun ls hl => ?_)
          refine lv_goto (tgt := 15) hx hb dX3_edges_74 (by decide) ?_
          exact ih_k2 (k2 - 1) (m2 + 1, s2 + 1) ls (by omega) ⟨by omega, fun h => absurd h (by omega), fun _ => by assumption, by rw [hi2, cnt_s (by omega)]; simp [c_1, c_2, c_3, c_5]; try omega⟩ (lv_sub hl [2, 3, 1, 4, 0] rfl)
        · skip
          have c_5 : (god w.1 n m2 (mnb w n m2) (bey w.1 n m2)) = true := bI_t c_5
          refine lv_iconst (v := nI (0)) hx hb dX3_edges_64 (by decide) ?_
          refine lv_goto (tgt := 69) hx hb dX3_edges_65 (by decide) ?_
          refine lv_iadd hx hb dX3_edges_69 ?_
          refine rt_i (y := (nI (s2 + 0))) (nn_add (s2) (0)) ?_
          refine lv_istore_n (lv' := [(2, .int (nI (s2 + 0))), (0, .ref (b 0)), (1, .int (bI (false))), (3, .int (nI (n))), (4, .int (nI (m2)))]) hx hb dX3_edges_70 rfl hl (by decide) rfl (fun ls hl => ?_)
          refine lv_iinc (v := nI (m2 + 1)) (lv' := [(4, .int (nI (m2 + 1))), (2, .int (nI (s2 + 0))), (0, .ref (b 0)), (1, .int (bI (false))), (3, .int (nI (n)))]) hx hb dX3_edges_71 hl (k := 4) rfl (nI_1 (m2)) (by decide) rfl (fun ls hl => ?_)
          refine lv_goto (tgt := 15) hx hb dX3_edges_74 (by decide) ?_
          exact ih_k2 (k2 - 1) (m2 + 1, s2 + 0) ls (by omega) ⟨by omega, fun h => absurd h (by omega), fun _ => by assumption, by rw [hi2, cnt_s (by omega)]; simp [c_1, c_2, c_3, c_5]; try omega⟩ (lv_sub hl [2, 3, 1, 4, 0] rfl)
set_option maxHeartbeats 4000000 in
set_option maxRecDepth 100000 in
theorem c_X3_point_1 (l : Launch) (dC : Nat → ClassId) (dI : Nat → Nat → Nat) (cI cL cZ : ClassId) (b : Nat → Nat) (w : MV) (x y : Int32) (hc : (inB x 512 && inB y 512) = false) : Met l yX3_point wsX3_point ({ frames := 2, cells := 0, slots := 0, locals := 42 }) (va_Pc [.ref (b 0), .int (x), .int (y)] (wr_B (dC, dI) vwCl (wM cI cZ b w) (tyS cI cL cZ))) (wr_Q (some (.int (nI (0)))) (dC, dI) vwCl (wM cI cZ b w) (wM cI cZ b (mThx w (nI 1)))) 0 0 (inW (wM cI cZ b w)) := by
  refine wr_Met (cc := cX3_point) (maxL := 3) (ret := (some .int)) (by decide) rfl (Nat.le_of_ble_eq_true rfl) ?_
  intro pr en s m below meth co ls hx hb hml hr hlocks hown hts hP hK hD hS hl
  have hl : lv_has ls 3 [(0, .ref (b 0)), (1, .int (x)), (2, .int (y))] := hl
  have hown : s.vm.findClass RX3 = some m.cls := hown
  refine lv_aload_n hx hb dX3_point_0 rfl (lv_at hl 0 rfl) ?_
  refine lv_iload_n hx hb dX3_point_1 rfl (lv_at hl 1 rfl) ?_
  refine lv_iload_n hx hb dX3_point_2 rfl (lv_at hl 2 rfl) ?_
  refine ro_S (As := [.int (x), .int (y)]) (rest := [.ref (b 0)]) hx hb hml hown hts (c_X3_isPlace l dC dI  x y ) (va_cwS 2 hts gX3_point_X3_isPlace rfl rfl rfl (by decide +kernel) ⟨Nat.le_of_ble_eq_true rfl, Nat.le_of_ble_eq_true rfl⟩) (hK.sub [] rfl) (hP.sub [] rfl) rfl hl.1 rfl (Nat.le_of_ble_eq_true rfl) dX3_point_3 ⟨Nat.zero_le _, Nat.zero_le _⟩ ?_
  refine lv_if_ne (tgt := 13) hx hb dX3_point_6 (by decide) (fun c_1 => ?_) (fun c_1 => ?_)
  · skip
    have c_1 : (inB x 512 && inB y 512) = true := bI_t c_1
    exact absurd c_1 (by rw [hc]; decide)
  · skip
    have c_1 : (inB x 512 && inB y 512) = false := bI_f c_1
    refine lv_iconst (v := nI (1)) hx hb dX3_point_9 (by decide) ?_
    refine lv_goto (tgt := 37) hx hb dX3_point_10 (by decide) ?_
    refine va_put (D := (dC, dI)) (ci := 3) (v := .int (nI (1))) (ty := .int) (C := RX3) (T := TX3) (N := 11) hx hb hts (by decide +kernel) tyX3 tyX3_ok nmX3 hown hK hP hD hS 0 rfl rfl 0 (by decide) (hts (.fieldLink RX3 33 "TriangleSheetModel" "thrown" "I") (by decide +kernel)) (fun _ h9 => h9) rfl (by decide +kernel) rfl rfl (Nat.le_of_ble_eq_true rfl) dX3_point_37 (fun H locs hP hD hS => ?_)
    have hP : va_P (dC, dI) vwCl (wM cI cZ b (((w.1.1, w.1.2.1, w.1.2.2), nI (1), mPn w, mTm w, mTn w, mIs w, mFi w, mSe w, mMk w))) H := hP
    have hD : va_D (inW (wM cI cZ b w)) (wM cI cZ b (((w.1.1, w.1.2.1, w.1.2.2), nI (1), mPn w, mTm w, mTn w, mIs w, mFi w, mSe w, mMk w))) := hD
    refine lv_aload_n hx hb dX3_point_40 rfl (lv_at hl 0 rfl) ?_
    refine va_get (D := (dC, dI)) (ci := 3) (v := .int (nI (1))) (C := RX3) (T := TX3) (N := 11) hx hb hts (by decide +kernel) hown hK hP 0 rfl rfl 0 (by decide) (hts (.fieldLink RX3 33 "TriangleSheetModel" "thrown" "I") (by decide +kernel)) (fun _ h9 => h9) rfl dX3_point_41 ?_
    refine lv_if_le (tgt := 49) hx hb dX3_point_44 (by decide) (fun c_2 => absurd c_2 (by decide)) (fun c_2 => ?_)
    refine lv_iconst (v := nI (0)) hx hb dX3_point_47 (by decide) ?_
    exact wr_iret hx hb hr hP hS rfl rfl dX3_point_48 hlocks
set_option maxHeartbeats 4000000 in
set_option maxRecDepth 100000 in
theorem c_X3_point_2 (l : Launch) (dC : Nat → ClassId) (dI : Nat → Nat → Nat) (cI cL cZ : ClassId) (b : Nat → Nat) (w : MV) (x y : Int32) (hv : okM w) (hc : (inB x 512 && inB y 512) = true) (hd : pAt w.1 (mPn w) x y = none → mPn w = 60) : Met l yX3_point wsX3_point ({ frames := 2, cells := 0, slots := 0, locals := 42 }) (va_Pc [.ref (b 0), .int (x), .int (y)] (wr_B (dC, dI) vwCl (wM cI cZ b w) (tyS cI cL cZ))) (wr_Q (some (.int (nI (0)))) (dC, dI) vwCl (wM cI cZ b w) (wM cI cZ b (mThx w (nI 2)))) 0 0 (inW (wM cI cZ b w)) := by
  refine wr_Met (cc := cX3_point) (maxL := 3) (ret := (some .int)) (by decide) rfl (Nat.le_of_ble_eq_true rfl) ?_
  intro pr en s m below meth co ls hx hb hml hr hlocks hown hts hP hK hD hS hl
  have hl : lv_has ls 3 [(0, .ref (b 0)), (1, .int (x)), (2, .int (y))] := hl
  have hown : s.vm.findClass RX3 = some m.cls := hown
  have hvp : mPn w ≤ 60 ∧ mTm w ≤ 200 ∧ mTn w ≤ 60 := ⟨hv.2.1, hv.2.2.1, hv.2.2.2.1⟩
  refine lv_aload_n hx hb dX3_point_0 rfl (lv_at hl 0 rfl) ?_
  refine lv_iload_n hx hb dX3_point_1 rfl (lv_at hl 1 rfl) ?_
  refine lv_iload_n hx hb dX3_point_2 rfl (lv_at hl 2 rfl) ?_
  refine ro_S (As := [.int (x), .int (y)]) (rest := [.ref (b 0)]) hx hb hml hown hts (c_X3_isPlace l dC dI  x y ) (va_cwS 2 hts gX3_point_X3_isPlace rfl rfl rfl (by decide +kernel) ⟨Nat.le_of_ble_eq_true rfl, Nat.le_of_ble_eq_true rfl⟩) (hK.sub [] rfl) (hP.sub [] rfl) rfl hl.1 rfl (Nat.le_of_ble_eq_true rfl) dX3_point_3 ⟨Nat.zero_le _, Nat.zero_le _⟩ ?_
  refine lv_if_ne (tgt := 13) hx hb dX3_point_6 (by decide) (fun c_1 => ?_) (fun c_1 => ?_)
  · skip
    have c_1 : (inB x 512 && inB y 512) = true := bI_t c_1
    refine lv_aload_n hx hb dX3_point_13 rfl (lv_at hl 0 rfl) ?_
    refine lv_iload_n hx hb dX3_point_14 rfl (lv_at hl 1 rfl) ?_
    refine lv_iload_n hx hb dX3_point_15 rfl (lv_at hl 2 rfl) ?_
    refine ro_V (As := [.int (x), .int (y)]) (rest := [.ref (b 0)]) (q0 := 0) (ci := 3) hx hb hml hown hts (c_X3_pointAt l dC dI cI cL cZ b w x y hv) (cwV 2 hts gX3_point_X3_pointAt rfl rfl rfl (by decide +kernel) ⟨Nat.le_of_ble_eq_true rfl, Nat.le_of_ble_eq_true rfl⟩) hK hP rfl rfl rfl hl.1 rfl (Nat.le_of_ble_eq_true rfl) dX3_point_16 ⟨Nat.zero_le _, Nat.zero_le _⟩ ?_
    have ps_2 : ∀ k, pAt w.1 (mPn w) x y = some k → k < 2 ^ 31 := fun k h => by have := pAt_lt h; omega
    refine lv_iconst (v := iI (-1)) hx hb dX3_point_19 (by decide) ?_
    refine lv_icmp_ne (tgt := 32) hx hb dX3_point_20 (by decide) (fun c_3 => ?_) (fun c_3 => ?_)
    · skip
      have c_3 : ¬ (pAt w.1 (mPn w) x y) = none := fun hq9 => c_3 ((oI_m1 (by assumption)).mpr hq9)
      refine lv_iconst (v := nI (2)) hx hb dX3_point_32 (by decide) ?_
      refine lv_goto (tgt := 37) hx hb dX3_point_33 (by decide) ?_
      refine va_put (D := (dC, dI)) (ci := 3) (v := .int (nI (2))) (ty := .int) (C := RX3) (T := TX3) (N := 11) hx hb hts (by decide +kernel) tyX3 tyX3_ok nmX3 hown hK hP hD hS 0 rfl rfl 0 (by decide) (hts (.fieldLink RX3 33 "TriangleSheetModel" "thrown" "I") (by decide +kernel)) (fun _ h9 => h9) rfl (by decide +kernel) rfl rfl (Nat.le_of_ble_eq_true rfl) dX3_point_37 (fun H locs hP hD hS => ?_)
      have hP : va_P (dC, dI) vwCl (wM cI cZ b (((w.1.1, w.1.2.1, w.1.2.2), nI (2), mPn w, mTm w, mTn w, mIs w, mFi w, mSe w, mMk w))) H := hP
      have hD : va_D (inW (wM cI cZ b w)) (wM cI cZ b (((w.1.1, w.1.2.1, w.1.2.2), nI (2), mPn w, mTm w, mTn w, mIs w, mFi w, mSe w, mMk w))) := hD
      refine lv_aload_n hx hb dX3_point_40 rfl (lv_at hl 0 rfl) ?_
      refine va_get (D := (dC, dI)) (ci := 3) (v := .int (nI (2))) (C := RX3) (T := TX3) (N := 11) hx hb hts (by decide +kernel) hown hK hP 0 rfl rfl 0 (by decide) (hts (.fieldLink RX3 33 "TriangleSheetModel" "thrown" "I") (by decide +kernel)) (fun _ h9 => h9) rfl dX3_point_41 ?_
      refine lv_if_le (tgt := 49) hx hb dX3_point_44 (by decide) (fun c_4 => absurd c_4 (by decide)) (fun c_4 => ?_)
      refine lv_iconst (v := nI (0)) hx hb dX3_point_47 (by decide) ?_
      exact wr_iret hx hb hr hP hS rfl rfl dX3_point_48 hlocks
    · skip
      have c_3 : (pAt w.1 (mPn w) x y) = none := (oI_m1 (by assumption)).mp c_3
      refine lv_aload_n hx hb dX3_point_23 rfl (lv_at hl 0 rfl) ?_
      refine va_get (D := (dC, dI)) (ci := 3) (v := .int (nI (mPn w))) (C := RX3) (T := TX3) (N := 11) hx hb hts (by decide +kernel) hown hK hP 0 rfl rfl 1 (by decide) (hts (.fieldLink RX3 40 "TriangleSheetModel" "points" "I") (by decide +kernel)) (fun _ h9 => h9) rfl dX3_point_24 ?_
      refine lv_bipush (v := nI (60)) hx hb dX3_point_27 (by decide) ?_
      refine lv_icmp_ne (tgt := 36) hx hb dX3_point_29 (by decide) (fun c_5 => ?_) (fun c_5 => ?_)
      · skip
        have c_5 : ¬ (mPn w = 60) := fun hq9 => c_5 ((nI_eq (a := mPn w) (b := 60) (by omega) (by omega)).mpr hq9)
        exact absurd (hd (by assumption)) c_5
      · skip
        have c_5 : mPn w = 60 := (nI_eq (a := mPn w) (b := 60) (by omega) (by omega)).mp c_5
        refine lv_iconst (v := nI (2)) hx hb dX3_point_32 (by decide) ?_
        refine lv_goto (tgt := 37) hx hb dX3_point_33 (by decide) ?_
        refine va_put (D := (dC, dI)) (ci := 3) (v := .int (nI (2))) (ty := .int) (C := RX3) (T := TX3) (N := 11) hx hb hts (by decide +kernel) tyX3 tyX3_ok nmX3 hown hK hP hD hS 0 rfl rfl 0 (by decide) (hts (.fieldLink RX3 33 "TriangleSheetModel" "thrown" "I") (by decide +kernel)) (fun _ h9 => h9) rfl (by decide +kernel) rfl rfl (Nat.le_of_ble_eq_true rfl) dX3_point_37 (fun H locs hP hD hS => ?_)
        have hP : va_P (dC, dI) vwCl (wM cI cZ b (((w.1.1, w.1.2.1, w.1.2.2), nI (2), mPn w, mTm w, mTn w, mIs w, mFi w, mSe w, mMk w))) H := hP
        have hD : va_D (inW (wM cI cZ b w)) (wM cI cZ b (((w.1.1, w.1.2.1, w.1.2.2), nI (2), mPn w, mTm w, mTn w, mIs w, mFi w, mSe w, mMk w))) := hD
        refine lv_aload_n hx hb dX3_point_40 rfl (lv_at hl 0 rfl) ?_
        refine va_get (D := (dC, dI)) (ci := 3) (v := .int (nI (2))) (C := RX3) (T := TX3) (N := 11) hx hb hts (by decide +kernel) hown hK hP 0 rfl rfl 0 (by decide) (hts (.fieldLink RX3 33 "TriangleSheetModel" "thrown" "I") (by decide +kernel)) (fun _ h9 => h9) rfl dX3_point_41 ?_
        refine lv_if_le (tgt := 49) hx hb dX3_point_44 (by decide) (fun c_6 => absurd c_6 (by decide)) (fun c_6 => ?_)
        refine lv_iconst (v := nI (0)) hx hb dX3_point_47 (by decide) ?_
        exact wr_iret hx hb hr hP hS rfl rfl dX3_point_48 hlocks
  · skip
    have c_1 : (inB x 512 && inB y 512) = false := bI_f c_1
    exact absurd c_1 (by rw [hc]; decide)
set_option maxHeartbeats 4000000 in
set_option maxRecDepth 100000 in
theorem c_X3_point_0 (l : Launch) (dC : Nat → ClassId) (dI : Nat → Nat → Nat) (cI cL cZ : ClassId) (b : Nat → Nat) (w : MV) (x y : Nat) (hv : okM w) (hx9 : x < 512) (hy9 : y < 512) (hc : pAt w.1 (mPn w) (nI x) (nI y) = none) (hn : mPn w < 60) : Met l yX3_point wsX3_point ({ frames := 2, cells := 0, slots := 0, locals := 42 }) (va_Pc [.ref (b 0), .int (nI (x)), .int (nI (y))] (wr_B (dC, dI) vwCl (wM cI cZ b w) (tyS cI cL cZ))) (wr_Q (some (.int (nI (mPn w)))) (dC, dI) vwCl (wM cI cZ b w) (wM cI cZ b ((gMov w.1 (mPn w) x y, nI 0, mPn w + 1, w.2.2.2)))) 0 0 (inW (wM cI cZ b w)) := by
  refine wr_Met (cc := cX3_point) (maxL := 3) (ret := (some .int)) (by decide) rfl (Nat.le_of_ble_eq_true rfl) ?_
  intro pr en s m below meth co ls hx hb hml hr hlocks hown hts hP hK hD hS hl
  have hl : lv_has ls 3 [(0, .ref (b 0)), (1, .int (nI (x))), (2, .int (nI (y)))] := hl
  have hown : s.vm.findClass RX3 = some m.cls := hown
  have hvp : mPn w ≤ 60 ∧ mTm w ≤ 200 ∧ mTn w ≤ 60 := ⟨hv.2.1, hv.2.2.1, hv.2.2.2.1⟩
  refine lv_aload_n hx hb dX3_point_0 rfl (lv_at hl 0 rfl) ?_
  refine lv_iload_n hx hb dX3_point_1 rfl (lv_at hl 1 rfl) ?_
  refine lv_iload_n hx hb dX3_point_2 rfl (lv_at hl 2 rfl) ?_
  refine ro_S (As := [.int (nI (x)), .int (nI (y))]) (rest := [.ref (b 0)]) hx hb hml hown hts (c_X3_isPlace l dC dI  (nI (x)) (nI (y)) ) (va_cwS 2 hts gX3_point_X3_isPlace rfl rfl rfl (by decide +kernel) ⟨Nat.le_of_ble_eq_true rfl, Nat.le_of_ble_eq_true rfl⟩) (hK.sub [] rfl) (hP.sub [] rfl) rfl hl.1 rfl (Nat.le_of_ble_eq_true rfl) dX3_point_3 ⟨Nat.zero_le _, Nat.zero_le _⟩ ?_
  refine lv_if_ne (tgt := 13) hx hb dX3_point_6 (by decide) (fun c_1 => ?_) (fun c_1 => ?_)
  · skip
    have c_1 : (inB (nI (x)) 512 && inB (nI (y)) 512) = true := bI_t c_1
    refine lv_aload_n hx hb dX3_point_13 rfl (lv_at hl 0 rfl) ?_
    refine lv_iload_n hx hb dX3_point_14 rfl (lv_at hl 1 rfl) ?_
    refine lv_iload_n hx hb dX3_point_15 rfl (lv_at hl 2 rfl) ?_
    refine ro_V (As := [.int (nI (x)), .int (nI (y))]) (rest := [.ref (b 0)]) (q0 := 0) (ci := 3) hx hb hml hown hts (c_X3_pointAt l dC dI cI cL cZ b w (nI (x)) (nI (y)) hv) (cwV 2 hts gX3_point_X3_pointAt rfl rfl rfl (by decide +kernel) ⟨Nat.le_of_ble_eq_true rfl, Nat.le_of_ble_eq_true rfl⟩) hK hP rfl rfl rfl hl.1 rfl (Nat.le_of_ble_eq_true rfl) dX3_point_16 ⟨Nat.zero_le _, Nat.zero_le _⟩ ?_
    have ps_2 : ∀ k, pAt w.1 (mPn w) (nI (x)) (nI (y)) = some k → k < 2 ^ 31 := fun k h => by have := pAt_lt h; omega
    refine lv_iconst (v := iI (-1)) hx hb dX3_point_19 (by decide) ?_
    refine lv_icmp_ne (tgt := 32) hx hb dX3_point_20 (by decide) (fun c_3 => ?_) (fun c_3 => ?_)
    · skip
      have c_3 : ¬ (pAt w.1 (mPn w) (nI (x)) (nI (y))) = none := fun hq9 => c_3 ((oI_m1 (by assumption)).mpr hq9)
      exact absurd hc c_3
    · skip
      have c_3 : (pAt w.1 (mPn w) (nI (x)) (nI (y))) = none := (oI_m1 (by assumption)).mp c_3
      refine lv_aload_n hx hb dX3_point_23 rfl (lv_at hl 0 rfl) ?_
      refine va_get (D := (dC, dI)) (ci := 3) (v := .int (nI (mPn w))) (C := RX3) (T := TX3) (N := 11) hx hb hts (by decide +kernel) hown hK hP 0 rfl rfl 1 (by decide) (hts (.fieldLink RX3 40 "TriangleSheetModel" "points" "I") (by decide +kernel)) (fun _ h9 => h9) rfl dX3_point_24 ?_
      refine lv_bipush (v := nI (60)) hx hb dX3_point_27 (by decide) ?_
      refine lv_icmp_ne (tgt := 36) hx hb dX3_point_29 (by decide) (fun c_4 => ?_) (fun c_4 => ?_)
      · skip
        have c_4 : ¬ (mPn w = 60) := fun hq9 => c_4 ((nI_eq (a := mPn w) (b := 60) (by omega) (by omega)).mpr hq9)
        refine lv_iconst (v := nI (0)) hx hb dX3_point_36 (by decide) ?_
        refine va_put (D := (dC, dI)) (ci := 3) (v := .int (nI (0))) (ty := .int) (C := RX3) (T := TX3) (N := 11) hx hb hts (by decide +kernel) tyX3 tyX3_ok nmX3 hown hK hP hD hS 0 rfl rfl 0 (by decide) (hts (.fieldLink RX3 33 "TriangleSheetModel" "thrown" "I") (by decide +kernel)) (fun _ h9 => h9) rfl (by decide +kernel) rfl rfl (Nat.le_of_ble_eq_true rfl) dX3_point_37 (fun H locs hP hD hS => ?_)
        have hP : va_P (dC, dI) vwCl (wM cI cZ b (((w.1.1, w.1.2.1, w.1.2.2), nI (0), mPn w, mTm w, mTn w, mIs w, mFi w, mSe w, mMk w))) H := hP
        have hD : va_D (inW (wM cI cZ b w)) (wM cI cZ b (((w.1.1, w.1.2.1, w.1.2.2), nI (0), mPn w, mTm w, mTn w, mIs w, mFi w, mSe w, mMk w))) := hD
        refine lv_aload_n hx hb dX3_point_40 rfl (lv_at hl 0 rfl) ?_
        refine va_get (D := (dC, dI)) (ci := 3) (v := .int (nI (0))) (C := RX3) (T := TX3) (N := 11) hx hb hts (by decide +kernel) hown hK hP 0 rfl rfl 0 (by decide) (hts (.fieldLink RX3 33 "TriangleSheetModel" "thrown" "I") (by decide +kernel)) (fun _ h9 => h9) rfl dX3_point_41 ?_
        refine lv_if_le (tgt := 49) hx hb dX3_point_44 (by decide) (fun c_5 => ?_) (fun c_5 => absurd (by decide) c_5)
        refine lv_aload_n hx hb dX3_point_49 rfl (lv_at hl 0 rfl) ?_
        refine va_get (D := (dC, dI)) (ci := 3) (v := .ref (b 1)) (C := RX3) (T := TX3) (N := 11) hx hb hts (by decide +kernel) hown hK hP 0 rfl rfl 4 (by decide) (hts (.fieldLink RX3 7 "TriangleSheetModel" "px" "[I") (by decide +kernel)) (fun _ h9 => h9) rfl dX3_point_50 ?_
        refine lv_aload_n hx hb dX3_point_53 rfl (lv_at hl 0 rfl) ?_
        refine va_get (D := (dC, dI)) (ci := 3) (v := .int (nI (mPn w))) (C := RX3) (T := TX3) (N := 11) hx hb hts (by decide +kernel) hown hK hP 0 rfl rfl 1 (by decide) (hts (.fieldLink RX3 40 "TriangleSheetModel" "points" "I") (by decide +kernel)) (fun _ h9 => h9) rfl dX3_point_54 ?_
        refine lv_iload_n hx hb dX3_point_57 rfl (lv_at hl 1 rfl) ?_
        refine ia_st (k := mPn w) hx hb hK hP hD hS 1 0 rfl rfl (by omega) (by decide) (upd_n (w.1.1) (mPn w) (x)) dX3_point_58 (fun H locs hP hD hS => ?_)
        have hP : va_P (dC, dI) vwCl (wM cI cZ b (((va_up (w.1.1) (mPn w) (x), w.1.2.1, w.1.2.2), nI (0), mPn w, mTm w, mTn w, mIs w, mFi w, mSe w, mMk w))) H := hP
        have hD : va_D (inW (wM cI cZ b w)) (wM cI cZ b (((va_up (w.1.1) (mPn w) (x), w.1.2.1, w.1.2.2), nI (0), mPn w, mTm w, mTn w, mIs w, mFi w, mSe w, mMk w))) := hD
        refine lv_aload_n hx hb dX3_point_59 rfl (lv_at hl 0 rfl) ?_
        refine va_get (D := (dC, dI)) (ci := 3) (v := .ref (b 2)) (C := RX3) (T := TX3) (N := 11) hx hb hts (by decide +kernel) hown hK hP 0 rfl rfl 5 (by decide) (hts (.fieldLink RX3 13 "TriangleSheetModel" "py" "[I") (by decide +kernel)) (fun _ h9 => h9) rfl dX3_point_60 ?_
        refine lv_aload_n hx hb dX3_point_63 rfl (lv_at hl 0 rfl) ?_
        refine va_get (D := (dC, dI)) (ci := 3) (v := .int (nI (mPn w))) (C := RX3) (T := TX3) (N := 11) hx hb hts (by decide +kernel) hown hK hP 0 rfl rfl 1 (by decide) (hts (.fieldLink RX3 40 "TriangleSheetModel" "points" "I") (by decide +kernel)) (fun _ h9 => h9) rfl dX3_point_64 ?_
        refine lv_iload_n hx hb dX3_point_67 rfl (lv_at hl 2 rfl) ?_
        refine ia_st (k := mPn w) hx hb hK hP hD hS 2 0 rfl rfl (by omega) (by decide) (upd_n (w.1.2.1) (mPn w) (y)) dX3_point_68 (fun H locs hP hD hS => ?_)
        have hP : va_P (dC, dI) vwCl (wM cI cZ b (((va_up (w.1.1) (mPn w) (x), va_up (w.1.2.1) (mPn w) (y), w.1.2.2), nI (0), mPn w, mTm w, mTn w, mIs w, mFi w, mSe w, mMk w))) H := hP
        have hD : va_D (inW (wM cI cZ b w)) (wM cI cZ b (((va_up (w.1.1) (mPn w) (x), va_up (w.1.2.1) (mPn w) (y), w.1.2.2), nI (0), mPn w, mTm w, mTn w, mIs w, mFi w, mSe w, mMk w))) := hD
        refine lv_aload_n hx hb dX3_point_69 rfl (lv_at hl 0 rfl) ?_
        refine lv_dup hx hb dX3_point_70 rfl ?_
        refine va_get (D := (dC, dI)) (ci := 3) (v := .int (nI (mPn w))) (C := RX3) (T := TX3) (N := 11) hx hb hts (by decide +kernel) hown hK hP 0 rfl rfl 1 (by decide) (hts (.fieldLink RX3 40 "TriangleSheetModel" "points" "I") (by decide +kernel)) (fun _ h9 => h9) rfl dX3_point_71 ?_
        refine lv_iconst (v := nI (1)) hx hb dX3_point_74 (by decide) ?_
        refine lv_iadd hx hb dX3_point_75 ?_
        refine rt_i (y := (nI (mPn w + 1))) (nn_add (mPn w) (1)) ?_
        refine va_put (D := (dC, dI)) (ci := 3) (v := .int (nI (mPn w + 1))) (ty := .int) (C := RX3) (T := TX3) (N := 11) hx hb hts (by decide +kernel) tyX3 tyX3_ok nmX3 hown hK hP hD hS 0 rfl rfl 1 (by decide) (hts (.fieldLink RX3 40 "TriangleSheetModel" "points" "I") (by decide +kernel)) (fun _ h9 => h9) rfl (by decide +kernel) rfl rfl (Nat.le_of_ble_eq_true rfl) dX3_point_76 (fun H locs hP hD hS => ?_)
        have hP : va_P (dC, dI) vwCl (wM cI cZ b (((va_up (w.1.1) (mPn w) (x), va_up (w.1.2.1) (mPn w) (y), w.1.2.2), nI (0), mPn w + 1, mTm w, mTn w, mIs w, mFi w, mSe w, mMk w))) H := hP
        have hD : va_D (inW (wM cI cZ b w)) (wM cI cZ b (((va_up (w.1.1) (mPn w) (x), va_up (w.1.2.1) (mPn w) (y), w.1.2.2), nI (0), mPn w + 1, mTm w, mTn w, mIs w, mFi w, mSe w, mMk w))) := hD
        refine lv_aload_n hx hb dX3_point_79 rfl (lv_at hl 0 rfl) ?_
        refine va_get (D := (dC, dI)) (ci := 3) (v := .int (nI (mPn w + 1))) (C := RX3) (T := TX3) (N := 11) hx hb hts (by decide +kernel) hown hK hP 0 rfl rfl 1 (by decide) (hts (.fieldLink RX3 40 "TriangleSheetModel" "points" "I") (by decide +kernel)) (fun _ h9 => h9) rfl dX3_point_80 ?_
        refine lv_iconst (v := nI (1)) hx hb dX3_point_83 (by decide) ?_
        refine lv_isub hx hb dX3_point_84 ?_
        refine rt_i (y := (iI ((((mPn w + 1 : Nat) : Int)) - (((1 : Nat) : Int))))) (nn_sub (mPn w + 1) (1)) ?_
        exact wr_iret hx hb hr hP hS (congrArg some (rzn (by show ((mPn w + 1 : Nat) : Int) - ((1 : Nat) : Int) = _; omega))) rfl dX3_point_85 hlocks
      · skip
        have c_4 : mPn w = 60 := (nI_eq (a := mPn w) (b := 60) (by omega) (by omega)).mp c_4
        exact absurd c_4 (by omega)
  · skip
    have c_1 : (inB (nI (x)) 512 && inB (nI (y)) 512) = false := bI_f c_1
    exact absurd c_1 (by rw [inB_nI (by omega), inB_nI (by omega)]; simp; omega)
set_option maxHeartbeats 4000000 in
set_option maxRecDepth 100000 in
theorem c_X3_move_1 (l : Launch) (dC : Nat → ClassId) (dI : Nat → Nat → Nat) (cI cL cZ : ClassId) (b : Nat → Nat) (w : MV) (q x y : Int32) (hv : okM w) (hc : inB q (mPn w) = false) : Met l yX3_move wsX3_move ({ frames := 2, cells := 0, slots := 0, locals := 42 }) (va_Pc [.ref (b 0), .int (q), .int (x), .int (y)] (wr_B (dC, dI) vwCl (wM cI cZ b w) (tyS cI cL cZ))) (wr_Q none (dC, dI) vwCl (wM cI cZ b w) (wM cI cZ b (mThx w (nI 1)))) 0 0 (inW (wM cI cZ b w)) := by
  refine wr_Met (cc := cX3_move) (maxL := 5) (ret := none) (by decide) rfl (Nat.le_of_ble_eq_true rfl) ?_
  intro pr en s m below meth co ls hx hb hml hr hlocks hown hts hP hK hD hS hl
  have hl : lv_has ls 5 [(0, .ref (b 0)), (1, .int (q)), (2, .int (x)), (3, .int (y))] := hl
  have hown : s.vm.findClass RX3 = some m.cls := hown
  have hvp : mPn w ≤ 60 ∧ mTm w ≤ 200 ∧ mTn w ≤ 60 := ⟨hv.2.1, hv.2.2.1, hv.2.2.2.1⟩
  refine lv_iload_n hx hb dX3_move_0 rfl (lv_at hl 2 rfl) ?_
  refine lv_iload_n hx hb dX3_move_1 rfl (lv_at hl 3 rfl) ?_
  refine ro_S (As := [.int (x), .int (y)]) (rest := []) hx hb hml hown hts (c_X3_isPlace l dC dI  x y ) (va_cwS 2 hts gX3_move_X3_isPlace rfl rfl rfl (by decide +kernel) ⟨Nat.le_of_ble_eq_true rfl, Nat.le_of_ble_eq_true rfl⟩) (hK.sub [] rfl) (hP.sub [] rfl) rfl hl.1 rfl (Nat.le_of_ble_eq_true rfl) dX3_move_2 ⟨Nat.zero_le _, Nat.zero_le _⟩ ?_
  refine lv_if_eq (tgt := 17) hx hb dX3_move_5 (by decide) (fun c_1 => ?_) (fun c_1 => ?_)
  · skip
    have c_1 : (inB x 512 && inB y 512) = false := bI_f c_1
    refine lv_iconst (v := iI (-1)) hx hb dX3_move_17 (by decide) ?_
    refine lv_istore (lv' := [(4, .int (iI (-1))), (0, .ref (b 0)), (1, .int (q)), (2, .int (x)), (3, .int (y))]) hx hb dX3_move_18 hl (by decide) rfl (fun ls hl => ?_)
    refine lv_aload_n hx hb dX3_move_20 rfl (lv_at hl 1 rfl) ?_
    refine lv_iload_n hx hb dX3_move_21 rfl (lv_at hl 2 rfl) ?_
    refine lv_aload_n hx hb dX3_move_22 rfl (lv_at hl 1 rfl) ?_
    refine va_get (D := (dC, dI)) (ci := 3) (v := .int (nI (mPn w))) (C := RX3) (T := TX3) (N := 11) hx hb hts (by decide +kernel) hown hK hP 0 rfl rfl 1 (by decide) (hts (.fieldLink RX3 40 "TriangleSheetModel" "points" "I") (by decide +kernel)) (fun _ h9 => h9) rfl dX3_move_23 ?_
    refine ro_S (As := [.int (q), .int (nI (mPn w))]) (rest := [.ref (b 0)]) hx hb hml hown hts (c_X3_in l dC dI  q (mPn w) (by omega)) (va_cwS 2 hts gX3_move_X3_in rfl rfl rfl (by decide +kernel) ⟨Nat.le_of_ble_eq_true rfl, Nat.le_of_ble_eq_true rfl⟩) (hK.sub [] rfl) (hP.sub [] rfl) rfl hl.1 rfl (Nat.le_of_ble_eq_true rfl) dX3_move_26 ⟨Nat.zero_le _, Nat.zero_le _⟩ ?_
    refine lv_if_ne (tgt := 36) hx hb dX3_move_29 (by decide) (fun c_2 => ?_) (fun c_2 => ?_)
    · skip
      have c_2 : (inB q (mPn w)) = true := bI_t c_2
      exact absurd c_2 (by rw [hc]; decide)
    · skip
      have c_2 : (inB q (mPn w)) = false := bI_f c_2
      refine lv_iconst (v := nI (1)) hx hb dX3_move_32 (by decide) ?_
      refine lv_goto (tgt := 65) hx hb dX3_move_33 (by decide) ?_
      refine va_put (D := (dC, dI)) (ci := 3) (v := .int (nI (1))) (ty := .int) (C := RX3) (T := TX3) (N := 11) hx hb hts (by decide +kernel) tyX3 tyX3_ok nmX3 hown hK hP hD hS 0 rfl rfl 0 (by decide) (hts (.fieldLink RX3 33 "TriangleSheetModel" "thrown" "I") (by decide +kernel)) (fun _ h9 => h9) rfl (by decide +kernel) rfl rfl (Nat.le_of_ble_eq_true rfl) dX3_move_65 (fun H locs hP hD hS => ?_)
      have hP : va_P (dC, dI) vwCl (wM cI cZ b (((w.1.1, w.1.2.1, w.1.2.2), nI (1), mPn w, mTm w, mTn w, mIs w, mFi w, mSe w, mMk w))) H := hP
      have hD : va_D (inW (wM cI cZ b w)) (wM cI cZ b (((w.1.1, w.1.2.1, w.1.2.2), nI (1), mPn w, mTm w, mTn w, mIs w, mFi w, mSe w, mMk w))) := hD
      refine lv_aload_n hx hb dX3_move_68 rfl (lv_at hl 1 rfl) ?_
      refine va_get (D := (dC, dI)) (ci := 3) (v := .int (nI (1))) (C := RX3) (T := TX3) (N := 11) hx hb hts (by decide +kernel) hown hK hP 0 rfl rfl 0 (by decide) (hts (.fieldLink RX3 33 "TriangleSheetModel" "thrown" "I") (by decide +kernel)) (fun _ h9 => h9) rfl dX3_move_69 ?_
      refine lv_if_le (tgt := 76) hx hb dX3_move_72 (by decide) (fun c_3 => absurd c_3 (by decide)) (fun c_3 => ?_)
      exact wr_vret hx hb hr hP hS rfl rfl dX3_move_75 hlocks
  · skip
    have c_1 : (inB x 512 && inB y 512) = true := bI_t c_1
    refine lv_aload_n hx hb dX3_move_8 rfl (lv_at hl 0 rfl) ?_
    refine lv_iload_n hx hb dX3_move_9 rfl (lv_at hl 2 rfl) ?_
    refine lv_iload_n hx hb dX3_move_10 rfl (lv_at hl 3 rfl) ?_
    refine ro_V (As := [.int (x), .int (y)]) (rest := []) (q0 := 0) (ci := 3) hx hb hml hown hts (c_X3_pointAt l dC dI cI cL cZ b w x y hv) (cwV 2 hts gX3_move_X3_pointAt rfl rfl rfl (by decide +kernel) ⟨Nat.le_of_ble_eq_true rfl, Nat.le_of_ble_eq_true rfl⟩) hK hP rfl rfl rfl hl.1 rfl (Nat.le_of_ble_eq_true rfl) dX3_move_11 ⟨Nat.zero_le _, Nat.zero_le _⟩ ?_
    have ps_4 : ∀ k, pAt w.1 (mPn w) x y = some k → k < 2 ^ 31 := fun k h => by have := pAt_lt h; omega
    refine lv_goto (tgt := 18) hx hb dX3_move_14 (by decide) ?_
    refine lv_istore (lv' := [(4, .int (oI (pAt w.1 (mPn w) x y))), (0, .ref (b 0)), (1, .int (q)), (2, .int (x)), (3, .int (y))]) hx hb dX3_move_18 hl (by decide) rfl (fun ls hl => ?_)
    refine lv_aload_n hx hb dX3_move_20 rfl (lv_at hl 1 rfl) ?_
    refine lv_iload_n hx hb dX3_move_21 rfl (lv_at hl 2 rfl) ?_
    refine lv_aload_n hx hb dX3_move_22 rfl (lv_at hl 1 rfl) ?_
    refine va_get (D := (dC, dI)) (ci := 3) (v := .int (nI (mPn w))) (C := RX3) (T := TX3) (N := 11) hx hb hts (by decide +kernel) hown hK hP 0 rfl rfl 1 (by decide) (hts (.fieldLink RX3 40 "TriangleSheetModel" "points" "I") (by decide +kernel)) (fun _ h9 => h9) rfl dX3_move_23 ?_
    refine ro_S (As := [.int (q), .int (nI (mPn w))]) (rest := [.ref (b 0)]) hx hb hml hown hts (c_X3_in l dC dI  q (mPn w) (by omega)) (va_cwS 2 hts gX3_move_X3_in rfl rfl rfl (by decide +kernel) ⟨Nat.le_of_ble_eq_true rfl, Nat.le_of_ble_eq_true rfl⟩) (hK.sub [] rfl) (hP.sub [] rfl) rfl hl.1 rfl (Nat.le_of_ble_eq_true rfl) dX3_move_26 ⟨Nat.zero_le _, Nat.zero_le _⟩ ?_
    refine lv_if_ne (tgt := 36) hx hb dX3_move_29 (by decide) (fun c_5 => ?_) (fun c_5 => ?_)
    · skip
      have c_5 : (inB q (mPn w)) = true := bI_t c_5
      exact absurd c_5 (by rw [hc]; decide)
    · skip
      have c_5 : (inB q (mPn w)) = false := bI_f c_5
      refine lv_iconst (v := nI (1)) hx hb dX3_move_32 (by decide) ?_
      refine lv_goto (tgt := 65) hx hb dX3_move_33 (by decide) ?_
      refine va_put (D := (dC, dI)) (ci := 3) (v := .int (nI (1))) (ty := .int) (C := RX3) (T := TX3) (N := 11) hx hb hts (by decide +kernel) tyX3 tyX3_ok nmX3 hown hK hP hD hS 0 rfl rfl 0 (by decide) (hts (.fieldLink RX3 33 "TriangleSheetModel" "thrown" "I") (by decide +kernel)) (fun _ h9 => h9) rfl (by decide +kernel) rfl rfl (Nat.le_of_ble_eq_true rfl) dX3_move_65 (fun H locs hP hD hS => ?_)
      have hP : va_P (dC, dI) vwCl (wM cI cZ b (((w.1.1, w.1.2.1, w.1.2.2), nI (1), mPn w, mTm w, mTn w, mIs w, mFi w, mSe w, mMk w))) H := hP
      have hD : va_D (inW (wM cI cZ b w)) (wM cI cZ b (((w.1.1, w.1.2.1, w.1.2.2), nI (1), mPn w, mTm w, mTn w, mIs w, mFi w, mSe w, mMk w))) := hD
      refine lv_aload_n hx hb dX3_move_68 rfl (lv_at hl 1 rfl) ?_
      refine va_get (D := (dC, dI)) (ci := 3) (v := .int (nI (1))) (C := RX3) (T := TX3) (N := 11) hx hb hts (by decide +kernel) hown hK hP 0 rfl rfl 0 (by decide) (hts (.fieldLink RX3 33 "TriangleSheetModel" "thrown" "I") (by decide +kernel)) (fun _ h9 => h9) rfl dX3_move_69 ?_
      refine lv_if_le (tgt := 76) hx hb dX3_move_72 (by decide) (fun c_6 => absurd c_6 (by decide)) (fun c_6 => ?_)
      exact wr_vret hx hb hr hP hS rfl rfl dX3_move_75 hlocks
set_option maxHeartbeats 4000000 in
set_option maxRecDepth 100000 in
theorem c_X3_move_2 (l : Launch) (dC : Nat → ClassId) (dI : Nat → Nat → Nat) (cI cL cZ : ClassId) (b : Nat → Nat) (w : MV) (q x y : Int32) (hv : okM w) (hc : inB q (mPn w) = true) (hd : (inB x 512 && inB y 512) = false) : Met l yX3_move wsX3_move ({ frames := 2, cells := 0, slots := 0, locals := 42 }) (va_Pc [.ref (b 0), .int (q), .int (x), .int (y)] (wr_B (dC, dI) vwCl (wM cI cZ b w) (tyS cI cL cZ))) (wr_Q none (dC, dI) vwCl (wM cI cZ b w) (wM cI cZ b (mThx w (nI 2)))) 0 0 (inW (wM cI cZ b w)) := by
  refine wr_Met (cc := cX3_move) (maxL := 5) (ret := none) (by decide) rfl (Nat.le_of_ble_eq_true rfl) ?_
  intro pr en s m below meth co ls hx hb hml hr hlocks hown hts hP hK hD hS hl
  have hl : lv_has ls 5 [(0, .ref (b 0)), (1, .int (q)), (2, .int (x)), (3, .int (y))] := hl
  have hown : s.vm.findClass RX3 = some m.cls := hown
  have hvp : mPn w ≤ 60 ∧ mTm w ≤ 200 ∧ mTn w ≤ 60 := ⟨hv.2.1, hv.2.2.1, hv.2.2.2.1⟩
  refine lv_iload_n hx hb dX3_move_0 rfl (lv_at hl 2 rfl) ?_
  refine lv_iload_n hx hb dX3_move_1 rfl (lv_at hl 3 rfl) ?_
  refine ro_S (As := [.int (x), .int (y)]) (rest := []) hx hb hml hown hts (c_X3_isPlace l dC dI  x y ) (va_cwS 2 hts gX3_move_X3_isPlace rfl rfl rfl (by decide +kernel) ⟨Nat.le_of_ble_eq_true rfl, Nat.le_of_ble_eq_true rfl⟩) (hK.sub [] rfl) (hP.sub [] rfl) rfl hl.1 rfl (Nat.le_of_ble_eq_true rfl) dX3_move_2 ⟨Nat.zero_le _, Nat.zero_le _⟩ ?_
  refine lv_if_eq (tgt := 17) hx hb dX3_move_5 (by decide) (fun c_1 => ?_) (fun c_1 => ?_)
  · skip
    have c_1 : (inB x 512 && inB y 512) = false := bI_f c_1
    refine lv_iconst (v := iI (-1)) hx hb dX3_move_17 (by decide) ?_
    refine lv_istore (lv' := [(4, .int (iI (-1))), (0, .ref (b 0)), (1, .int (q)), (2, .int (x)), (3, .int (y))]) hx hb dX3_move_18 hl (by decide) rfl (fun ls hl => ?_)
    refine lv_aload_n hx hb dX3_move_20 rfl (lv_at hl 1 rfl) ?_
    refine lv_iload_n hx hb dX3_move_21 rfl (lv_at hl 2 rfl) ?_
    refine lv_aload_n hx hb dX3_move_22 rfl (lv_at hl 1 rfl) ?_
    refine va_get (D := (dC, dI)) (ci := 3) (v := .int (nI (mPn w))) (C := RX3) (T := TX3) (N := 11) hx hb hts (by decide +kernel) hown hK hP 0 rfl rfl 1 (by decide) (hts (.fieldLink RX3 40 "TriangleSheetModel" "points" "I") (by decide +kernel)) (fun _ h9 => h9) rfl dX3_move_23 ?_
    refine ro_S (As := [.int (q), .int (nI (mPn w))]) (rest := [.ref (b 0)]) hx hb hml hown hts (c_X3_in l dC dI  q (mPn w) (by omega)) (va_cwS 2 hts gX3_move_X3_in rfl rfl rfl (by decide +kernel) ⟨Nat.le_of_ble_eq_true rfl, Nat.le_of_ble_eq_true rfl⟩) (hK.sub [] rfl) (hP.sub [] rfl) rfl hl.1 rfl (Nat.le_of_ble_eq_true rfl) dX3_move_26 ⟨Nat.zero_le _, Nat.zero_le _⟩ ?_
    refine lv_if_ne (tgt := 36) hx hb dX3_move_29 (by decide) (fun c_2 => ?_) (fun c_2 => ?_)
    · skip
      have c_2 : (inB q (mPn w)) = true := bI_t c_2
      refine lv_iload_n hx hb dX3_move_36 rfl (lv_at hl 3 rfl) ?_
      refine lv_iload_n hx hb dX3_move_37 rfl (lv_at hl 4 rfl) ?_
      refine ro_S (As := [.int (x), .int (y)]) (rest := [.ref (b 0)]) hx hb hml hown hts (c_X3_isPlace l dC dI  x y ) (va_cwS 2 hts gX3_move_X3_isPlace rfl rfl rfl (by decide +kernel) ⟨Nat.le_of_ble_eq_true rfl, Nat.le_of_ble_eq_true rfl⟩) (hK.sub [] rfl) (hP.sub [] rfl) rfl hl.1 rfl (Nat.le_of_ble_eq_true rfl) dX3_move_38 ⟨Nat.zero_le _, Nat.zero_le _⟩ ?_
      refine lv_if_ne (tgt := 48) hx hb dX3_move_41 (by decide) (fun c_3 => ?_) (fun c_3 => ?_)
      · skip
        have c_3 : (inB x 512 && inB y 512) = true := bI_t c_3
        exact absurd c_3 (by rw [hd]; decide)
      · skip
        have c_3 : (inB x 512 && inB y 512) = false := bI_f c_3
        refine lv_iconst (v := nI (2)) hx hb dX3_move_44 (by decide) ?_
        refine lv_goto (tgt := 65) hx hb dX3_move_45 (by decide) ?_
        refine va_put (D := (dC, dI)) (ci := 3) (v := .int (nI (2))) (ty := .int) (C := RX3) (T := TX3) (N := 11) hx hb hts (by decide +kernel) tyX3 tyX3_ok nmX3 hown hK hP hD hS 0 rfl rfl 0 (by decide) (hts (.fieldLink RX3 33 "TriangleSheetModel" "thrown" "I") (by decide +kernel)) (fun _ h9 => h9) rfl (by decide +kernel) rfl rfl (Nat.le_of_ble_eq_true rfl) dX3_move_65 (fun H locs hP hD hS => ?_)
        have hP : va_P (dC, dI) vwCl (wM cI cZ b (((w.1.1, w.1.2.1, w.1.2.2), nI (2), mPn w, mTm w, mTn w, mIs w, mFi w, mSe w, mMk w))) H := hP
        have hD : va_D (inW (wM cI cZ b w)) (wM cI cZ b (((w.1.1, w.1.2.1, w.1.2.2), nI (2), mPn w, mTm w, mTn w, mIs w, mFi w, mSe w, mMk w))) := hD
        refine lv_aload_n hx hb dX3_move_68 rfl (lv_at hl 1 rfl) ?_
        refine va_get (D := (dC, dI)) (ci := 3) (v := .int (nI (2))) (C := RX3) (T := TX3) (N := 11) hx hb hts (by decide +kernel) hown hK hP 0 rfl rfl 0 (by decide) (hts (.fieldLink RX3 33 "TriangleSheetModel" "thrown" "I") (by decide +kernel)) (fun _ h9 => h9) rfl dX3_move_69 ?_
        refine lv_if_le (tgt := 76) hx hb dX3_move_72 (by decide) (fun c_4 => absurd c_4 (by decide)) (fun c_4 => ?_)
        exact wr_vret hx hb hr hP hS rfl rfl dX3_move_75 hlocks
    · skip
      have c_2 : (inB q (mPn w)) = false := bI_f c_2
      exact absurd c_2 (by rw [hc]; decide)
  · skip
    have c_1 : (inB x 512 && inB y 512) = true := bI_t c_1
    exact absurd c_1 (by rw [hd]; decide)
set_option maxHeartbeats 4000000 in
set_option maxRecDepth 100000 in
theorem c_X3_move_3 (l : Launch) (dC : Nat → ClassId) (dI : Nat → Nat → Nat) (cI cL cZ : ClassId) (b : Nat → Nat) (w : MV) (q x y o : Nat) (hv : okM w) (hq : q < mPn w) (hx9 : x < 512) (hy9 : y < 512) (hc : pAt w.1 (mPn w) (nI x) (nI y) = some o) (hd : o ≠ q) : Met l yX3_move wsX3_move ({ frames := 2, cells := 0, slots := 0, locals := 42 }) (va_Pc [.ref (b 0), .int (nI (q)), .int (nI (x)), .int (nI (y))] (wr_B (dC, dI) vwCl (wM cI cZ b w) (tyS cI cL cZ))) (wr_Q none (dC, dI) vwCl (wM cI cZ b w) (wM cI cZ b (mThx w (nI 3)))) 0 0 (inW (wM cI cZ b w)) := by
  refine wr_Met (cc := cX3_move) (maxL := 5) (ret := none) (by decide) rfl (Nat.le_of_ble_eq_true rfl) ?_
  intro pr en s m below meth co ls hx hb hml hr hlocks hown hts hP hK hD hS hl
  have hl : lv_has ls 5 [(0, .ref (b 0)), (1, .int (nI (q))), (2, .int (nI (x))), (3, .int (nI (y)))] := hl
  have hown : s.vm.findClass RX3 = some m.cls := hown
  have hvp : mPn w ≤ 60 ∧ mTm w ≤ 200 ∧ mTn w ≤ 60 := ⟨hv.2.1, hv.2.2.1, hv.2.2.2.1⟩
  refine lv_iload_n hx hb dX3_move_0 rfl (lv_at hl 2 rfl) ?_
  refine lv_iload_n hx hb dX3_move_1 rfl (lv_at hl 3 rfl) ?_
  refine ro_S (As := [.int (nI (x)), .int (nI (y))]) (rest := []) hx hb hml hown hts (c_X3_isPlace l dC dI  (nI (x)) (nI (y)) ) (va_cwS 2 hts gX3_move_X3_isPlace rfl rfl rfl (by decide +kernel) ⟨Nat.le_of_ble_eq_true rfl, Nat.le_of_ble_eq_true rfl⟩) (hK.sub [] rfl) (hP.sub [] rfl) rfl hl.1 rfl (Nat.le_of_ble_eq_true rfl) dX3_move_2 ⟨Nat.zero_le _, Nat.zero_le _⟩ ?_
  refine lv_if_eq (tgt := 17) hx hb dX3_move_5 (by decide) (fun c_1 => ?_) (fun c_1 => ?_)
  · skip
    have c_1 : (inB (nI (x)) 512 && inB (nI (y)) 512) = false := bI_f c_1
    exact absurd c_1 (by rw [inB_nI (by omega), inB_nI (by omega)]; simp; omega)
  · skip
    have c_1 : (inB (nI (x)) 512 && inB (nI (y)) 512) = true := bI_t c_1
    refine lv_aload_n hx hb dX3_move_8 rfl (lv_at hl 0 rfl) ?_
    refine lv_iload_n hx hb dX3_move_9 rfl (lv_at hl 2 rfl) ?_
    refine lv_iload_n hx hb dX3_move_10 rfl (lv_at hl 3 rfl) ?_
    refine ro_V (As := [.int (nI (x)), .int (nI (y))]) (rest := []) (q0 := 0) (ci := 3) hx hb hml hown hts (c_X3_pointAt l dC dI cI cL cZ b w (nI (x)) (nI (y)) hv) (cwV 2 hts gX3_move_X3_pointAt rfl rfl rfl (by decide +kernel) ⟨Nat.le_of_ble_eq_true rfl, Nat.le_of_ble_eq_true rfl⟩) hK hP rfl rfl rfl hl.1 rfl (Nat.le_of_ble_eq_true rfl) dX3_move_11 ⟨Nat.zero_le _, Nat.zero_le _⟩ ?_
    have ps_2 : ∀ k, pAt w.1 (mPn w) (nI (x)) (nI (y)) = some k → k < 2 ^ 31 := fun k h => by have := pAt_lt h; omega
    refine rt_i (y := (nI (o))) (by rw [hc]; rfl) ?_
    refine lv_goto (tgt := 18) hx hb dX3_move_14 (by decide) ?_
    refine lv_istore (lv' := [(4, .int (nI (o))), (0, .ref (b 0)), (1, .int (nI (q))), (2, .int (nI (x))), (3, .int (nI (y)))]) hx hb dX3_move_18 hl (by decide) rfl (fun ls hl => ?_)
    refine lv_aload_n hx hb dX3_move_20 rfl (lv_at hl 1 rfl) ?_
    refine lv_iload_n hx hb dX3_move_21 rfl (lv_at hl 2 rfl) ?_
    refine lv_aload_n hx hb dX3_move_22 rfl (lv_at hl 1 rfl) ?_
    refine va_get (D := (dC, dI)) (ci := 3) (v := .int (nI (mPn w))) (C := RX3) (T := TX3) (N := 11) hx hb hts (by decide +kernel) hown hK hP 0 rfl rfl 1 (by decide) (hts (.fieldLink RX3 40 "TriangleSheetModel" "points" "I") (by decide +kernel)) (fun _ h9 => h9) rfl dX3_move_23 ?_
    refine ro_S (As := [.int (nI (q)), .int (nI (mPn w))]) (rest := [.ref (b 0)]) hx hb hml hown hts (c_X3_in l dC dI  (nI (q)) (mPn w) (by omega)) (va_cwS 2 hts gX3_move_X3_in rfl rfl rfl (by decide +kernel) ⟨Nat.le_of_ble_eq_true rfl, Nat.le_of_ble_eq_true rfl⟩) (hK.sub [] rfl) (hP.sub [] rfl) rfl hl.1 rfl (Nat.le_of_ble_eq_true rfl) dX3_move_26 ⟨Nat.zero_le _, Nat.zero_le _⟩ ?_
    refine lv_if_ne (tgt := 36) hx hb dX3_move_29 (by decide) (fun c_3 => ?_) (fun c_3 => ?_)
    · skip
      have c_3 : (inB (nI (q)) (mPn w)) = true := bI_t c_3
      refine lv_iload_n hx hb dX3_move_36 rfl (lv_at hl 3 rfl) ?_
      refine lv_iload_n hx hb dX3_move_37 rfl (lv_at hl 4 rfl) ?_
      refine ro_S (As := [.int (nI (x)), .int (nI (y))]) (rest := [.ref (b 0)]) hx hb hml hown hts (c_X3_isPlace l dC dI  (nI (x)) (nI (y)) ) (va_cwS 2 hts gX3_move_X3_isPlace rfl rfl rfl (by decide +kernel) ⟨Nat.le_of_ble_eq_true rfl, Nat.le_of_ble_eq_true rfl⟩) (hK.sub [] rfl) (hP.sub [] rfl) rfl hl.1 rfl (Nat.le_of_ble_eq_true rfl) dX3_move_38 ⟨Nat.zero_le _, Nat.zero_le _⟩ ?_
      refine lv_if_ne (tgt := 48) hx hb dX3_move_41 (by decide) (fun c_4 => ?_) (fun c_4 => ?_)
      · skip
        have c_4 : (inB (nI (x)) 512 && inB (nI (y)) 512) = true := bI_t c_4
        refine lv_iload hx hb dX3_move_48 (lv_at hl 0 rfl) ?_
        refine lv_iconst (v := iI (-1)) hx hb dX3_move_50 (by decide) ?_
        refine lv_icmp_eq (tgt := 64) hx hb dX3_move_51 (by decide) (fun c_5 => absurd c_5 (ne_m1 (by have := pAt_lt hc; omega))) (fun c_5 => ?_)
        refine lv_iload hx hb dX3_move_54 (lv_at hl 0 rfl) ?_
        refine lv_iload_n hx hb dX3_move_56 rfl (lv_at hl 2 rfl) ?_
        refine lv_icmp_eq (tgt := 64) hx hb dX3_move_57 (by decide) (fun c_6 => ?_) (fun c_6 => ?_)
        · skip
          have c_6 : o = q := (nI_eq (a := o) (b := q) (by have := pAt_lt hc; omega) (by omega)).mp c_6
          exact absurd c_6 hd
        · skip
          have c_6 : ¬ (o = q) := fun hq9 => c_6 ((nI_eq (a := o) (b := q) (by have := pAt_lt hc; omega) (by omega)).mpr hq9)
          refine lv_iconst (v := nI (3)) hx hb dX3_move_60 (by decide) ?_
          refine lv_goto (tgt := 65) hx hb dX3_move_61 (by decide) ?_
          refine va_put (D := (dC, dI)) (ci := 3) (v := .int (nI (3))) (ty := .int) (C := RX3) (T := TX3) (N := 11) hx hb hts (by decide +kernel) tyX3 tyX3_ok nmX3 hown hK hP hD hS 0 rfl rfl 0 (by decide) (hts (.fieldLink RX3 33 "TriangleSheetModel" "thrown" "I") (by decide +kernel)) (fun _ h9 => h9) rfl (by decide +kernel) rfl rfl (Nat.le_of_ble_eq_true rfl) dX3_move_65 (fun H locs hP hD hS => ?_)
          have hP : va_P (dC, dI) vwCl (wM cI cZ b (((w.1.1, w.1.2.1, w.1.2.2), nI (3), mPn w, mTm w, mTn w, mIs w, mFi w, mSe w, mMk w))) H := hP
          have hD : va_D (inW (wM cI cZ b w)) (wM cI cZ b (((w.1.1, w.1.2.1, w.1.2.2), nI (3), mPn w, mTm w, mTn w, mIs w, mFi w, mSe w, mMk w))) := hD
          refine lv_aload_n hx hb dX3_move_68 rfl (lv_at hl 1 rfl) ?_
          refine va_get (D := (dC, dI)) (ci := 3) (v := .int (nI (3))) (C := RX3) (T := TX3) (N := 11) hx hb hts (by decide +kernel) hown hK hP 0 rfl rfl 0 (by decide) (hts (.fieldLink RX3 33 "TriangleSheetModel" "thrown" "I") (by decide +kernel)) (fun _ h9 => h9) rfl dX3_move_69 ?_
          refine lv_if_le (tgt := 76) hx hb dX3_move_72 (by decide) (fun c_7 => absurd c_7 (by decide)) (fun c_7 => ?_)
          exact wr_vret hx hb hr hP hS rfl rfl dX3_move_75 hlocks
      · skip
        have c_4 : (inB (nI (x)) 512 && inB (nI (y)) 512) = false := bI_f c_4
        exact absurd c_4 (by rw [inB_nI (by omega), inB_nI (by omega)]; simp; omega)
    · skip
      have c_3 : (inB (nI (q)) (mPn w)) = false := bI_f c_3
      exact absurd c_3 (by rw [inB_nI (by omega)]; simp; omega)
set_option maxHeartbeats 4000000 in
set_option maxRecDepth 100000 in
theorem c_X3_move_0 (l : Launch) (dC : Nat → ClassId) (dI : Nat → Nat → Nat) (cI cL cZ : ClassId) (b : Nat → Nat) (w : MV) (q x y : Nat) (hv : okM w) (hq : q < mPn w) (hx9 : x < 512) (hy9 : y < 512) (hc : pAt w.1 (mPn w) (nI x) (nI y) = none ∨ pAt w.1 (mPn w) (nI x) (nI y) = some q) : Met l yX3_move wsX3_move ({ frames := 2, cells := 0, slots := 0, locals := 42 }) (va_Pc [.ref (b 0), .int (nI (q)), .int (nI (x)), .int (nI (y))] (wr_B (dC, dI) vwCl (wM cI cZ b w) (tyS cI cL cZ))) (wr_Q none (dC, dI) vwCl (wM cI cZ b w) (wM cI cZ b ((gMov w.1 q x y, nI 0, w.2.2)))) 0 0 (inW (wM cI cZ b w)) := by
  refine wr_Met (cc := cX3_move) (maxL := 5) (ret := none) (by decide) rfl (Nat.le_of_ble_eq_true rfl) ?_
  intro pr en s m below meth co ls hx hb hml hr hlocks hown hts hP hK hD hS hl
  have hl : lv_has ls 5 [(0, .ref (b 0)), (1, .int (nI (q))), (2, .int (nI (x))), (3, .int (nI (y)))] := hl
  have hown : s.vm.findClass RX3 = some m.cls := hown
  have hvp : mPn w ≤ 60 ∧ mTm w ≤ 200 ∧ mTn w ≤ 60 := ⟨hv.2.1, hv.2.2.1, hv.2.2.2.1⟩
  refine lv_iload_n hx hb dX3_move_0 rfl (lv_at hl 2 rfl) ?_
  refine lv_iload_n hx hb dX3_move_1 rfl (lv_at hl 3 rfl) ?_
  refine ro_S (As := [.int (nI (x)), .int (nI (y))]) (rest := []) hx hb hml hown hts (c_X3_isPlace l dC dI  (nI (x)) (nI (y)) ) (va_cwS 2 hts gX3_move_X3_isPlace rfl rfl rfl (by decide +kernel) ⟨Nat.le_of_ble_eq_true rfl, Nat.le_of_ble_eq_true rfl⟩) (hK.sub [] rfl) (hP.sub [] rfl) rfl hl.1 rfl (Nat.le_of_ble_eq_true rfl) dX3_move_2 ⟨Nat.zero_le _, Nat.zero_le _⟩ ?_
  refine lv_if_eq (tgt := 17) hx hb dX3_move_5 (by decide) (fun c_1 => ?_) (fun c_1 => ?_)
  · skip
    have c_1 : (inB (nI (x)) 512 && inB (nI (y)) 512) = false := bI_f c_1
    exact absurd c_1 (by rw [inB_nI (by omega), inB_nI (by omega)]; simp; omega)
  · skip
    have c_1 : (inB (nI (x)) 512 && inB (nI (y)) 512) = true := bI_t c_1
    refine lv_aload_n hx hb dX3_move_8 rfl (lv_at hl 0 rfl) ?_
    refine lv_iload_n hx hb dX3_move_9 rfl (lv_at hl 2 rfl) ?_
    refine lv_iload_n hx hb dX3_move_10 rfl (lv_at hl 3 rfl) ?_
    refine ro_V (As := [.int (nI (x)), .int (nI (y))]) (rest := []) (q0 := 0) (ci := 3) hx hb hml hown hts (c_X3_pointAt l dC dI cI cL cZ b w (nI (x)) (nI (y)) hv) (cwV 2 hts gX3_move_X3_pointAt rfl rfl rfl (by decide +kernel) ⟨Nat.le_of_ble_eq_true rfl, Nat.le_of_ble_eq_true rfl⟩) hK hP rfl rfl rfl hl.1 rfl (Nat.le_of_ble_eq_true rfl) dX3_move_11 ⟨Nat.zero_le _, Nat.zero_le _⟩ ?_
    have ps_2 : ∀ k, pAt w.1 (mPn w) (nI (x)) (nI (y)) = some k → k < 2 ^ 31 := fun k h => by have := pAt_lt h; omega
    refine ocase (x := pAt w.1 (mPn w) (nI (x)) (nI (y))) (fun ho_u => ?_) (fun u ho_u => ?_)
    · skip
      refine lv_goto (tgt := 18) hx hb dX3_move_14 (by decide) ?_
      refine lv_istore (lv' := [(4, .int (iI (-1))), (0, .ref (b 0)), (1, .int (nI (q))), (2, .int (nI (x))), (3, .int (nI (y)))]) hx hb dX3_move_18 hl (by decide) rfl (fun ls hl => ?_)
      refine lv_aload_n hx hb dX3_move_20 rfl (lv_at hl 1 rfl) ?_
      refine lv_iload_n hx hb dX3_move_21 rfl (lv_at hl 2 rfl) ?_
      refine lv_aload_n hx hb dX3_move_22 rfl (lv_at hl 1 rfl) ?_
      refine va_get (D := (dC, dI)) (ci := 3) (v := .int (nI (mPn w))) (C := RX3) (T := TX3) (N := 11) hx hb hts (by decide +kernel) hown hK hP 0 rfl rfl 1 (by decide) (hts (.fieldLink RX3 40 "TriangleSheetModel" "points" "I") (by decide +kernel)) (fun _ h9 => h9) rfl dX3_move_23 ?_
      refine ro_S (As := [.int (nI (q)), .int (nI (mPn w))]) (rest := [.ref (b 0)]) hx hb hml hown hts (c_X3_in l dC dI  (nI (q)) (mPn w) (by omega)) (va_cwS 2 hts gX3_move_X3_in rfl rfl rfl (by decide +kernel) ⟨Nat.le_of_ble_eq_true rfl, Nat.le_of_ble_eq_true rfl⟩) (hK.sub [] rfl) (hP.sub [] rfl) rfl hl.1 rfl (Nat.le_of_ble_eq_true rfl) dX3_move_26 ⟨Nat.zero_le _, Nat.zero_le _⟩ ?_
      refine lv_if_ne (tgt := 36) hx hb dX3_move_29 (by decide) (fun c_3 => ?_) (fun c_3 => ?_)
      · skip
        have c_3 : (inB (nI (q)) (mPn w)) = true := bI_t c_3
        refine lv_iload_n hx hb dX3_move_36 rfl (lv_at hl 3 rfl) ?_
        refine lv_iload_n hx hb dX3_move_37 rfl (lv_at hl 4 rfl) ?_
        refine ro_S (As := [.int (nI (x)), .int (nI (y))]) (rest := [.ref (b 0)]) hx hb hml hown hts (c_X3_isPlace l dC dI  (nI (x)) (nI (y)) ) (va_cwS 2 hts gX3_move_X3_isPlace rfl rfl rfl (by decide +kernel) ⟨Nat.le_of_ble_eq_true rfl, Nat.le_of_ble_eq_true rfl⟩) (hK.sub [] rfl) (hP.sub [] rfl) rfl hl.1 rfl (Nat.le_of_ble_eq_true rfl) dX3_move_38 ⟨Nat.zero_le _, Nat.zero_le _⟩ ?_
        refine lv_if_ne (tgt := 48) hx hb dX3_move_41 (by decide) (fun c_4 => ?_) (fun c_4 => ?_)
        · skip
          have c_4 : (inB (nI (x)) 512 && inB (nI (y)) 512) = true := bI_t c_4
          refine lv_iload hx hb dX3_move_48 (lv_at hl 0 rfl) ?_
          refine lv_iconst (v := iI (-1)) hx hb dX3_move_50 (by decide) ?_
          refine lv_icmp_eq (tgt := 64) hx hb dX3_move_51 (by decide) (fun c_5 => ?_) (fun c_5 => absurd rfl c_5)
          refine lv_iconst (v := nI (0)) hx hb dX3_move_64 (by decide) ?_
          refine va_put (D := (dC, dI)) (ci := 3) (v := .int (nI (0))) (ty := .int) (C := RX3) (T := TX3) (N := 11) hx hb hts (by decide +kernel) tyX3 tyX3_ok nmX3 hown hK hP hD hS 0 rfl rfl 0 (by decide) (hts (.fieldLink RX3 33 "TriangleSheetModel" "thrown" "I") (by decide +kernel)) (fun _ h9 => h9) rfl (by decide +kernel) rfl rfl (Nat.le_of_ble_eq_true rfl) dX3_move_65 (fun H locs hP hD hS => ?_)
          have hP : va_P (dC, dI) vwCl (wM cI cZ b (((w.1.1, w.1.2.1, w.1.2.2), nI (0), mPn w, mTm w, mTn w, mIs w, mFi w, mSe w, mMk w))) H := hP
          have hD : va_D (inW (wM cI cZ b w)) (wM cI cZ b (((w.1.1, w.1.2.1, w.1.2.2), nI (0), mPn w, mTm w, mTn w, mIs w, mFi w, mSe w, mMk w))) := hD
          refine lv_aload_n hx hb dX3_move_68 rfl (lv_at hl 1 rfl) ?_
          refine va_get (D := (dC, dI)) (ci := 3) (v := .int (nI (0))) (C := RX3) (T := TX3) (N := 11) hx hb hts (by decide +kernel) hown hK hP 0 rfl rfl 0 (by decide) (hts (.fieldLink RX3 33 "TriangleSheetModel" "thrown" "I") (by decide +kernel)) (fun _ h9 => h9) rfl dX3_move_69 ?_
          refine lv_if_le (tgt := 76) hx hb dX3_move_72 (by decide) (fun c_6 => ?_) (fun c_6 => absurd (by decide) c_6)
          refine lv_aload_n hx hb dX3_move_76 rfl (lv_at hl 1 rfl) ?_
          refine va_get (D := (dC, dI)) (ci := 3) (v := .ref (b 1)) (C := RX3) (T := TX3) (N := 11) hx hb hts (by decide +kernel) hown hK hP 0 rfl rfl 4 (by decide) (hts (.fieldLink RX3 7 "TriangleSheetModel" "px" "[I") (by decide +kernel)) (fun _ h9 => h9) rfl dX3_move_77 ?_
          refine lv_iload_n hx hb dX3_move_80 rfl (lv_at hl 2 rfl) ?_
          refine lv_iload_n hx hb dX3_move_81 rfl (lv_at hl 3 rfl) ?_
          refine ia_st (k := q) hx hb hK hP hD hS 1 0 rfl rfl (by omega) (by decide) (upd_n (w.1.1) (q) (x)) dX3_move_82 (fun H locs hP hD hS => ?_)
          have hP : va_P (dC, dI) vwCl (wM cI cZ b (((va_up (w.1.1) (q) (x), w.1.2.1, w.1.2.2), nI (0), mPn w, mTm w, mTn w, mIs w, mFi w, mSe w, mMk w))) H := hP
          have hD : va_D (inW (wM cI cZ b w)) (wM cI cZ b (((va_up (w.1.1) (q) (x), w.1.2.1, w.1.2.2), nI (0), mPn w, mTm w, mTn w, mIs w, mFi w, mSe w, mMk w))) := hD
          refine lv_aload_n hx hb dX3_move_83 rfl (lv_at hl 1 rfl) ?_
          refine va_get (D := (dC, dI)) (ci := 3) (v := .ref (b 2)) (C := RX3) (T := TX3) (N := 11) hx hb hts (by decide +kernel) hown hK hP 0 rfl rfl 5 (by decide) (hts (.fieldLink RX3 13 "TriangleSheetModel" "py" "[I") (by decide +kernel)) (fun _ h9 => h9) rfl dX3_move_84 ?_
          refine lv_iload_n hx hb dX3_move_87 rfl (lv_at hl 2 rfl) ?_
          refine lv_iload_n hx hb dX3_move_88 rfl (lv_at hl 4 rfl) ?_
          refine ia_st (k := q) hx hb hK hP hD hS 2 0 rfl rfl (by omega) (by decide) (upd_n (w.1.2.1) (q) (y)) dX3_move_89 (fun H locs hP hD hS => ?_)
          have hP : va_P (dC, dI) vwCl (wM cI cZ b (((va_up (w.1.1) (q) (x), va_up (w.1.2.1) (q) (y), w.1.2.2), nI (0), mPn w, mTm w, mTn w, mIs w, mFi w, mSe w, mMk w))) H := hP
          have hD : va_D (inW (wM cI cZ b w)) (wM cI cZ b (((va_up (w.1.1) (q) (x), va_up (w.1.2.1) (q) (y), w.1.2.2), nI (0), mPn w, mTm w, mTn w, mIs w, mFi w, mSe w, mMk w))) := hD
          exact wr_vret hx hb hr hP hS rfl rfl dX3_move_90 hlocks
        · skip
          have c_4 : (inB (nI (x)) 512 && inB (nI (y)) 512) = false := bI_f c_4
          exact absurd c_4 (by rw [inB_nI (by omega), inB_nI (by omega)]; simp; omega)
      · skip
        have c_3 : (inB (nI (q)) (mPn w)) = false := bI_f c_3
        exact absurd c_3 (by rw [inB_nI (by omega)]; simp; omega)
    · skip
      have hu9 := pAt_lt ho_u
      have huq : u = q := by { rw [ho_u] at hc; rcases hc with h | h; cases h; exact Option.some.inj h }
      refine lv_goto (tgt := 18) hx hb dX3_move_14 (by decide) ?_
      refine lv_istore (lv' := [(4, .int (nI (u))), (0, .ref (b 0)), (1, .int (nI (q))), (2, .int (nI (x))), (3, .int (nI (y)))]) hx hb dX3_move_18 hl (by decide) rfl (fun ls hl => ?_)
      refine lv_aload_n hx hb dX3_move_20 rfl (lv_at hl 1 rfl) ?_
      refine lv_iload_n hx hb dX3_move_21 rfl (lv_at hl 2 rfl) ?_
      refine lv_aload_n hx hb dX3_move_22 rfl (lv_at hl 1 rfl) ?_
      refine va_get (D := (dC, dI)) (ci := 3) (v := .int (nI (mPn w))) (C := RX3) (T := TX3) (N := 11) hx hb hts (by decide +kernel) hown hK hP 0 rfl rfl 1 (by decide) (hts (.fieldLink RX3 40 "TriangleSheetModel" "points" "I") (by decide +kernel)) (fun _ h9 => h9) rfl dX3_move_23 ?_
      refine ro_S (As := [.int (nI (q)), .int (nI (mPn w))]) (rest := [.ref (b 0)]) hx hb hml hown hts (c_X3_in l dC dI  (nI (q)) (mPn w) (by omega)) (va_cwS 2 hts gX3_move_X3_in rfl rfl rfl (by decide +kernel) ⟨Nat.le_of_ble_eq_true rfl, Nat.le_of_ble_eq_true rfl⟩) (hK.sub [] rfl) (hP.sub [] rfl) rfl hl.1 rfl (Nat.le_of_ble_eq_true rfl) dX3_move_26 ⟨Nat.zero_le _, Nat.zero_le _⟩ ?_
      refine lv_if_ne (tgt := 36) hx hb dX3_move_29 (by decide) (fun c_7 => ?_) (fun c_7 => ?_)
      · skip
        have c_7 : (inB (nI (q)) (mPn w)) = true := bI_t c_7
        refine lv_iload_n hx hb dX3_move_36 rfl (lv_at hl 3 rfl) ?_
        refine lv_iload_n hx hb dX3_move_37 rfl (lv_at hl 4 rfl) ?_
        refine ro_S (As := [.int (nI (x)), .int (nI (y))]) (rest := [.ref (b 0)]) hx hb hml hown hts (c_X3_isPlace l dC dI  (nI (x)) (nI (y)) ) (va_cwS 2 hts gX3_move_X3_isPlace rfl rfl rfl (by decide +kernel) ⟨Nat.le_of_ble_eq_true rfl, Nat.le_of_ble_eq_true rfl⟩) (hK.sub [] rfl) (hP.sub [] rfl) rfl hl.1 rfl (Nat.le_of_ble_eq_true rfl) dX3_move_38 ⟨Nat.zero_le _, Nat.zero_le _⟩ ?_
        refine lv_if_ne (tgt := 48) hx hb dX3_move_41 (by decide) (fun c_8 => ?_) (fun c_8 => ?_)
        · skip
          have c_8 : (inB (nI (x)) 512 && inB (nI (y)) 512) = true := bI_t c_8
          refine lv_iload hx hb dX3_move_48 (lv_at hl 0 rfl) ?_
          refine lv_iconst (v := iI (-1)) hx hb dX3_move_50 (by decide) ?_
          refine lv_icmp_eq (tgt := 64) hx hb dX3_move_51 (by decide) (fun c_9 => absurd c_9 (ne_m1 (by omega))) (fun c_9 => ?_)
          refine lv_iload hx hb dX3_move_54 (lv_at hl 0 rfl) ?_
          refine lv_iload_n hx hb dX3_move_56 rfl (lv_at hl 2 rfl) ?_
          refine lv_icmp_eq (tgt := 64) hx hb dX3_move_57 (by decide) (fun c_10 => ?_) (fun c_10 => ?_)
          · skip
            have c_10 : u = q := (nI_eq (a := u) (b := q) (by omega) (by omega)).mp c_10
            refine lv_iconst (v := nI (0)) hx hb dX3_move_64 (by decide) ?_
            refine va_put (D := (dC, dI)) (ci := 3) (v := .int (nI (0))) (ty := .int) (C := RX3) (T := TX3) (N := 11) hx hb hts (by decide +kernel) tyX3 tyX3_ok nmX3 hown hK hP hD hS 0 rfl rfl 0 (by decide) (hts (.fieldLink RX3 33 "TriangleSheetModel" "thrown" "I") (by decide +kernel)) (fun _ h9 => h9) rfl (by decide +kernel) rfl rfl (Nat.le_of_ble_eq_true rfl) dX3_move_65 (fun H locs hP hD hS => ?_)
            have hP : va_P (dC, dI) vwCl (wM cI cZ b (((w.1.1, w.1.2.1, w.1.2.2), nI (0), mPn w, mTm w, mTn w, mIs w, mFi w, mSe w, mMk w))) H := hP
            have hD : va_D (inW (wM cI cZ b w)) (wM cI cZ b (((w.1.1, w.1.2.1, w.1.2.2), nI (0), mPn w, mTm w, mTn w, mIs w, mFi w, mSe w, mMk w))) := hD
            refine lv_aload_n hx hb dX3_move_68 rfl (lv_at hl 1 rfl) ?_
            refine va_get (D := (dC, dI)) (ci := 3) (v := .int (nI (0))) (C := RX3) (T := TX3) (N := 11) hx hb hts (by decide +kernel) hown hK hP 0 rfl rfl 0 (by decide) (hts (.fieldLink RX3 33 "TriangleSheetModel" "thrown" "I") (by decide +kernel)) (fun _ h9 => h9) rfl dX3_move_69 ?_
            refine lv_if_le (tgt := 76) hx hb dX3_move_72 (by decide) (fun c_11 => ?_) (fun c_11 => absurd (by decide) c_11)
            refine lv_aload_n hx hb dX3_move_76 rfl (lv_at hl 1 rfl) ?_
            refine va_get (D := (dC, dI)) (ci := 3) (v := .ref (b 1)) (C := RX3) (T := TX3) (N := 11) hx hb hts (by decide +kernel) hown hK hP 0 rfl rfl 4 (by decide) (hts (.fieldLink RX3 7 "TriangleSheetModel" "px" "[I") (by decide +kernel)) (fun _ h9 => h9) rfl dX3_move_77 ?_
            refine lv_iload_n hx hb dX3_move_80 rfl (lv_at hl 2 rfl) ?_
            refine lv_iload_n hx hb dX3_move_81 rfl (lv_at hl 3 rfl) ?_
            refine ia_st (k := q) hx hb hK hP hD hS 1 0 rfl rfl (by omega) (by decide) (upd_n (w.1.1) (q) (x)) dX3_move_82 (fun H locs hP hD hS => ?_)
            have hP : va_P (dC, dI) vwCl (wM cI cZ b (((va_up (w.1.1) (q) (x), w.1.2.1, w.1.2.2), nI (0), mPn w, mTm w, mTn w, mIs w, mFi w, mSe w, mMk w))) H := hP
            have hD : va_D (inW (wM cI cZ b w)) (wM cI cZ b (((va_up (w.1.1) (q) (x), w.1.2.1, w.1.2.2), nI (0), mPn w, mTm w, mTn w, mIs w, mFi w, mSe w, mMk w))) := hD
            refine lv_aload_n hx hb dX3_move_83 rfl (lv_at hl 1 rfl) ?_
            refine va_get (D := (dC, dI)) (ci := 3) (v := .ref (b 2)) (C := RX3) (T := TX3) (N := 11) hx hb hts (by decide +kernel) hown hK hP 0 rfl rfl 5 (by decide) (hts (.fieldLink RX3 13 "TriangleSheetModel" "py" "[I") (by decide +kernel)) (fun _ h9 => h9) rfl dX3_move_84 ?_
            refine lv_iload_n hx hb dX3_move_87 rfl (lv_at hl 2 rfl) ?_
            refine lv_iload_n hx hb dX3_move_88 rfl (lv_at hl 4 rfl) ?_
            refine ia_st (k := q) hx hb hK hP hD hS 2 0 rfl rfl (by omega) (by decide) (upd_n (w.1.2.1) (q) (y)) dX3_move_89 (fun H locs hP hD hS => ?_)
            have hP : va_P (dC, dI) vwCl (wM cI cZ b (((va_up (w.1.1) (q) (x), va_up (w.1.2.1) (q) (y), w.1.2.2), nI (0), mPn w, mTm w, mTn w, mIs w, mFi w, mSe w, mMk w))) H := hP
            have hD : va_D (inW (wM cI cZ b w)) (wM cI cZ b (((va_up (w.1.1) (q) (x), va_up (w.1.2.1) (q) (y), w.1.2.2), nI (0), mPn w, mTm w, mTn w, mIs w, mFi w, mSe w, mMk w))) := hD
            exact wr_vret hx hb hr hP hS rfl rfl dX3_move_90 hlocks
          · skip
            have c_10 : ¬ (u = q) := fun hq9 => c_10 ((nI_eq (a := u) (b := q) (by omega) (by omega)).mpr hq9)
            exact absurd huq c_10
        · skip
          have c_8 : (inB (nI (x)) 512 && inB (nI (y)) 512) = false := bI_f c_8
          exact absurd c_8 (by rw [inB_nI (by omega), inB_nI (by omega)]; simp; omega)
      · skip
        have c_7 : (inB (nI (q)) (mPn w)) = false := bI_f c_7
        exact absurd c_7 (by rw [inB_nI (by omega)]; simp; omega)
set_option maxHeartbeats 4000000 in
set_option maxRecDepth 100000 in
theorem c_X3_triangle_1 (l : Launch) (dC : Nat → ClassId) (dI : Nat → Nat → Nat) (cI cL cZ : ClassId) (b : Nat → Nat) (w : MV) (i j q : Int32) (hv : okM w) (hc : (inB i (mPn w) && (inB j (mPn w) && inB q (mPn w))) = false) : Met l yX3_triangle wsX3_triangle ({ frames := 1, cells := 0, slots := 0, locals := 21 }) (va_Pc [.ref (b 0), .int (i), .int (j), .int (q)] (wr_B (dC, dI) vwCl (wM cI cZ b w) (tyS cI cL cZ))) (wr_Q (some (.int (nI (0)))) (dC, dI) vwCl (wM cI cZ b w) (wM cI cZ b (mThx w (nI 1)))) 0 0 (inW (wM cI cZ b w)) := by
  refine wr_Met (cc := cX3_triangle) (maxL := 4) (ret := (some .int)) (by decide) rfl (Nat.le_of_ble_eq_true rfl) ?_
  intro pr en s m below meth co ls hx hb hml hr hlocks hown hts hP hK hD hS hl
  have hl : lv_has ls 4 [(0, .ref (b 0)), (1, .int (i)), (2, .int (j)), (3, .int (q))] := hl
  have hown : s.vm.findClass RX3 = some m.cls := hown
  have hvp : mPn w ≤ 60 ∧ mTm w ≤ 200 ∧ mTn w ≤ 60 := ⟨hv.2.1, hv.2.2.1, hv.2.2.2.1⟩
  refine lv_aload_n hx hb dX3_triangle_0 rfl (lv_at hl 0 rfl) ?_
  refine lv_iload_n hx hb dX3_triangle_1 rfl (lv_at hl 1 rfl) ?_
  refine lv_aload_n hx hb dX3_triangle_2 rfl (lv_at hl 0 rfl) ?_
  refine va_get (D := (dC, dI)) (ci := 3) (v := .int (nI (mPn w))) (C := RX3) (T := TX3) (N := 11) hx hb hts (by decide +kernel) hown hK hP 0 rfl rfl 1 (by decide) (hts (.fieldLink RX3 40 "TriangleSheetModel" "points" "I") (by decide +kernel)) (fun _ h9 => h9) rfl dX3_triangle_3 ?_
  refine ro_S (As := [.int (i), .int (nI (mPn w))]) (rest := [.ref (b 0)]) hx hb hml hown hts (c_X3_in l dC dI  i (mPn w) (by omega)) (va_cwS 2 hts gX3_triangle_X3_in rfl rfl rfl (by decide +kernel) ⟨Nat.le_of_ble_eq_true rfl, Nat.le_of_ble_eq_true rfl⟩) (hK.sub [] rfl) (hP.sub [] rfl) rfl hl.1 rfl (Nat.le_of_ble_eq_true rfl) dX3_triangle_6 ⟨Nat.zero_le _, Nat.zero_le _⟩ ?_
  refine lv_if_eq (tgt := 34) hx hb dX3_triangle_9 (by decide) (fun c_1 => ?_) (fun c_1 => ?_)
  · skip
    have c_1 : (inB i (mPn w)) = false := bI_f c_1
    refine lv_iconst (v := nI (1)) hx hb dX3_triangle_34 (by decide) ?_
    refine lv_goto (tgt := 81) hx hb dX3_triangle_35 (by decide) ?_
    refine va_put (D := (dC, dI)) (ci := 3) (v := .int (nI (1))) (ty := .int) (C := RX3) (T := TX3) (N := 11) hx hb hts (by decide +kernel) tyX3 tyX3_ok nmX3 hown hK hP hD hS 0 rfl rfl 0 (by decide) (hts (.fieldLink RX3 33 "TriangleSheetModel" "thrown" "I") (by decide +kernel)) (fun _ h9 => h9) rfl (by decide +kernel) rfl rfl (Nat.le_of_ble_eq_true rfl) dX3_triangle_81 (fun H locs hP hD hS => ?_)
    have hP : va_P (dC, dI) vwCl (wM cI cZ b (((w.1.1, w.1.2.1, w.1.2.2), nI (1), mPn w, mTm w, mTn w, mIs w, mFi w, mSe w, mMk w))) H := hP
    have hD : va_D (inW (wM cI cZ b w)) (wM cI cZ b (((w.1.1, w.1.2.1, w.1.2.2), nI (1), mPn w, mTm w, mTn w, mIs w, mFi w, mSe w, mMk w))) := hD
    refine lv_aload_n hx hb dX3_triangle_84 rfl (lv_at hl 0 rfl) ?_
    refine va_get (D := (dC, dI)) (ci := 3) (v := .int (nI (1))) (C := RX3) (T := TX3) (N := 11) hx hb hts (by decide +kernel) hown hK hP 0 rfl rfl 0 (by decide) (hts (.fieldLink RX3 33 "TriangleSheetModel" "thrown" "I") (by decide +kernel)) (fun _ h9 => h9) rfl dX3_triangle_85 ?_
    refine lv_if_le (tgt := 95) hx hb dX3_triangle_88 (by decide) (fun c_2 => absurd c_2 (by decide)) (fun c_2 => ?_)
    refine lv_iconst (v := nI (0)) hx hb dX3_triangle_91 (by decide) ?_
    refine lv_goto (tgt := 102) hx hb dX3_triangle_92 (by decide) ?_
    exact wr_iret hx hb hr hP hS rfl rfl dX3_triangle_102 hlocks
  · skip
    have c_1 : (inB i (mPn w)) = true := bI_t c_1
    refine lv_iload_n hx hb dX3_triangle_12 rfl (lv_at hl 2 rfl) ?_
    refine lv_aload_n hx hb dX3_triangle_13 rfl (lv_at hl 0 rfl) ?_
    refine va_get (D := (dC, dI)) (ci := 3) (v := .int (nI (mPn w))) (C := RX3) (T := TX3) (N := 11) hx hb hts (by decide +kernel) hown hK hP 0 rfl rfl 1 (by decide) (hts (.fieldLink RX3 40 "TriangleSheetModel" "points" "I") (by decide +kernel)) (fun _ h9 => h9) rfl dX3_triangle_14 ?_
    refine ro_S (As := [.int (j), .int (nI (mPn w))]) (rest := [.ref (b 0)]) hx hb hml hown hts (c_X3_in l dC dI  j (mPn w) (by omega)) (va_cwS 2 hts gX3_triangle_X3_in rfl rfl rfl (by decide +kernel) ⟨Nat.le_of_ble_eq_true rfl, Nat.le_of_ble_eq_true rfl⟩) (hK.sub [] rfl) (hP.sub [] rfl) rfl hl.1 rfl (Nat.le_of_ble_eq_true rfl) dX3_triangle_17 ⟨Nat.zero_le _, Nat.zero_le _⟩ ?_
    refine lv_if_eq (tgt := 34) hx hb dX3_triangle_20 (by decide) (fun c_3 => ?_) (fun c_3 => ?_)
    · skip
      have c_3 : (inB j (mPn w)) = false := bI_f c_3
      refine lv_iconst (v := nI (1)) hx hb dX3_triangle_34 (by decide) ?_
      refine lv_goto (tgt := 81) hx hb dX3_triangle_35 (by decide) ?_
      refine va_put (D := (dC, dI)) (ci := 3) (v := .int (nI (1))) (ty := .int) (C := RX3) (T := TX3) (N := 11) hx hb hts (by decide +kernel) tyX3 tyX3_ok nmX3 hown hK hP hD hS 0 rfl rfl 0 (by decide) (hts (.fieldLink RX3 33 "TriangleSheetModel" "thrown" "I") (by decide +kernel)) (fun _ h9 => h9) rfl (by decide +kernel) rfl rfl (Nat.le_of_ble_eq_true rfl) dX3_triangle_81 (fun H locs hP hD hS => ?_)
      have hP : va_P (dC, dI) vwCl (wM cI cZ b (((w.1.1, w.1.2.1, w.1.2.2), nI (1), mPn w, mTm w, mTn w, mIs w, mFi w, mSe w, mMk w))) H := hP
      have hD : va_D (inW (wM cI cZ b w)) (wM cI cZ b (((w.1.1, w.1.2.1, w.1.2.2), nI (1), mPn w, mTm w, mTn w, mIs w, mFi w, mSe w, mMk w))) := hD
      refine lv_aload_n hx hb dX3_triangle_84 rfl (lv_at hl 0 rfl) ?_
      refine va_get (D := (dC, dI)) (ci := 3) (v := .int (nI (1))) (C := RX3) (T := TX3) (N := 11) hx hb hts (by decide +kernel) hown hK hP 0 rfl rfl 0 (by decide) (hts (.fieldLink RX3 33 "TriangleSheetModel" "thrown" "I") (by decide +kernel)) (fun _ h9 => h9) rfl dX3_triangle_85 ?_
      refine lv_if_le (tgt := 95) hx hb dX3_triangle_88 (by decide) (fun c_4 => absurd c_4 (by decide)) (fun c_4 => ?_)
      refine lv_iconst (v := nI (0)) hx hb dX3_triangle_91 (by decide) ?_
      refine lv_goto (tgt := 102) hx hb dX3_triangle_92 (by decide) ?_
      exact wr_iret hx hb hr hP hS rfl rfl dX3_triangle_102 hlocks
    · skip
      have c_3 : (inB j (mPn w)) = true := bI_t c_3
      refine lv_iload_n hx hb dX3_triangle_23 rfl (lv_at hl 3 rfl) ?_
      refine lv_aload_n hx hb dX3_triangle_24 rfl (lv_at hl 0 rfl) ?_
      refine va_get (D := (dC, dI)) (ci := 3) (v := .int (nI (mPn w))) (C := RX3) (T := TX3) (N := 11) hx hb hts (by decide +kernel) hown hK hP 0 rfl rfl 1 (by decide) (hts (.fieldLink RX3 40 "TriangleSheetModel" "points" "I") (by decide +kernel)) (fun _ h9 => h9) rfl dX3_triangle_25 ?_
      refine ro_S (As := [.int (q), .int (nI (mPn w))]) (rest := [.ref (b 0)]) hx hb hml hown hts (c_X3_in l dC dI  q (mPn w) (by omega)) (va_cwS 2 hts gX3_triangle_X3_in rfl rfl rfl (by decide +kernel) ⟨Nat.le_of_ble_eq_true rfl, Nat.le_of_ble_eq_true rfl⟩) (hK.sub [] rfl) (hP.sub [] rfl) rfl hl.1 rfl (Nat.le_of_ble_eq_true rfl) dX3_triangle_28 ⟨Nat.zero_le _, Nat.zero_le _⟩ ?_
      refine lv_if_ne (tgt := 38) hx hb dX3_triangle_31 (by decide) (fun c_5 => ?_) (fun c_5 => ?_)
      · skip
        have c_5 : (inB q (mPn w)) = true := bI_t c_5
        exact absurd hc (by simp [c_1, c_3, c_5])
      · skip
        have c_5 : (inB q (mPn w)) = false := bI_f c_5
        refine lv_iconst (v := nI (1)) hx hb dX3_triangle_34 (by decide) ?_
        refine lv_goto (tgt := 81) hx hb dX3_triangle_35 (by decide) ?_
        refine va_put (D := (dC, dI)) (ci := 3) (v := .int (nI (1))) (ty := .int) (C := RX3) (T := TX3) (N := 11) hx hb hts (by decide +kernel) tyX3 tyX3_ok nmX3 hown hK hP hD hS 0 rfl rfl 0 (by decide) (hts (.fieldLink RX3 33 "TriangleSheetModel" "thrown" "I") (by decide +kernel)) (fun _ h9 => h9) rfl (by decide +kernel) rfl rfl (Nat.le_of_ble_eq_true rfl) dX3_triangle_81 (fun H locs hP hD hS => ?_)
        have hP : va_P (dC, dI) vwCl (wM cI cZ b (((w.1.1, w.1.2.1, w.1.2.2), nI (1), mPn w, mTm w, mTn w, mIs w, mFi w, mSe w, mMk w))) H := hP
        have hD : va_D (inW (wM cI cZ b w)) (wM cI cZ b (((w.1.1, w.1.2.1, w.1.2.2), nI (1), mPn w, mTm w, mTn w, mIs w, mFi w, mSe w, mMk w))) := hD
        refine lv_aload_n hx hb dX3_triangle_84 rfl (lv_at hl 0 rfl) ?_
        refine va_get (D := (dC, dI)) (ci := 3) (v := .int (nI (1))) (C := RX3) (T := TX3) (N := 11) hx hb hts (by decide +kernel) hown hK hP 0 rfl rfl 0 (by decide) (hts (.fieldLink RX3 33 "TriangleSheetModel" "thrown" "I") (by decide +kernel)) (fun _ h9 => h9) rfl dX3_triangle_85 ?_
        refine lv_if_le (tgt := 95) hx hb dX3_triangle_88 (by decide) (fun c_6 => absurd c_6 (by decide)) (fun c_6 => ?_)
        refine lv_iconst (v := nI (0)) hx hb dX3_triangle_91 (by decide) ?_
        refine lv_goto (tgt := 102) hx hb dX3_triangle_92 (by decide) ?_
        exact wr_iret hx hb hr hP hS rfl rfl dX3_triangle_102 hlocks
set_option maxHeartbeats 4000000 in
set_option maxRecDepth 100000 in
theorem c_X3_triangle_2 (l : Launch) (dC : Nat → ClassId) (dI : Nat → Nat → Nat) (cI cL cZ : ClassId) (b : Nat → Nat) (w : MV) (i j q : Nat) (hv : okM w) (hi : i < mPn w) (hj : j < mPn w) (hq : q < mPn w) (hc : i = j ∨ j = q ∨ i = q) : Met l yX3_triangle wsX3_triangle ({ frames := 1, cells := 0, slots := 0, locals := 21 }) (va_Pc [.ref (b 0), .int (nI (i)), .int (nI (j)), .int (nI (q))] (wr_B (dC, dI) vwCl (wM cI cZ b w) (tyS cI cL cZ))) (wr_Q (some (.int (nI (0)))) (dC, dI) vwCl (wM cI cZ b w) (wM cI cZ b (mThx w (nI 2)))) 0 0 (inW (wM cI cZ b w)) := by
  refine wr_Met (cc := cX3_triangle) (maxL := 4) (ret := (some .int)) (by decide) rfl (Nat.le_of_ble_eq_true rfl) ?_
  intro pr en s m below meth co ls hx hb hml hr hlocks hown hts hP hK hD hS hl
  have hl : lv_has ls 4 [(0, .ref (b 0)), (1, .int (nI (i))), (2, .int (nI (j))), (3, .int (nI (q)))] := hl
  have hown : s.vm.findClass RX3 = some m.cls := hown
  have hvp : mPn w ≤ 60 ∧ mTm w ≤ 200 ∧ mTn w ≤ 60 := ⟨hv.2.1, hv.2.2.1, hv.2.2.2.1⟩
  refine lv_aload_n hx hb dX3_triangle_0 rfl (lv_at hl 0 rfl) ?_
  refine lv_iload_n hx hb dX3_triangle_1 rfl (lv_at hl 1 rfl) ?_
  refine lv_aload_n hx hb dX3_triangle_2 rfl (lv_at hl 0 rfl) ?_
  refine va_get (D := (dC, dI)) (ci := 3) (v := .int (nI (mPn w))) (C := RX3) (T := TX3) (N := 11) hx hb hts (by decide +kernel) hown hK hP 0 rfl rfl 1 (by decide) (hts (.fieldLink RX3 40 "TriangleSheetModel" "points" "I") (by decide +kernel)) (fun _ h9 => h9) rfl dX3_triangle_3 ?_
  refine ro_S (As := [.int (nI (i)), .int (nI (mPn w))]) (rest := [.ref (b 0)]) hx hb hml hown hts (c_X3_in l dC dI  (nI (i)) (mPn w) (by omega)) (va_cwS 2 hts gX3_triangle_X3_in rfl rfl rfl (by decide +kernel) ⟨Nat.le_of_ble_eq_true rfl, Nat.le_of_ble_eq_true rfl⟩) (hK.sub [] rfl) (hP.sub [] rfl) rfl hl.1 rfl (Nat.le_of_ble_eq_true rfl) dX3_triangle_6 ⟨Nat.zero_le _, Nat.zero_le _⟩ ?_
  refine lv_if_eq (tgt := 34) hx hb dX3_triangle_9 (by decide) (fun c_1 => ?_) (fun c_1 => ?_)
  · skip
    have c_1 : (inB (nI (i)) (mPn w)) = false := bI_f c_1
    exact absurd c_1 (by rw [inB_nI (by omega)]; simp; omega)
  · skip
    have c_1 : (inB (nI (i)) (mPn w)) = true := bI_t c_1
    refine lv_iload_n hx hb dX3_triangle_12 rfl (lv_at hl 2 rfl) ?_
    refine lv_aload_n hx hb dX3_triangle_13 rfl (lv_at hl 0 rfl) ?_
    refine va_get (D := (dC, dI)) (ci := 3) (v := .int (nI (mPn w))) (C := RX3) (T := TX3) (N := 11) hx hb hts (by decide +kernel) hown hK hP 0 rfl rfl 1 (by decide) (hts (.fieldLink RX3 40 "TriangleSheetModel" "points" "I") (by decide +kernel)) (fun _ h9 => h9) rfl dX3_triangle_14 ?_
    refine ro_S (As := [.int (nI (j)), .int (nI (mPn w))]) (rest := [.ref (b 0)]) hx hb hml hown hts (c_X3_in l dC dI  (nI (j)) (mPn w) (by omega)) (va_cwS 2 hts gX3_triangle_X3_in rfl rfl rfl (by decide +kernel) ⟨Nat.le_of_ble_eq_true rfl, Nat.le_of_ble_eq_true rfl⟩) (hK.sub [] rfl) (hP.sub [] rfl) rfl hl.1 rfl (Nat.le_of_ble_eq_true rfl) dX3_triangle_17 ⟨Nat.zero_le _, Nat.zero_le _⟩ ?_
    refine lv_if_eq (tgt := 34) hx hb dX3_triangle_20 (by decide) (fun c_2 => ?_) (fun c_2 => ?_)
    · skip
      have c_2 : (inB (nI (j)) (mPn w)) = false := bI_f c_2
      exact absurd c_2 (by rw [inB_nI (by omega)]; simp; omega)
    · skip
      have c_2 : (inB (nI (j)) (mPn w)) = true := bI_t c_2
      refine lv_iload_n hx hb dX3_triangle_23 rfl (lv_at hl 3 rfl) ?_
      refine lv_aload_n hx hb dX3_triangle_24 rfl (lv_at hl 0 rfl) ?_
      refine va_get (D := (dC, dI)) (ci := 3) (v := .int (nI (mPn w))) (C := RX3) (T := TX3) (N := 11) hx hb hts (by decide +kernel) hown hK hP 0 rfl rfl 1 (by decide) (hts (.fieldLink RX3 40 "TriangleSheetModel" "points" "I") (by decide +kernel)) (fun _ h9 => h9) rfl dX3_triangle_25 ?_
      refine ro_S (As := [.int (nI (q)), .int (nI (mPn w))]) (rest := [.ref (b 0)]) hx hb hml hown hts (c_X3_in l dC dI  (nI (q)) (mPn w) (by omega)) (va_cwS 2 hts gX3_triangle_X3_in rfl rfl rfl (by decide +kernel) ⟨Nat.le_of_ble_eq_true rfl, Nat.le_of_ble_eq_true rfl⟩) (hK.sub [] rfl) (hP.sub [] rfl) rfl hl.1 rfl (Nat.le_of_ble_eq_true rfl) dX3_triangle_28 ⟨Nat.zero_le _, Nat.zero_le _⟩ ?_
      refine lv_if_ne (tgt := 38) hx hb dX3_triangle_31 (by decide) (fun c_3 => ?_) (fun c_3 => ?_)
      · skip
        have c_3 : (inB (nI (q)) (mPn w)) = true := bI_t c_3
        refine lv_iload_n hx hb dX3_triangle_38 rfl (lv_at hl 1 rfl) ?_
        refine lv_iload_n hx hb dX3_triangle_39 rfl (lv_at hl 2 rfl) ?_
        refine lv_icmp_eq (tgt := 53) hx hb dX3_triangle_40 (by decide) (fun c_4 => ?_) (fun c_4 => ?_)
        · skip
          have c_4 : i = j := (nI_eq (a := i) (b := j) (by omega) (by omega)).mp c_4
          refine lv_iconst (v := nI (2)) hx hb dX3_triangle_53 (by decide) ?_
          refine lv_goto (tgt := 81) hx hb dX3_triangle_54 (by decide) ?_
          refine va_put (D := (dC, dI)) (ci := 3) (v := .int (nI (2))) (ty := .int) (C := RX3) (T := TX3) (N := 11) hx hb hts (by decide +kernel) tyX3 tyX3_ok nmX3 hown hK hP hD hS 0 rfl rfl 0 (by decide) (hts (.fieldLink RX3 33 "TriangleSheetModel" "thrown" "I") (by decide +kernel)) (fun _ h9 => h9) rfl (by decide +kernel) rfl rfl (Nat.le_of_ble_eq_true rfl) dX3_triangle_81 (fun H locs hP hD hS => ?_)
          have hP : va_P (dC, dI) vwCl (wM cI cZ b (((w.1.1, w.1.2.1, w.1.2.2), nI (2), mPn w, mTm w, mTn w, mIs w, mFi w, mSe w, mMk w))) H := hP
          have hD : va_D (inW (wM cI cZ b w)) (wM cI cZ b (((w.1.1, w.1.2.1, w.1.2.2), nI (2), mPn w, mTm w, mTn w, mIs w, mFi w, mSe w, mMk w))) := hD
          refine lv_aload_n hx hb dX3_triangle_84 rfl (lv_at hl 0 rfl) ?_
          refine va_get (D := (dC, dI)) (ci := 3) (v := .int (nI (2))) (C := RX3) (T := TX3) (N := 11) hx hb hts (by decide +kernel) hown hK hP 0 rfl rfl 0 (by decide) (hts (.fieldLink RX3 33 "TriangleSheetModel" "thrown" "I") (by decide +kernel)) (fun _ h9 => h9) rfl dX3_triangle_85 ?_
          refine lv_if_le (tgt := 95) hx hb dX3_triangle_88 (by decide) (fun c_5 => absurd c_5 (by decide)) (fun c_5 => ?_)
          refine lv_iconst (v := nI (0)) hx hb dX3_triangle_91 (by decide) ?_
          refine lv_goto (tgt := 102) hx hb dX3_triangle_92 (by decide) ?_
          exact wr_iret hx hb hr hP hS rfl rfl dX3_triangle_102 hlocks
        · skip
          have c_4 : ¬ (i = j) := fun hq9 => c_4 ((nI_eq (a := i) (b := j) (by omega) (by omega)).mpr hq9)
          refine lv_iload_n hx hb dX3_triangle_43 rfl (lv_at hl 2 rfl) ?_
          refine lv_iload_n hx hb dX3_triangle_44 rfl (lv_at hl 3 rfl) ?_
          refine lv_icmp_eq (tgt := 53) hx hb dX3_triangle_45 (by decide) (fun c_6 => ?_) (fun c_6 => ?_)
          · skip
            have c_6 : j = q := (nI_eq (a := j) (b := q) (by omega) (by omega)).mp c_6
            refine lv_iconst (v := nI (2)) hx hb dX3_triangle_53 (by decide) ?_
            refine lv_goto (tgt := 81) hx hb dX3_triangle_54 (by decide) ?_
            refine va_put (D := (dC, dI)) (ci := 3) (v := .int (nI (2))) (ty := .int) (C := RX3) (T := TX3) (N := 11) hx hb hts (by decide +kernel) tyX3 tyX3_ok nmX3 hown hK hP hD hS 0 rfl rfl 0 (by decide) (hts (.fieldLink RX3 33 "TriangleSheetModel" "thrown" "I") (by decide +kernel)) (fun _ h9 => h9) rfl (by decide +kernel) rfl rfl (Nat.le_of_ble_eq_true rfl) dX3_triangle_81 (fun H locs hP hD hS => ?_)
            have hP : va_P (dC, dI) vwCl (wM cI cZ b (((w.1.1, w.1.2.1, w.1.2.2), nI (2), mPn w, mTm w, mTn w, mIs w, mFi w, mSe w, mMk w))) H := hP
            have hD : va_D (inW (wM cI cZ b w)) (wM cI cZ b (((w.1.1, w.1.2.1, w.1.2.2), nI (2), mPn w, mTm w, mTn w, mIs w, mFi w, mSe w, mMk w))) := hD
            refine lv_aload_n hx hb dX3_triangle_84 rfl (lv_at hl 0 rfl) ?_
            refine va_get (D := (dC, dI)) (ci := 3) (v := .int (nI (2))) (C := RX3) (T := TX3) (N := 11) hx hb hts (by decide +kernel) hown hK hP 0 rfl rfl 0 (by decide) (hts (.fieldLink RX3 33 "TriangleSheetModel" "thrown" "I") (by decide +kernel)) (fun _ h9 => h9) rfl dX3_triangle_85 ?_
            refine lv_if_le (tgt := 95) hx hb dX3_triangle_88 (by decide) (fun c_7 => absurd c_7 (by decide)) (fun c_7 => ?_)
            refine lv_iconst (v := nI (0)) hx hb dX3_triangle_91 (by decide) ?_
            refine lv_goto (tgt := 102) hx hb dX3_triangle_92 (by decide) ?_
            exact wr_iret hx hb hr hP hS rfl rfl dX3_triangle_102 hlocks
          · skip
            have c_6 : ¬ (j = q) := fun hq9 => c_6 ((nI_eq (a := j) (b := q) (by omega) (by omega)).mpr hq9)
            refine lv_iload_n hx hb dX3_triangle_48 rfl (lv_at hl 1 rfl) ?_
            refine lv_iload_n hx hb dX3_triangle_49 rfl (lv_at hl 3 rfl) ?_
            refine lv_icmp_ne (tgt := 57) hx hb dX3_triangle_50 (by decide) (fun c_8 => ?_) (fun c_8 => ?_)
            · skip
              have c_8 : ¬ (i = q) := fun hq9 => c_8 ((nI_eq (a := i) (b := q) (by omega) (by omega)).mpr hq9)
              omega
            · skip
              have c_8 : i = q := (nI_eq (a := i) (b := q) (by omega) (by omega)).mp c_8
              refine lv_iconst (v := nI (2)) hx hb dX3_triangle_53 (by decide) ?_
              refine lv_goto (tgt := 81) hx hb dX3_triangle_54 (by decide) ?_
              refine va_put (D := (dC, dI)) (ci := 3) (v := .int (nI (2))) (ty := .int) (C := RX3) (T := TX3) (N := 11) hx hb hts (by decide +kernel) tyX3 tyX3_ok nmX3 hown hK hP hD hS 0 rfl rfl 0 (by decide) (hts (.fieldLink RX3 33 "TriangleSheetModel" "thrown" "I") (by decide +kernel)) (fun _ h9 => h9) rfl (by decide +kernel) rfl rfl (Nat.le_of_ble_eq_true rfl) dX3_triangle_81 (fun H locs hP hD hS => ?_)
              have hP : va_P (dC, dI) vwCl (wM cI cZ b (((w.1.1, w.1.2.1, w.1.2.2), nI (2), mPn w, mTm w, mTn w, mIs w, mFi w, mSe w, mMk w))) H := hP
              have hD : va_D (inW (wM cI cZ b w)) (wM cI cZ b (((w.1.1, w.1.2.1, w.1.2.2), nI (2), mPn w, mTm w, mTn w, mIs w, mFi w, mSe w, mMk w))) := hD
              refine lv_aload_n hx hb dX3_triangle_84 rfl (lv_at hl 0 rfl) ?_
              refine va_get (D := (dC, dI)) (ci := 3) (v := .int (nI (2))) (C := RX3) (T := TX3) (N := 11) hx hb hts (by decide +kernel) hown hK hP 0 rfl rfl 0 (by decide) (hts (.fieldLink RX3 33 "TriangleSheetModel" "thrown" "I") (by decide +kernel)) (fun _ h9 => h9) rfl dX3_triangle_85 ?_
              refine lv_if_le (tgt := 95) hx hb dX3_triangle_88 (by decide) (fun c_9 => absurd c_9 (by decide)) (fun c_9 => ?_)
              refine lv_iconst (v := nI (0)) hx hb dX3_triangle_91 (by decide) ?_
              refine lv_goto (tgt := 102) hx hb dX3_triangle_92 (by decide) ?_
              exact wr_iret hx hb hr hP hS rfl rfl dX3_triangle_102 hlocks
      · skip
        have c_3 : (inB (nI (q)) (mPn w)) = false := bI_f c_3
        exact absurd c_3 (by rw [inB_nI (by omega)]; simp; omega)
set_option maxHeartbeats 4000000 in
set_option maxRecDepth 100000 in
theorem c_X3_triangle_3 (l : Launch) (dC : Nat → ClassId) (dI : Nat → Nat → Nat) (cI cL cZ : ClassId) (b : Nat → Nat) (w : MV) (i j q : Nat) (hv : okM w) (hi : i < mPn w) (hj : j < mPn w) (hq : q < mPn w) (hc : i ≠ j ∧ j ≠ q ∧ i ≠ q) (hd : mTn w = 60 ∨ mTm w = 200) : Met l yX3_triangle wsX3_triangle ({ frames := 1, cells := 0, slots := 0, locals := 21 }) (va_Pc [.ref (b 0), .int (nI (i)), .int (nI (j)), .int (nI (q))] (wr_B (dC, dI) vwCl (wM cI cZ b w) (tyS cI cL cZ))) (wr_Q (some (.int (nI (0)))) (dC, dI) vwCl (wM cI cZ b w) (wM cI cZ b (mThx w (nI 3)))) 0 0 (inW (wM cI cZ b w)) := by
  refine wr_Met (cc := cX3_triangle) (maxL := 4) (ret := (some .int)) (by decide) rfl (Nat.le_of_ble_eq_true rfl) ?_
  intro pr en s m below meth co ls hx hb hml hr hlocks hown hts hP hK hD hS hl
  have hl : lv_has ls 4 [(0, .ref (b 0)), (1, .int (nI (i))), (2, .int (nI (j))), (3, .int (nI (q)))] := hl
  have hown : s.vm.findClass RX3 = some m.cls := hown
  have hvp : mPn w ≤ 60 ∧ mTm w ≤ 200 ∧ mTn w ≤ 60 := ⟨hv.2.1, hv.2.2.1, hv.2.2.2.1⟩
  refine lv_aload_n hx hb dX3_triangle_0 rfl (lv_at hl 0 rfl) ?_
  refine lv_iload_n hx hb dX3_triangle_1 rfl (lv_at hl 1 rfl) ?_
  refine lv_aload_n hx hb dX3_triangle_2 rfl (lv_at hl 0 rfl) ?_
  refine va_get (D := (dC, dI)) (ci := 3) (v := .int (nI (mPn w))) (C := RX3) (T := TX3) (N := 11) hx hb hts (by decide +kernel) hown hK hP 0 rfl rfl 1 (by decide) (hts (.fieldLink RX3 40 "TriangleSheetModel" "points" "I") (by decide +kernel)) (fun _ h9 => h9) rfl dX3_triangle_3 ?_
  refine ro_S (As := [.int (nI (i)), .int (nI (mPn w))]) (rest := [.ref (b 0)]) hx hb hml hown hts (c_X3_in l dC dI  (nI (i)) (mPn w) (by omega)) (va_cwS 2 hts gX3_triangle_X3_in rfl rfl rfl (by decide +kernel) ⟨Nat.le_of_ble_eq_true rfl, Nat.le_of_ble_eq_true rfl⟩) (hK.sub [] rfl) (hP.sub [] rfl) rfl hl.1 rfl (Nat.le_of_ble_eq_true rfl) dX3_triangle_6 ⟨Nat.zero_le _, Nat.zero_le _⟩ ?_
  refine lv_if_eq (tgt := 34) hx hb dX3_triangle_9 (by decide) (fun c_1 => ?_) (fun c_1 => ?_)
  · skip
    have c_1 : (inB (nI (i)) (mPn w)) = false := bI_f c_1
    exact absurd c_1 (by rw [inB_nI (by omega)]; simp; omega)
  · skip
    have c_1 : (inB (nI (i)) (mPn w)) = true := bI_t c_1
    refine lv_iload_n hx hb dX3_triangle_12 rfl (lv_at hl 2 rfl) ?_
    refine lv_aload_n hx hb dX3_triangle_13 rfl (lv_at hl 0 rfl) ?_
    refine va_get (D := (dC, dI)) (ci := 3) (v := .int (nI (mPn w))) (C := RX3) (T := TX3) (N := 11) hx hb hts (by decide +kernel) hown hK hP 0 rfl rfl 1 (by decide) (hts (.fieldLink RX3 40 "TriangleSheetModel" "points" "I") (by decide +kernel)) (fun _ h9 => h9) rfl dX3_triangle_14 ?_
    refine ro_S (As := [.int (nI (j)), .int (nI (mPn w))]) (rest := [.ref (b 0)]) hx hb hml hown hts (c_X3_in l dC dI  (nI (j)) (mPn w) (by omega)) (va_cwS 2 hts gX3_triangle_X3_in rfl rfl rfl (by decide +kernel) ⟨Nat.le_of_ble_eq_true rfl, Nat.le_of_ble_eq_true rfl⟩) (hK.sub [] rfl) (hP.sub [] rfl) rfl hl.1 rfl (Nat.le_of_ble_eq_true rfl) dX3_triangle_17 ⟨Nat.zero_le _, Nat.zero_le _⟩ ?_
    refine lv_if_eq (tgt := 34) hx hb dX3_triangle_20 (by decide) (fun c_2 => ?_) (fun c_2 => ?_)
    · skip
      have c_2 : (inB (nI (j)) (mPn w)) = false := bI_f c_2
      exact absurd c_2 (by rw [inB_nI (by omega)]; simp; omega)
    · skip
      have c_2 : (inB (nI (j)) (mPn w)) = true := bI_t c_2
      refine lv_iload_n hx hb dX3_triangle_23 rfl (lv_at hl 3 rfl) ?_
      refine lv_aload_n hx hb dX3_triangle_24 rfl (lv_at hl 0 rfl) ?_
      refine va_get (D := (dC, dI)) (ci := 3) (v := .int (nI (mPn w))) (C := RX3) (T := TX3) (N := 11) hx hb hts (by decide +kernel) hown hK hP 0 rfl rfl 1 (by decide) (hts (.fieldLink RX3 40 "TriangleSheetModel" "points" "I") (by decide +kernel)) (fun _ h9 => h9) rfl dX3_triangle_25 ?_
      refine ro_S (As := [.int (nI (q)), .int (nI (mPn w))]) (rest := [.ref (b 0)]) hx hb hml hown hts (c_X3_in l dC dI  (nI (q)) (mPn w) (by omega)) (va_cwS 2 hts gX3_triangle_X3_in rfl rfl rfl (by decide +kernel) ⟨Nat.le_of_ble_eq_true rfl, Nat.le_of_ble_eq_true rfl⟩) (hK.sub [] rfl) (hP.sub [] rfl) rfl hl.1 rfl (Nat.le_of_ble_eq_true rfl) dX3_triangle_28 ⟨Nat.zero_le _, Nat.zero_le _⟩ ?_
      refine lv_if_ne (tgt := 38) hx hb dX3_triangle_31 (by decide) (fun c_3 => ?_) (fun c_3 => ?_)
      · skip
        have c_3 : (inB (nI (q)) (mPn w)) = true := bI_t c_3
        refine lv_iload_n hx hb dX3_triangle_38 rfl (lv_at hl 1 rfl) ?_
        refine lv_iload_n hx hb dX3_triangle_39 rfl (lv_at hl 2 rfl) ?_
        refine lv_icmp_eq (tgt := 53) hx hb dX3_triangle_40 (by decide) (fun c_4 => ?_) (fun c_4 => ?_)
        · skip
          have c_4 : i = j := (nI_eq (a := i) (b := j) (by omega) (by omega)).mp c_4
          omega
        · skip
          have c_4 : ¬ (i = j) := fun hq9 => c_4 ((nI_eq (a := i) (b := j) (by omega) (by omega)).mpr hq9)
          refine lv_iload_n hx hb dX3_triangle_43 rfl (lv_at hl 2 rfl) ?_
          refine lv_iload_n hx hb dX3_triangle_44 rfl (lv_at hl 3 rfl) ?_
          refine lv_icmp_eq (tgt := 53) hx hb dX3_triangle_45 (by decide) (fun c_5 => ?_) (fun c_5 => ?_)
          · skip
            have c_5 : j = q := (nI_eq (a := j) (b := q) (by omega) (by omega)).mp c_5
            omega
          · skip
            have c_5 : ¬ (j = q) := fun hq9 => c_5 ((nI_eq (a := j) (b := q) (by omega) (by omega)).mpr hq9)
            refine lv_iload_n hx hb dX3_triangle_48 rfl (lv_at hl 1 rfl) ?_
            refine lv_iload_n hx hb dX3_triangle_49 rfl (lv_at hl 3 rfl) ?_
            refine lv_icmp_ne (tgt := 57) hx hb dX3_triangle_50 (by decide) (fun c_6 => ?_) (fun c_6 => ?_)
            · skip
              have c_6 : ¬ (i = q) := fun hq9 => c_6 ((nI_eq (a := i) (b := q) (by omega) (by omega)).mpr hq9)
              refine lv_aload_n hx hb dX3_triangle_57 rfl (lv_at hl 0 rfl) ?_
              refine va_get (D := (dC, dI)) (ci := 3) (v := .int (nI (mTn w))) (C := RX3) (T := TX3) (N := 11) hx hb hts (by decide +kernel) hown hK hP 0 rfl rfl 3 (by decide) (hts (.fieldLink RX3 112 "TriangleSheetModel" "there" "I") (by decide +kernel)) (fun _ h9 => h9) rfl dX3_triangle_58 ?_
              refine lv_bipush (v := nI (60)) hx hb dX3_triangle_61 (by decide) ?_
              refine lv_icmp_eq (tgt := 76) hx hb dX3_triangle_63 (by decide) (fun c_7 => ?_) (fun c_7 => ?_)
              · skip
                have c_7 : mTn w = 60 := (nI_eq (a := mTn w) (b := 60) (by omega) (by omega)).mp c_7
                refine lv_iconst (v := nI (3)) hx hb dX3_triangle_76 (by decide) ?_
                refine lv_goto (tgt := 81) hx hb dX3_triangle_77 (by decide) ?_
                refine va_put (D := (dC, dI)) (ci := 3) (v := .int (nI (3))) (ty := .int) (C := RX3) (T := TX3) (N := 11) hx hb hts (by decide +kernel) tyX3 tyX3_ok nmX3 hown hK hP hD hS 0 rfl rfl 0 (by decide) (hts (.fieldLink RX3 33 "TriangleSheetModel" "thrown" "I") (by decide +kernel)) (fun _ h9 => h9) rfl (by decide +kernel) rfl rfl (Nat.le_of_ble_eq_true rfl) dX3_triangle_81 (fun H locs hP hD hS => ?_)
                have hP : va_P (dC, dI) vwCl (wM cI cZ b (((w.1.1, w.1.2.1, w.1.2.2), nI (3), mPn w, mTm w, mTn w, mIs w, mFi w, mSe w, mMk w))) H := hP
                have hD : va_D (inW (wM cI cZ b w)) (wM cI cZ b (((w.1.1, w.1.2.1, w.1.2.2), nI (3), mPn w, mTm w, mTn w, mIs w, mFi w, mSe w, mMk w))) := hD
                refine lv_aload_n hx hb dX3_triangle_84 rfl (lv_at hl 0 rfl) ?_
                refine va_get (D := (dC, dI)) (ci := 3) (v := .int (nI (3))) (C := RX3) (T := TX3) (N := 11) hx hb hts (by decide +kernel) hown hK hP 0 rfl rfl 0 (by decide) (hts (.fieldLink RX3 33 "TriangleSheetModel" "thrown" "I") (by decide +kernel)) (fun _ h9 => h9) rfl dX3_triangle_85 ?_
                refine lv_if_le (tgt := 95) hx hb dX3_triangle_88 (by decide) (fun c_8 => absurd c_8 (by decide)) (fun c_8 => ?_)
                refine lv_iconst (v := nI (0)) hx hb dX3_triangle_91 (by decide) ?_
                refine lv_goto (tgt := 102) hx hb dX3_triangle_92 (by decide) ?_
                exact wr_iret hx hb hr hP hS rfl rfl dX3_triangle_102 hlocks
              · skip
                have c_7 : ¬ (mTn w = 60) := fun hq9 => c_7 ((nI_eq (a := mTn w) (b := 60) (by omega) (by omega)).mpr hq9)
                refine lv_aload_n hx hb dX3_triangle_66 rfl (lv_at hl 0 rfl) ?_
                refine va_get (D := (dC, dI)) (ci := 3) (v := .int (nI (mTm w))) (C := RX3) (T := TX3) (N := 11) hx hb hts (by decide +kernel) hown hK hP 0 rfl rfl 2 (by decide) (hts (.fieldLink RX3 43 "TriangleSheetModel" "came" "I") (by decide +kernel)) (fun _ h9 => h9) rfl dX3_triangle_67 ?_
                refine lv_sipush (v := nI (200)) hx hb dX3_triangle_70 (by decide) ?_
                refine lv_icmp_ne (tgt := 80) hx hb dX3_triangle_73 (by decide) (fun c_9 => ?_) (fun c_9 => ?_)
                · skip
                  have c_9 : ¬ (mTm w = 200) := fun hq9 => c_9 ((nI_eq (a := mTm w) (b := 200) (by omega) (by omega)).mpr hq9)
                  omega
                · skip
                  have c_9 : mTm w = 200 := (nI_eq (a := mTm w) (b := 200) (by omega) (by omega)).mp c_9
                  refine lv_iconst (v := nI (3)) hx hb dX3_triangle_76 (by decide) ?_
                  refine lv_goto (tgt := 81) hx hb dX3_triangle_77 (by decide) ?_
                  refine va_put (D := (dC, dI)) (ci := 3) (v := .int (nI (3))) (ty := .int) (C := RX3) (T := TX3) (N := 11) hx hb hts (by decide +kernel) tyX3 tyX3_ok nmX3 hown hK hP hD hS 0 rfl rfl 0 (by decide) (hts (.fieldLink RX3 33 "TriangleSheetModel" "thrown" "I") (by decide +kernel)) (fun _ h9 => h9) rfl (by decide +kernel) rfl rfl (Nat.le_of_ble_eq_true rfl) dX3_triangle_81 (fun H locs hP hD hS => ?_)
                  have hP : va_P (dC, dI) vwCl (wM cI cZ b (((w.1.1, w.1.2.1, w.1.2.2), nI (3), mPn w, mTm w, mTn w, mIs w, mFi w, mSe w, mMk w))) H := hP
                  have hD : va_D (inW (wM cI cZ b w)) (wM cI cZ b (((w.1.1, w.1.2.1, w.1.2.2), nI (3), mPn w, mTm w, mTn w, mIs w, mFi w, mSe w, mMk w))) := hD
                  refine lv_aload_n hx hb dX3_triangle_84 rfl (lv_at hl 0 rfl) ?_
                  refine va_get (D := (dC, dI)) (ci := 3) (v := .int (nI (3))) (C := RX3) (T := TX3) (N := 11) hx hb hts (by decide +kernel) hown hK hP 0 rfl rfl 0 (by decide) (hts (.fieldLink RX3 33 "TriangleSheetModel" "thrown" "I") (by decide +kernel)) (fun _ h9 => h9) rfl dX3_triangle_85 ?_
                  refine lv_if_le (tgt := 95) hx hb dX3_triangle_88 (by decide) (fun c_10 => absurd c_10 (by decide)) (fun c_10 => ?_)
                  refine lv_iconst (v := nI (0)) hx hb dX3_triangle_91 (by decide) ?_
                  refine lv_goto (tgt := 102) hx hb dX3_triangle_92 (by decide) ?_
                  exact wr_iret hx hb hr hP hS rfl rfl dX3_triangle_102 hlocks
            · skip
              have c_6 : i = q := (nI_eq (a := i) (b := q) (by omega) (by omega)).mp c_6
              omega
      · skip
        have c_3 : (inB (nI (q)) (mPn w)) = false := bI_f c_3
        exact absurd c_3 (by rw [inB_nI (by omega)]; simp; omega)
set_option maxHeartbeats 4000000 in
set_option maxRecDepth 100000 in
theorem c_X3_triangle_0 (l : Launch) (dC : Nat → ClassId) (dI : Nat → Nat → Nat) (cI cL cZ : ClassId) (b : Nat → Nat) (w : MV) (i j q : Nat) (hv : okM w) (hi : i < mPn w) (hj : j < mPn w) (hq : q < mPn w) (hc : i ≠ j ∧ j ≠ q ∧ i ≠ q) (hd : mTn w < 60 ∧ mTm w < 200) : Met l yX3_triangle wsX3_triangle ({ frames := 2, cells := 0, slots := 0, locals := 47 }) (va_Pc [.ref (b 0), .int (nI (i)), .int (nI (j)), .int (nI (q))] (wr_B (dC, dI) vwCl (wM cI cZ b w) (tyS cI cL cZ))) (wr_Q (some (.int (nI (mTm w)))) (dC, dI) vwCl (wM cI cZ b w) (wM cI cZ b (mAdd (mThx w (nI 0)) i j q))) 0 0 (inW (wM cI cZ b w)) := by
  refine wr_Met (cc := cX3_triangle) (maxL := 4) (ret := (some .int)) (by decide) rfl (Nat.le_of_ble_eq_true rfl) ?_
  intro pr en s m below meth co ls hx hb hml hr hlocks hown hts hP hK hD hS hl
  have hl : lv_has ls 4 [(0, .ref (b 0)), (1, .int (nI (i))), (2, .int (nI (j))), (3, .int (nI (q)))] := hl
  have hown : s.vm.findClass RX3 = some m.cls := hown
  have hvp : mPn w ≤ 60 ∧ mTm w ≤ 200 ∧ mTn w ≤ 60 := ⟨hv.2.1, hv.2.2.1, hv.2.2.2.1⟩
  refine lv_aload_n hx hb dX3_triangle_0 rfl (lv_at hl 0 rfl) ?_
  refine lv_iload_n hx hb dX3_triangle_1 rfl (lv_at hl 1 rfl) ?_
  refine lv_aload_n hx hb dX3_triangle_2 rfl (lv_at hl 0 rfl) ?_
  refine va_get (D := (dC, dI)) (ci := 3) (v := .int (nI (mPn w))) (C := RX3) (T := TX3) (N := 11) hx hb hts (by decide +kernel) hown hK hP 0 rfl rfl 1 (by decide) (hts (.fieldLink RX3 40 "TriangleSheetModel" "points" "I") (by decide +kernel)) (fun _ h9 => h9) rfl dX3_triangle_3 ?_
  refine ro_S (As := [.int (nI (i)), .int (nI (mPn w))]) (rest := [.ref (b 0)]) hx hb hml hown hts (c_X3_in l dC dI  (nI (i)) (mPn w) (by omega)) (va_cwS 2 hts gX3_triangle_X3_in rfl rfl rfl (by decide +kernel) ⟨Nat.le_of_ble_eq_true rfl, Nat.le_of_ble_eq_true rfl⟩) (hK.sub [] rfl) (hP.sub [] rfl) rfl hl.1 rfl (Nat.le_of_ble_eq_true rfl) dX3_triangle_6 ⟨Nat.zero_le _, Nat.zero_le _⟩ ?_
  refine lv_if_eq (tgt := 34) hx hb dX3_triangle_9 (by decide) (fun c_1 => ?_) (fun c_1 => ?_)
  · skip
    have c_1 : (inB (nI (i)) (mPn w)) = false := bI_f c_1
    exact absurd c_1 (by rw [inB_nI (by omega)]; simp; omega)
  · skip
    have c_1 : (inB (nI (i)) (mPn w)) = true := bI_t c_1
    refine lv_iload_n hx hb dX3_triangle_12 rfl (lv_at hl 2 rfl) ?_
    refine lv_aload_n hx hb dX3_triangle_13 rfl (lv_at hl 0 rfl) ?_
    refine va_get (D := (dC, dI)) (ci := 3) (v := .int (nI (mPn w))) (C := RX3) (T := TX3) (N := 11) hx hb hts (by decide +kernel) hown hK hP 0 rfl rfl 1 (by decide) (hts (.fieldLink RX3 40 "TriangleSheetModel" "points" "I") (by decide +kernel)) (fun _ h9 => h9) rfl dX3_triangle_14 ?_
    refine ro_S (As := [.int (nI (j)), .int (nI (mPn w))]) (rest := [.ref (b 0)]) hx hb hml hown hts (c_X3_in l dC dI  (nI (j)) (mPn w) (by omega)) (va_cwS 2 hts gX3_triangle_X3_in rfl rfl rfl (by decide +kernel) ⟨Nat.le_of_ble_eq_true rfl, Nat.le_of_ble_eq_true rfl⟩) (hK.sub [] rfl) (hP.sub [] rfl) rfl hl.1 rfl (Nat.le_of_ble_eq_true rfl) dX3_triangle_17 ⟨Nat.zero_le _, Nat.zero_le _⟩ ?_
    refine lv_if_eq (tgt := 34) hx hb dX3_triangle_20 (by decide) (fun c_2 => ?_) (fun c_2 => ?_)
    · skip
      have c_2 : (inB (nI (j)) (mPn w)) = false := bI_f c_2
      exact absurd c_2 (by rw [inB_nI (by omega)]; simp; omega)
    · skip
      have c_2 : (inB (nI (j)) (mPn w)) = true := bI_t c_2
      refine lv_iload_n hx hb dX3_triangle_23 rfl (lv_at hl 3 rfl) ?_
      refine lv_aload_n hx hb dX3_triangle_24 rfl (lv_at hl 0 rfl) ?_
      refine va_get (D := (dC, dI)) (ci := 3) (v := .int (nI (mPn w))) (C := RX3) (T := TX3) (N := 11) hx hb hts (by decide +kernel) hown hK hP 0 rfl rfl 1 (by decide) (hts (.fieldLink RX3 40 "TriangleSheetModel" "points" "I") (by decide +kernel)) (fun _ h9 => h9) rfl dX3_triangle_25 ?_
      refine ro_S (As := [.int (nI (q)), .int (nI (mPn w))]) (rest := [.ref (b 0)]) hx hb hml hown hts (c_X3_in l dC dI  (nI (q)) (mPn w) (by omega)) (va_cwS 2 hts gX3_triangle_X3_in rfl rfl rfl (by decide +kernel) ⟨Nat.le_of_ble_eq_true rfl, Nat.le_of_ble_eq_true rfl⟩) (hK.sub [] rfl) (hP.sub [] rfl) rfl hl.1 rfl (Nat.le_of_ble_eq_true rfl) dX3_triangle_28 ⟨Nat.zero_le _, Nat.zero_le _⟩ ?_
      refine lv_if_ne (tgt := 38) hx hb dX3_triangle_31 (by decide) (fun c_3 => ?_) (fun c_3 => ?_)
      · skip
        have c_3 : (inB (nI (q)) (mPn w)) = true := bI_t c_3
        refine lv_iload_n hx hb dX3_triangle_38 rfl (lv_at hl 1 rfl) ?_
        refine lv_iload_n hx hb dX3_triangle_39 rfl (lv_at hl 2 rfl) ?_
        refine lv_icmp_eq (tgt := 53) hx hb dX3_triangle_40 (by decide) (fun c_4 => ?_) (fun c_4 => ?_)
        · skip
          have c_4 : i = j := (nI_eq (a := i) (b := j) (by omega) (by omega)).mp c_4
          omega
        · skip
          have c_4 : ¬ (i = j) := fun hq9 => c_4 ((nI_eq (a := i) (b := j) (by omega) (by omega)).mpr hq9)
          refine lv_iload_n hx hb dX3_triangle_43 rfl (lv_at hl 2 rfl) ?_
          refine lv_iload_n hx hb dX3_triangle_44 rfl (lv_at hl 3 rfl) ?_
          refine lv_icmp_eq (tgt := 53) hx hb dX3_triangle_45 (by decide) (fun c_5 => ?_) (fun c_5 => ?_)
          · skip
            have c_5 : j = q := (nI_eq (a := j) (b := q) (by omega) (by omega)).mp c_5
            omega
          · skip
            have c_5 : ¬ (j = q) := fun hq9 => c_5 ((nI_eq (a := j) (b := q) (by omega) (by omega)).mpr hq9)
            refine lv_iload_n hx hb dX3_triangle_48 rfl (lv_at hl 1 rfl) ?_
            refine lv_iload_n hx hb dX3_triangle_49 rfl (lv_at hl 3 rfl) ?_
            refine lv_icmp_ne (tgt := 57) hx hb dX3_triangle_50 (by decide) (fun c_6 => ?_) (fun c_6 => ?_)
            · skip
              have c_6 : ¬ (i = q) := fun hq9 => c_6 ((nI_eq (a := i) (b := q) (by omega) (by omega)).mpr hq9)
              refine lv_aload_n hx hb dX3_triangle_57 rfl (lv_at hl 0 rfl) ?_
              refine va_get (D := (dC, dI)) (ci := 3) (v := .int (nI (mTn w))) (C := RX3) (T := TX3) (N := 11) hx hb hts (by decide +kernel) hown hK hP 0 rfl rfl 3 (by decide) (hts (.fieldLink RX3 112 "TriangleSheetModel" "there" "I") (by decide +kernel)) (fun _ h9 => h9) rfl dX3_triangle_58 ?_
              refine lv_bipush (v := nI (60)) hx hb dX3_triangle_61 (by decide) ?_
              refine lv_icmp_eq (tgt := 76) hx hb dX3_triangle_63 (by decide) (fun c_7 => ?_) (fun c_7 => ?_)
              · skip
                have c_7 : mTn w = 60 := (nI_eq (a := mTn w) (b := 60) (by omega) (by omega)).mp c_7
                omega
              · skip
                have c_7 : ¬ (mTn w = 60) := fun hq9 => c_7 ((nI_eq (a := mTn w) (b := 60) (by omega) (by omega)).mpr hq9)
                refine lv_aload_n hx hb dX3_triangle_66 rfl (lv_at hl 0 rfl) ?_
                refine va_get (D := (dC, dI)) (ci := 3) (v := .int (nI (mTm w))) (C := RX3) (T := TX3) (N := 11) hx hb hts (by decide +kernel) hown hK hP 0 rfl rfl 2 (by decide) (hts (.fieldLink RX3 43 "TriangleSheetModel" "came" "I") (by decide +kernel)) (fun _ h9 => h9) rfl dX3_triangle_67 ?_
                refine lv_sipush (v := nI (200)) hx hb dX3_triangle_70 (by decide) ?_
                refine lv_icmp_ne (tgt := 80) hx hb dX3_triangle_73 (by decide) (fun c_8 => ?_) (fun c_8 => ?_)
                · skip
                  have c_8 : ¬ (mTm w = 200) := fun hq9 => c_8 ((nI_eq (a := mTm w) (b := 200) (by omega) (by omega)).mpr hq9)
                  refine lv_iconst (v := nI (0)) hx hb dX3_triangle_80 (by decide) ?_
                  refine va_put (D := (dC, dI)) (ci := 3) (v := .int (nI (0))) (ty := .int) (C := RX3) (T := TX3) (N := 11) hx hb hts (by decide +kernel) tyX3 tyX3_ok nmX3 hown hK hP hD hS 0 rfl rfl 0 (by decide) (hts (.fieldLink RX3 33 "TriangleSheetModel" "thrown" "I") (by decide +kernel)) (fun _ h9 => h9) rfl (by decide +kernel) rfl rfl (Nat.le_of_ble_eq_true rfl) dX3_triangle_81 (fun H locs hP hD hS => ?_)
                  have hP : va_P (dC, dI) vwCl (wM cI cZ b (((w.1.1, w.1.2.1, w.1.2.2), nI (0), mPn w, mTm w, mTn w, mIs w, mFi w, mSe w, mMk w))) H := hP
                  have hD : va_D (inW (wM cI cZ b w)) (wM cI cZ b (((w.1.1, w.1.2.1, w.1.2.2), nI (0), mPn w, mTm w, mTn w, mIs w, mFi w, mSe w, mMk w))) := hD
                  refine lv_aload_n hx hb dX3_triangle_84 rfl (lv_at hl 0 rfl) ?_
                  refine va_get (D := (dC, dI)) (ci := 3) (v := .int (nI (0))) (C := RX3) (T := TX3) (N := 11) hx hb hts (by decide +kernel) hown hK hP 0 rfl rfl 0 (by decide) (hts (.fieldLink RX3 33 "TriangleSheetModel" "thrown" "I") (by decide +kernel)) (fun _ h9 => h9) rfl dX3_triangle_85 ?_
                  refine lv_if_le (tgt := 95) hx hb dX3_triangle_88 (by decide) (fun c_9 => ?_) (fun c_9 => absurd (by decide) c_9)
                  refine lv_aload_n hx hb dX3_triangle_95 rfl (lv_at hl 0 rfl) ?_
                  refine lv_iload_n hx hb dX3_triangle_96 rfl (lv_at hl 1 rfl) ?_
                  refine lv_iload_n hx hb dX3_triangle_97 rfl (lv_at hl 2 rfl) ?_
                  refine lv_iload_n hx hb dX3_triangle_98 rfl (lv_at hl 3 rfl) ?_
                  refine wr_V (As := [.int (nI (i)), .int (nI (j)), .int (nI (q))]) (rest := []) (q0 := 0) (ci := 3) hx hb hml hown hts (c_X3_add l dC dI cI cL cZ b (((w.1.1, w.1.2.1, w.1.2.2), nI (0), mPn w, mTm w, mTn w, mIs w, mFi w, mSe w, mMk w)) i j q (show mTm w < 200 by omega)) (cwV 3 hts gX3_triangle_X3_add rfl rfl rfl (by decide +kernel) ⟨Nat.le_of_ble_eq_true rfl, Nat.le_of_ble_eq_true rfl⟩) hK hP hD hS rfl rfl rfl rfl hl.1 rfl (Nat.le_of_ble_eq_true rfl) dX3_triangle_99 ⟨Nat.zero_le _, Nat.zero_le _⟩ (fun H locs hP hD hS => ?_)
                  have hP : va_P (dC, dI) vwCl (wM cI cZ b (mAdd (((w.1.1, w.1.2.1, w.1.2.2), nI (0), mPn w, mTm w, mTn w, mIs w, mFi w, mSe w, mMk w)) i j q)) H := hP
                  have hD : va_D (inW (wM cI cZ b w)) (wM cI cZ b (mAdd (((w.1.1, w.1.2.1, w.1.2.2), nI (0), mPn w, mTm w, mTn w, mIs w, mFi w, mSe w, mMk w)) i j q)) := hD
                  refine W.eq (g2 := F0 m 102 ls [.int (nI (mTm (((w.1.1, w.1.2.1, w.1.2.2), nI (0), mPn w, mTm w, mTn w, mIs w, mFi w, mSe w, mMk w))))]) rfl ?_
                  exact wr_iret hx hb hr hP hS rfl rfl dX3_triangle_102 hlocks
                · skip
                  have c_8 : mTm w = 200 := (nI_eq (a := mTm w) (b := 200) (by omega) (by omega)).mp c_8
                  omega
            · skip
              have c_6 : i = q := (nI_eq (a := i) (b := q) (by omega) (by omega)).mp c_6
              omega
      · skip
        have c_3 : (inB (nI (q)) (mPn w)) = false := bI_f c_3
        exact absurd c_3 (by rw [inB_nI (by omega)]; simp; omega)
set_option maxHeartbeats 4000000 in
set_option maxRecDepth 100000 in
theorem c_X3_take_1 (l : Launch) (dC : Nat → ClassId) (dI : Nat → Nat → Nat) (cI cL cZ : ClassId) (b : Nat → Nat) (w : MV) (t : Int32) (hv : okM w) (hc : mth w t = false) : Met l yX3_take wsX3_take ({ frames := 2, cells := 0, slots := 0, locals := 42 }) (va_Pc [.ref (b 0), .int (t)] (wr_B (dC, dI) vwCl (wM cI cZ b w) (tyS cI cL cZ))) (wr_Q none (dC, dI) vwCl (wM cI cZ b w) (wM cI cZ b (mThx w (nI 1)))) 0 0 (inW (wM cI cZ b w)) := by
  refine wr_Met (cc := cX3_take) (maxL := 2) (ret := none) (by decide) rfl (Nat.le_of_ble_eq_true rfl) ?_
  intro pr en s m below meth co ls hx hb hml hr hlocks hown hts hP hK hD hS hl
  have hl : lv_has ls 2 [(0, .ref (b 0)), (1, .int (t))] := hl
  have hown : s.vm.findClass RX3 = some m.cls := hown
  have hvp : mPn w ≤ 60 ∧ mTm w ≤ 200 ∧ mTn w ≤ 60 := ⟨hv.2.1, hv.2.2.1, hv.2.2.2.1⟩
  refine lv_aload_n hx hb dX3_take_0 rfl (lv_at hl 0 rfl) ?_
  refine lv_aload_n hx hb dX3_take_1 rfl (lv_at hl 0 rfl) ?_
  refine lv_iload_n hx hb dX3_take_2 rfl (lv_at hl 1 rfl) ?_
  refine ro_V (As := [.int (t)]) (rest := [.ref (b 0)]) (q0 := 0) (ci := 3) hx hb hml hown hts (c_X3_isThere l dC dI cI cL cZ b w t hv) (cwV 1 hts gX3_take_X3_isThere rfl rfl rfl (by decide +kernel) ⟨Nat.le_of_ble_eq_true rfl, Nat.le_of_ble_eq_true rfl⟩) hK hP rfl rfl rfl hl.1 rfl (Nat.le_of_ble_eq_true rfl) dX3_take_3 ⟨Nat.zero_le _, Nat.zero_le _⟩ ?_
  refine lv_if_eq (tgt := 13) hx hb dX3_take_6 (by decide) (fun c_1 => ?_) (fun c_1 => ?_)
  · skip
    have c_1 : (mth w t) = false := bI_f c_1
    refine lv_iconst (v := nI (1)) hx hb dX3_take_13 (by decide) ?_
    refine va_put (D := (dC, dI)) (ci := 3) (v := .int (nI (1))) (ty := .int) (C := RX3) (T := TX3) (N := 11) hx hb hts (by decide +kernel) tyX3 tyX3_ok nmX3 hown hK hP hD hS 0 rfl rfl 0 (by decide) (hts (.fieldLink RX3 33 "TriangleSheetModel" "thrown" "I") (by decide +kernel)) (fun _ h9 => h9) rfl (by decide +kernel) rfl rfl (Nat.le_of_ble_eq_true rfl) dX3_take_14 (fun H locs hP hD hS => ?_)
    have hP : va_P (dC, dI) vwCl (wM cI cZ b (((w.1.1, w.1.2.1, w.1.2.2), nI (1), mPn w, mTm w, mTn w, mIs w, mFi w, mSe w, mMk w))) H := hP
    have hD : va_D (inW (wM cI cZ b w)) (wM cI cZ b (((w.1.1, w.1.2.1, w.1.2.2), nI (1), mPn w, mTm w, mTn w, mIs w, mFi w, mSe w, mMk w))) := hD
    refine lv_aload_n hx hb dX3_take_17 rfl (lv_at hl 0 rfl) ?_
    refine va_get (D := (dC, dI)) (ci := 3) (v := .int (nI (1))) (C := RX3) (T := TX3) (N := 11) hx hb hts (by decide +kernel) hown hK hP 0 rfl rfl 0 (by decide) (hts (.fieldLink RX3 33 "TriangleSheetModel" "thrown" "I") (by decide +kernel)) (fun _ h9 => h9) rfl dX3_take_18 ?_
    refine lv_if_le (tgt := 25) hx hb dX3_take_21 (by decide) (fun c_2 => absurd c_2 (by decide)) (fun c_2 => ?_)
    exact wr_vret hx hb hr hP hS rfl rfl dX3_take_24 hlocks
  · skip
    have c_1 : (mth w t) = true := bI_t c_1
    exact absurd c_1 (by rw [hc]; decide)
set_option maxHeartbeats 4000000 in
set_option maxRecDepth 100000 in
theorem c_X3_take_0 (l : Launch) (dC : Nat → ClassId) (dI : Nat → Nat → Nat) (cI cL cZ : ClassId) (b : Nat → Nat) (w : MV) (t : Nat) (hv : okM w) (ht : t < 200) (hc : mth w (nI t) = true) (hn : 0 < mTn w) : Met l yX3_take wsX3_take ({ frames := 2, cells := 0, slots := 0, locals := 42 }) (va_Pc [.ref (b 0), .int (nI (t))] (wr_B (dC, dI) vwCl (wM cI cZ b w) (tyS cI cL cZ))) (wr_Q none (dC, dI) vwCl (wM cI cZ b w) (wM cI cZ b ((w.1, nI 0, mPn w, mTm w, mTn w - 1, va_up (mIs w) t false, w.2.2.2.2.2.2)))) 0 0 (inW (wM cI cZ b w)) := by
  refine wr_Met (cc := cX3_take) (maxL := 2) (ret := none) (by decide) rfl (Nat.le_of_ble_eq_true rfl) ?_
  intro pr en s m below meth co ls hx hb hml hr hlocks hown hts hP hK hD hS hl
  have hl : lv_has ls 2 [(0, .ref (b 0)), (1, .int (nI (t)))] := hl
  have hown : s.vm.findClass RX3 = some m.cls := hown
  have hvp : mPn w ≤ 60 ∧ mTm w ≤ 200 ∧ mTn w ≤ 60 := ⟨hv.2.1, hv.2.2.1, hv.2.2.2.1⟩
  refine lv_aload_n hx hb dX3_take_0 rfl (lv_at hl 0 rfl) ?_
  refine lv_aload_n hx hb dX3_take_1 rfl (lv_at hl 0 rfl) ?_
  refine lv_iload_n hx hb dX3_take_2 rfl (lv_at hl 1 rfl) ?_
  refine ro_V (As := [.int (nI (t))]) (rest := [.ref (b 0)]) (q0 := 0) (ci := 3) hx hb hml hown hts (c_X3_isThere l dC dI cI cL cZ b w (nI (t)) hv) (cwV 1 hts gX3_take_X3_isThere rfl rfl rfl (by decide +kernel) ⟨Nat.le_of_ble_eq_true rfl, Nat.le_of_ble_eq_true rfl⟩) hK hP rfl rfl rfl hl.1 rfl (Nat.le_of_ble_eq_true rfl) dX3_take_3 ⟨Nat.zero_le _, Nat.zero_le _⟩ ?_
  refine lv_if_eq (tgt := 13) hx hb dX3_take_6 (by decide) (fun c_1 => ?_) (fun c_1 => ?_)
  · skip
    have c_1 : (mth w (nI (t))) = false := bI_f c_1
    exact absurd c_1 (by rw [hc]; decide)
  · skip
    have c_1 : (mth w (nI (t))) = true := bI_t c_1
    refine lv_iconst (v := nI (0)) hx hb dX3_take_9 (by decide) ?_
    refine lv_goto (tgt := 14) hx hb dX3_take_10 (by decide) ?_
    refine va_put (D := (dC, dI)) (ci := 3) (v := .int (nI (0))) (ty := .int) (C := RX3) (T := TX3) (N := 11) hx hb hts (by decide +kernel) tyX3 tyX3_ok nmX3 hown hK hP hD hS 0 rfl rfl 0 (by decide) (hts (.fieldLink RX3 33 "TriangleSheetModel" "thrown" "I") (by decide +kernel)) (fun _ h9 => h9) rfl (by decide +kernel) rfl rfl (Nat.le_of_ble_eq_true rfl) dX3_take_14 (fun H locs hP hD hS => ?_)
    have hP : va_P (dC, dI) vwCl (wM cI cZ b (((w.1.1, w.1.2.1, w.1.2.2), nI (0), mPn w, mTm w, mTn w, mIs w, mFi w, mSe w, mMk w))) H := hP
    have hD : va_D (inW (wM cI cZ b w)) (wM cI cZ b (((w.1.1, w.1.2.1, w.1.2.2), nI (0), mPn w, mTm w, mTn w, mIs w, mFi w, mSe w, mMk w))) := hD
    refine lv_aload_n hx hb dX3_take_17 rfl (lv_at hl 0 rfl) ?_
    refine va_get (D := (dC, dI)) (ci := 3) (v := .int (nI (0))) (C := RX3) (T := TX3) (N := 11) hx hb hts (by decide +kernel) hown hK hP 0 rfl rfl 0 (by decide) (hts (.fieldLink RX3 33 "TriangleSheetModel" "thrown" "I") (by decide +kernel)) (fun _ h9 => h9) rfl dX3_take_18 ?_
    refine lv_if_le (tgt := 25) hx hb dX3_take_21 (by decide) (fun c_2 => ?_) (fun c_2 => absurd (by decide) c_2)
    refine lv_aload_n hx hb dX3_take_25 rfl (lv_at hl 0 rfl) ?_
    refine va_get (D := (dC, dI)) (ci := 3) (v := .ref (b 3)) (C := RX3) (T := TX3) (N := 11) hx hb hts (by decide +kernel) hown hK hP 0 rfl rfl 6 (by decide) (hts (.fieldLink RX3 16 "TriangleSheetModel" "is" "[Z") (by decide +kernel)) (fun _ h9 => h9) rfl dX3_take_26 ?_
    refine lv_iload_n hx hb dX3_take_29 rfl (lv_at hl 1 rfl) ?_
    refine lv_iconst (v := nI (0)) hx hb dX3_take_30 (by decide) ?_
    refine za_st (k := t) hx hb hK hP hD hS 3 2 rfl rfl (by omega) (by decide) (upd_b (mIs w) (t) false) dX3_take_31 (fun H locs hP hD hS => ?_)
    have hP : va_P (dC, dI) vwCl (wM cI cZ b (((w.1.1, w.1.2.1, w.1.2.2), nI (0), mPn w, mTm w, mTn w, va_up (mIs w) (t) false, mFi w, mSe w, mMk w))) H := hP
    have hD : va_D (inW (wM cI cZ b w)) (wM cI cZ b (((w.1.1, w.1.2.1, w.1.2.2), nI (0), mPn w, mTm w, mTn w, va_up (mIs w) (t) false, mFi w, mSe w, mMk w))) := hD
    refine lv_aload_n hx hb dX3_take_32 rfl (lv_at hl 0 rfl) ?_
    refine lv_dup hx hb dX3_take_33 rfl ?_
    refine va_get (D := (dC, dI)) (ci := 3) (v := .int (nI (mTn w))) (C := RX3) (T := TX3) (N := 11) hx hb hts (by decide +kernel) hown hK hP 0 rfl rfl 3 (by decide) (hts (.fieldLink RX3 112 "TriangleSheetModel" "there" "I") (by decide +kernel)) (fun _ h9 => h9) rfl dX3_take_34 ?_
    refine lv_iconst (v := nI (1)) hx hb dX3_take_37 (by decide) ?_
    refine lv_isub hx hb dX3_take_38 ?_
    refine rt_i (y := (nI (mTn w - 1))) (pk_sub (by omega)) ?_
    refine va_put (D := (dC, dI)) (ci := 3) (v := .int (nI (mTn w - 1))) (ty := .int) (C := RX3) (T := TX3) (N := 11) hx hb hts (by decide +kernel) tyX3 tyX3_ok nmX3 hown hK hP hD hS 0 rfl rfl 3 (by decide) (hts (.fieldLink RX3 112 "TriangleSheetModel" "there" "I") (by decide +kernel)) (fun _ h9 => h9) rfl (by decide +kernel) rfl rfl (Nat.le_of_ble_eq_true rfl) dX3_take_39 (fun H locs hP hD hS => ?_)
    have hP : va_P (dC, dI) vwCl (wM cI cZ b (((w.1.1, w.1.2.1, w.1.2.2), nI (0), mPn w, mTm w, mTn w - 1, va_up (mIs w) (t) false, mFi w, mSe w, mMk w))) H := hP
    have hD : va_D (inW (wM cI cZ b w)) (wM cI cZ b (((w.1.1, w.1.2.1, w.1.2.2), nI (0), mPn w, mTm w, mTn w - 1, va_up (mIs w) (t) false, mFi w, mSe w, mMk w))) := hD
    exact wr_vret hx hb hr hP hS rfl rfl dX3_take_42 hlocks
