set_option maxHeartbeats 4000000 in
set_option maxRecDepth 100000 in
theorem c_X3_turn_1 (l : Launch) (dC : Nat → ClassId) (dI : Nat → Nat → Nat) (cI cL cZ : ClassId) (b : Nat → Nat) (w : MV) (t j : Int32) (hv : okM w) (hc : (mth w t && inB j 3) = false) : Met l yX3_turn wsX3_turn ({ frames := 2, cells := 0, slots := 0, locals := 42 }) (va_Pc [.ref (b 0), .int (t), .int (j)] (wr_B (dC, dI) vwCl (wM cI cZ b w) (tyS cI cL cZ))) (wr_Q (some (.int (nI (0)))) (dC, dI) vwCl (wM cI cZ b w) (wM cI cZ b (mThx w (nI 1)))) 0 0 (inW (wM cI cZ b w)) := by
  refine wr_Met (cc := cX3_turn) (maxL := 3) (ret := (some .boolean)) (by decide) rfl (Nat.le_of_ble_eq_true rfl) ?_
  intro pr en s m below meth co ls hx hb hml hr hlocks hown hts hP hK hD hS hl
  have hl : lv_has ls 3 [(0, .ref (b 0)), (1, .int (t)), (2, .int (j))] := hl
  have hown : s.vm.findClass RX3 = some m.cls := hown
  have hvp : mPn w ≤ 60 ∧ mTm w ≤ 200 ∧ mTn w ≤ 60 := ⟨hv.2.1, hv.2.2.1, hv.2.2.2.1⟩
  refine lv_aload_n hx hb dX3_turn_0 rfl (lv_at hl 0 rfl) ?_
  refine lv_aload_n hx hb dX3_turn_1 rfl (lv_at hl 0 rfl) ?_
  refine lv_iload_n hx hb dX3_turn_2 rfl (lv_at hl 1 rfl) ?_
  refine ro_V (As := [.int (t)]) (rest := [.ref (b 0)]) (q0 := 0) (ci := 3) hx hb hml hown hts (c_X3_isThere l dC dI cI cL cZ b w t hv) (cwV 1 hts gX3_turn_X3_isThere rfl rfl rfl (by decide +kernel) ⟨Nat.le_of_ble_eq_true rfl, Nat.le_of_ble_eq_true rfl⟩) hK hP rfl rfl rfl hl.1 rfl (Nat.le_of_ble_eq_true rfl) dX3_turn_3 ⟨Nat.zero_le _, Nat.zero_le _⟩ ?_
  refine lv_if_eq (tgt := 21) hx hb dX3_turn_6 (by decide) (fun c_1 => ?_) (fun c_1 => ?_)
  · skip
    have c_1 : (mth w t) = false := bI_f c_1
    refine lv_iconst (v := nI (1)) hx hb dX3_turn_21 (by decide) ?_
    refine va_put (D := (dC, dI)) (ci := 3) (v := .int (nI (1))) (ty := .int) (C := RX3) (T := TX3) (N := 11) hx hb hts (by decide +kernel) tyX3 tyX3_ok nmX3 hown hK hP hD hS 0 rfl rfl 0 (by decide) (hts (.fieldLink RX3 33 "TriangleSheetModel" "thrown" "I") (by decide +kernel)) (fun _ h9 => h9) rfl (by decide +kernel) rfl rfl (Nat.le_of_ble_eq_true rfl) dX3_turn_22 (fun H locs hP hD hS => ?_)
    have hP : va_P (dC, dI) vwCl (wM cI cZ b (((w.1.1, w.1.2.1, w.1.2.2), nI (1), mPn w, mTm w, mTn w, mIs w, mFi w, mSe w, mMk w))) H := hP
    have hD : va_D (inW (wM cI cZ b w)) (wM cI cZ b (((w.1.1, w.1.2.1, w.1.2.2), nI (1), mPn w, mTm w, mTn w, mIs w, mFi w, mSe w, mMk w))) := hD
    refine lv_aload_n hx hb dX3_turn_25 rfl (lv_at hl 0 rfl) ?_
    refine va_get (D := (dC, dI)) (ci := 3) (v := .int (nI (1))) (C := RX3) (T := TX3) (N := 11) hx hb hts (by decide +kernel) hown hK hP 0 rfl rfl 0 (by decide) (hts (.fieldLink RX3 33 "TriangleSheetModel" "thrown" "I") (by decide +kernel)) (fun _ h9 => h9) rfl dX3_turn_26 ?_
    refine lv_if_ne (tgt := 45) hx hb dX3_turn_29 (by decide) (fun c_2 => ?_) (fun c_2 => absurd c_2 (by decide))
    refine lv_iconst (v := nI (0)) hx hb dX3_turn_45 (by decide) ?_
    exact wr_zret hx hb hr (by decide) hP hS rfl rfl dX3_turn_46 hlocks
  · skip
    have c_1 : (mth w t) = true := bI_t c_1
    refine lv_iload_n hx hb dX3_turn_9 rfl (lv_at hl 2 rfl) ?_
    refine lv_iconst (v := nI (3)) hx hb dX3_turn_10 (by decide) ?_
    refine ro_S (As := [.int (j), .int (nI (3))]) (rest := [.ref (b 0)]) hx hb hml hown hts (c_X3_in l dC dI  j 3 (by omega)) (va_cwS 2 hts gX3_turn_X3_in rfl rfl rfl (by decide +kernel) ⟨Nat.le_of_ble_eq_true rfl, Nat.le_of_ble_eq_true rfl⟩) (hK.sub [] rfl) (hP.sub [] rfl) rfl hl.1 rfl (Nat.le_of_ble_eq_true rfl) dX3_turn_11 ⟨Nat.zero_le _, Nat.zero_le _⟩ ?_
    refine lv_if_eq (tgt := 21) hx hb dX3_turn_14 (by decide) (fun c_3 => ?_) (fun c_3 => ?_)
    · skip
      have c_3 : (inB j 3) = false := bI_f c_3
      refine lv_iconst (v := nI (1)) hx hb dX3_turn_21 (by decide) ?_
      refine va_put (D := (dC, dI)) (ci := 3) (v := .int (nI (1))) (ty := .int) (C := RX3) (T := TX3) (N := 11) hx hb hts (by decide +kernel) tyX3 tyX3_ok nmX3 hown hK hP hD hS 0 rfl rfl 0 (by decide) (hts (.fieldLink RX3 33 "TriangleSheetModel" "thrown" "I") (by decide +kernel)) (fun _ h9 => h9) rfl (by decide +kernel) rfl rfl (Nat.le_of_ble_eq_true rfl) dX3_turn_22 (fun H locs hP hD hS => ?_)
      have hP : va_P (dC, dI) vwCl (wM cI cZ b (((w.1.1, w.1.2.1, w.1.2.2), nI (1), mPn w, mTm w, mTn w, mIs w, mFi w, mSe w, mMk w))) H := hP
      have hD : va_D (inW (wM cI cZ b w)) (wM cI cZ b (((w.1.1, w.1.2.1, w.1.2.2), nI (1), mPn w, mTm w, mTn w, mIs w, mFi w, mSe w, mMk w))) := hD
      refine lv_aload_n hx hb dX3_turn_25 rfl (lv_at hl 0 rfl) ?_
      refine va_get (D := (dC, dI)) (ci := 3) (v := .int (nI (1))) (C := RX3) (T := TX3) (N := 11) hx hb hts (by decide +kernel) hown hK hP 0 rfl rfl 0 (by decide) (hts (.fieldLink RX3 33 "TriangleSheetModel" "thrown" "I") (by decide +kernel)) (fun _ h9 => h9) rfl dX3_turn_26 ?_
      refine lv_if_ne (tgt := 45) hx hb dX3_turn_29 (by decide) (fun c_4 => ?_) (fun c_4 => absurd c_4 (by decide))
      refine lv_iconst (v := nI (0)) hx hb dX3_turn_45 (by decide) ?_
      exact wr_zret hx hb hr (by decide) hP hS rfl rfl dX3_turn_46 hlocks
    · skip
      have c_3 : (inB j 3) = true := bI_t c_3
      exact absurd hc (by simp [c_1, c_3])
set_option maxHeartbeats 4000000 in
set_option maxRecDepth 100000 in
theorem c_X3_turn_0 (l : Launch) (dC : Nat → ClassId) (dI : Nat → Nat → Nat) (cI cL cZ : ClassId) (b : Nat → Nat) (w : MV) (t j : Nat) (hv : okM w) (ht : t < 200) (hj : j < 3) (hc : mth w (nI t) = true) : Met l yX3_turn wsX3_turn ({ frames := 3, cells := 0, slots := 0, locals := 81 }) (va_Pc [.ref (b 0), .int (nI (t)), .int (nI (j))] (wr_B (dC, dI) vwCl (wM cI cZ b w) (tyS cI cL cZ))) (wr_Q (some (.int (bI (mtB (mThx w (nI 0)) t j)))) (dC, dI) vwCl (wM cI cZ b w) (wM cI cZ b (mtS (mThx w (nI 0)) t j))) 0 0 (inW (wM cI cZ b w)) := by
  refine wr_Met (cc := cX3_turn) (maxL := 3) (ret := (some .boolean)) (by decide) rfl (Nat.le_of_ble_eq_true rfl) ?_
  intro pr en s m below meth co ls hx hb hml hr hlocks hown hts hP hK hD hS hl
  have hl : lv_has ls 3 [(0, .ref (b 0)), (1, .int (nI (t))), (2, .int (nI (j)))] := hl
  have hown : s.vm.findClass RX3 = some m.cls := hown
  have hvp : mPn w ≤ 60 ∧ mTm w ≤ 200 ∧ mTn w ≤ 60 := ⟨hv.2.1, hv.2.2.1, hv.2.2.2.1⟩
  refine lv_aload_n hx hb dX3_turn_0 rfl (lv_at hl 0 rfl) ?_
  refine lv_aload_n hx hb dX3_turn_1 rfl (lv_at hl 0 rfl) ?_
  refine lv_iload_n hx hb dX3_turn_2 rfl (lv_at hl 1 rfl) ?_
  refine ro_V (As := [.int (nI (t))]) (rest := [.ref (b 0)]) (q0 := 0) (ci := 3) hx hb hml hown hts (c_X3_isThere l dC dI cI cL cZ b w (nI (t)) hv) (cwV 1 hts gX3_turn_X3_isThere rfl rfl rfl (by decide +kernel) ⟨Nat.le_of_ble_eq_true rfl, Nat.le_of_ble_eq_true rfl⟩) hK hP rfl rfl rfl hl.1 rfl (Nat.le_of_ble_eq_true rfl) dX3_turn_3 ⟨Nat.zero_le _, Nat.zero_le _⟩ ?_
  refine lv_if_eq (tgt := 21) hx hb dX3_turn_6 (by decide) (fun c_1 => ?_) (fun c_1 => ?_)
  · skip
    have c_1 : (mth w (nI (t))) = false := bI_f c_1
    exact absurd c_1 (by rw [hc]; decide)
  · skip
    have c_1 : (mth w (nI (t))) = true := bI_t c_1
    refine lv_iload_n hx hb dX3_turn_9 rfl (lv_at hl 2 rfl) ?_
    refine lv_iconst (v := nI (3)) hx hb dX3_turn_10 (by decide) ?_
    refine ro_S (As := [.int (nI (j)), .int (nI (3))]) (rest := [.ref (b 0)]) hx hb hml hown hts (c_X3_in l dC dI  (nI (j)) 3 (by omega)) (va_cwS 2 hts gX3_turn_X3_in rfl rfl rfl (by decide +kernel) ⟨Nat.le_of_ble_eq_true rfl, Nat.le_of_ble_eq_true rfl⟩) (hK.sub [] rfl) (hP.sub [] rfl) rfl hl.1 rfl (Nat.le_of_ble_eq_true rfl) dX3_turn_11 ⟨Nat.zero_le _, Nat.zero_le _⟩ ?_
    refine lv_if_eq (tgt := 21) hx hb dX3_turn_14 (by decide) (fun c_2 => ?_) (fun c_2 => ?_)
    · skip
      have c_2 : (inB (nI (j)) 3) = false := bI_f c_2
      exact absurd c_2 (by rw [inB_nI (by omega)]; simp; omega)
    · skip
      have c_2 : (inB (nI (j)) 3) = true := bI_t c_2
      refine lv_iconst (v := nI (0)) hx hb dX3_turn_17 (by decide) ?_
      refine lv_goto (tgt := 22) hx hb dX3_turn_18 (by decide) ?_
      refine va_put (D := (dC, dI)) (ci := 3) (v := .int (nI (0))) (ty := .int) (C := RX3) (T := TX3) (N := 11) hx hb hts (by decide +kernel) tyX3 tyX3_ok nmX3 hown hK hP hD hS 0 rfl rfl 0 (by decide) (hts (.fieldLink RX3 33 "TriangleSheetModel" "thrown" "I") (by decide +kernel)) (fun _ h9 => h9) rfl (by decide +kernel) rfl rfl (Nat.le_of_ble_eq_true rfl) dX3_turn_22 (fun H locs hP hD hS => ?_)
      have hP : va_P (dC, dI) vwCl (wM cI cZ b (((w.1.1, w.1.2.1, w.1.2.2), nI (0), mPn w, mTm w, mTn w, mIs w, mFi w, mSe w, mMk w))) H := hP
      have hD : va_D (inW (wM cI cZ b w)) (wM cI cZ b (((w.1.1, w.1.2.1, w.1.2.2), nI (0), mPn w, mTm w, mTn w, mIs w, mFi w, mSe w, mMk w))) := hD
      refine lv_aload_n hx hb dX3_turn_25 rfl (lv_at hl 0 rfl) ?_
      refine va_get (D := (dC, dI)) (ci := 3) (v := .int (nI (0))) (C := RX3) (T := TX3) (N := 11) hx hb hts (by decide +kernel) hown hK hP 0 rfl rfl 0 (by decide) (hts (.fieldLink RX3 33 "TriangleSheetModel" "thrown" "I") (by decide +kernel)) (fun _ h9 => h9) rfl dX3_turn_26 ?_
      refine lv_if_ne (tgt := 45) hx hb dX3_turn_29 (by decide) (fun c_3 => absurd (by decide) c_3) (fun c_3 => ?_)
      have hP : va_P (dC, dI) vwCl (wM cI cZ b (mThx w (nI 0))) H := hP
      have hD : va_D (inW (wM cI cZ b w)) (wM cI cZ b (mThx w (nI 0))) := hD
      have hv : okM (mThx w (nI 0)) := hv
      generalize mThx w (nI 0) = w1 at hP hD hv ⊢
      have hvp : mPn w1 ≤ 60 ∧ mTm w1 ≤ 200 ∧ mTn w1 ≤ 60 := ⟨hv.2.1, hv.2.2.1, hv.2.2.2.1⟩
      refine lv_aload_n hx hb dX3_turn_32 rfl (lv_at hl 0 rfl) ?_
      refine lv_iload_n hx hb dX3_turn_33 rfl (lv_at hl 1 rfl) ?_
      refine lv_iload_n hx hb dX3_turn_34 rfl (lv_at hl 2 rfl) ?_
      refine wr_V (As := [.int (nI (t)), .int (nI (j))]) (rest := []) (q0 := 0) (ci := 3) hx hb hml hown hts (c_X3_turned l dC dI cI cL cZ b w1 t j hv (by omega) (by omega)) (cwV 2 hts gX3_turn_X3_turned rfl rfl rfl (by decide +kernel) ⟨Nat.le_of_ble_eq_true rfl, Nat.le_of_ble_eq_true rfl⟩) hK hP hD hS rfl rfl rfl rfl hl.1 rfl (Nat.le_of_ble_eq_true rfl) dX3_turn_35 ⟨Nat.zero_le _, Nat.zero_le _⟩ (fun H locs hP hD hS => ?_)
      have hP : va_P (dC, dI) vwCl (wM cI cZ b (mtS w1 t j)) H := hP
      have hD : va_D (inW (wM cI cZ b w)) (wM cI cZ b (mtS w1 t j)) := hD
      refine W.eq (g2 := F0 m 38 ls [.int (bI (mtB w1 t j))]) rfl ?_
      refine lv_if_eq (tgt := 45) hx hb dX3_turn_38 (by decide) (fun c_4 => ?_) (fun c_4 => ?_)
      · skip
        have c_4 : (mtB w1 t j) = false := bI_f c_4
        refine lv_iconst (v := nI (0)) hx hb dX3_turn_45 (by decide) ?_
        exact wr_zret hx hb hr (by decide) hP hS (congrArg some (rb_0 (by assumption))) rfl dX3_turn_46 hlocks
      · skip
        have c_4 : (mtB w1 t j) = true := bI_t c_4
        refine lv_iconst (v := nI (1)) hx hb dX3_turn_41 (by decide) ?_
        refine lv_goto (tgt := 46) hx hb dX3_turn_42 (by decide) ?_
        exact wr_zret hx hb hr (by decide) hP hS (congrArg some (rb_1 (by assumption))) rfl dX3_turn_46 hlocks
set_option maxHeartbeats 4000000 in
set_option maxRecDepth 100000 in
theorem c_X3_improve_1 (l : Launch) (dC : Nat → ClassId) (dI : Nat → Nat → Nat) (cI cL cZ : ClassId) (b : Nat → Nat) (w : MV) (x : Int32) (hc : inB x 501 = false) : Met l yX3_improve wsX3_improve ({ frames := 1, cells := 0, slots := 0, locals := 21 }) (va_Pc [.ref (b 0), .int (x)] (wr_B (dC, dI) vwCl (wM cI cZ b w) (tyS cI cL cZ))) (wr_Q (some (.int (nI (0)))) (dC, dI) vwCl (wM cI cZ b w) (wM cI cZ b (mThx w (nI 1)))) 0 0 (inW (wM cI cZ b w)) := by
  refine wr_Met (cc := cX3_improve) (maxL := 3) (ret := (some .int)) (by decide) rfl (Nat.le_of_ble_eq_true rfl) ?_
  intro pr en s m below meth co ls hx hb hml hr hlocks hown hts hP hK hD hS hl
  have hl : lv_has ls 3 [(0, .ref (b 0)), (1, .int (x))] := hl
  have hown : s.vm.findClass RX3 = some m.cls := hown
  refine lv_aload_n hx hb dX3_improve_0 rfl (lv_at hl 0 rfl) ?_
  refine lv_iload_n hx hb dX3_improve_1 rfl (lv_at hl 1 rfl) ?_
  refine lv_sipush (v := nI (501)) hx hb dX3_improve_2 (by decide) ?_
  refine ro_S (As := [.int (x), .int (nI (501))]) (rest := [.ref (b 0)]) hx hb hml hown hts (c_X3_in l dC dI  x 501 (by omega)) (va_cwS 2 hts gX3_improve_X3_in rfl rfl rfl (by decide +kernel) ⟨Nat.le_of_ble_eq_true rfl, Nat.le_of_ble_eq_true rfl⟩) (hK.sub [] rfl) (hP.sub [] rfl) rfl hl.1 rfl (Nat.le_of_ble_eq_true rfl) dX3_improve_5 ⟨Nat.zero_le _, Nat.zero_le _⟩ ?_
  refine lv_if_eq (tgt := 15) hx hb dX3_improve_8 (by decide) (fun c_1 => ?_) (fun c_1 => ?_)
  · skip
    have c_1 : (inB x 501) = false := bI_f c_1
    refine lv_iconst (v := nI (1)) hx hb dX3_improve_15 (by decide) ?_
    refine va_put (D := (dC, dI)) (ci := 3) (v := .int (nI (1))) (ty := .int) (C := RX3) (T := TX3) (N := 11) hx hb hts (by decide +kernel) tyX3 tyX3_ok nmX3 hown hK hP hD hS 0 rfl rfl 0 (by decide) (hts (.fieldLink RX3 33 "TriangleSheetModel" "thrown" "I") (by decide +kernel)) (fun _ h9 => h9) rfl (by decide +kernel) rfl rfl (Nat.le_of_ble_eq_true rfl) dX3_improve_16 (fun H locs hP hD hS => ?_)
    have hP : va_P (dC, dI) vwCl (wM cI cZ b (((w.1.1, w.1.2.1, w.1.2.2), nI (1), mPn w, mTm w, mTn w, mIs w, mFi w, mSe w, mMk w))) H := hP
    have hD : va_D (inW (wM cI cZ b w)) (wM cI cZ b (((w.1.1, w.1.2.1, w.1.2.2), nI (1), mPn w, mTm w, mTn w, mIs w, mFi w, mSe w, mMk w))) := hD
    refine lv_iconst (v := nI (0)) hx hb dX3_improve_19 (by decide) ?_
    refine lv_istore_n (lv' := [(2, .int (nI (0))), (0, .ref (b 0)), (1, .int (x))]) hx hb dX3_improve_20 rfl hl (by decide) rfl (fun ls hl => ?_)
    refine lv_aload_n hx hb dX3_improve_21 rfl (lv_at hl 1 rfl) ?_
    refine va_get (D := (dC, dI)) (ci := 3) (v := .int (nI (1))) (C := RX3) (T := TX3) (N := 11) hx hb hts (by decide +kernel) hown hK hP 0 rfl rfl 0 (by decide) (hts (.fieldLink RX3 33 "TriangleSheetModel" "thrown" "I") (by decide +kernel)) (fun _ h9 => h9) rfl dX3_improve_22 ?_
    refine lv_if_ne (tgt := 46) hx hb dX3_improve_25 (by decide) (fun c_2 => ?_) (fun c_2 => absurd c_2 (by decide))
    refine lv_iload_n hx hb dX3_improve_46 rfl (lv_at hl 0 rfl) ?_
    exact wr_iret hx hb hr hP hS rfl rfl dX3_improve_47 hlocks
  · skip
    have c_1 : (inB x 501) = true := bI_t c_1
    exact absurd c_1 (by rw [hc]; decide)
set_option maxHeartbeats 4000000 in
set_option maxRecDepth 100000 in
theorem c_X3_improve_0 (l : Launch) (dC : Nat → ClassId) (dI : Nat → Nat → Nat) (cI cL cZ : ClassId) (b : Nat → Nat) (w : MV) (x : Nat) (hv : okM w) (hx9 : x < 501) : Met l yX3_improve wsX3_improve ({ frames := 4, cells := 0, slots := 0, locals := 104 }) (va_Pc [.ref (b 0), .int (nI (x))] (wr_B (dC, dI) vwCl (wM cI cZ b w) (tyS cI cL cZ))) (wr_Q (some (.int (nI ((mimp x (mThx w (nI 0))).1)))) (dC, dI) vwCl (wM cI cZ b w) (wM cI cZ b ((mimp x (mThx w (nI 0))).2))) 0 0 (inW (wM cI cZ b w)) := by
  refine wr_Met (cc := cX3_improve) (maxL := 3) (ret := (some .int)) (by decide) rfl (Nat.le_of_ble_eq_true rfl) ?_
  intro pr en s m below meth co ls hx hb hml hr hlocks hown hts hP hK hD hS hl
  have hl : lv_has ls 3 [(0, .ref (b 0)), (1, .int (nI (x)))] := hl
  have hown : s.vm.findClass RX3 = some m.cls := hown
  have hvp : mPn w ≤ 60 ∧ mTm w ≤ 200 ∧ mTn w ≤ 60 := ⟨hv.2.1, hv.2.2.1, hv.2.2.2.1⟩
  refine lv_aload_n hx hb dX3_improve_0 rfl (lv_at hl 0 rfl) ?_
  refine lv_iload_n hx hb dX3_improve_1 rfl (lv_at hl 1 rfl) ?_
  refine lv_sipush (v := nI (501)) hx hb dX3_improve_2 (by decide) ?_
  refine ro_S (As := [.int (nI (x)), .int (nI (501))]) (rest := [.ref (b 0)]) hx hb hml hown hts (c_X3_in l dC dI  (nI (x)) 501 (by omega)) (va_cwS 2 hts gX3_improve_X3_in rfl rfl rfl (by decide +kernel) ⟨Nat.le_of_ble_eq_true rfl, Nat.le_of_ble_eq_true rfl⟩) (hK.sub [] rfl) (hP.sub [] rfl) rfl hl.1 rfl (Nat.le_of_ble_eq_true rfl) dX3_improve_5 ⟨Nat.zero_le _, Nat.zero_le _⟩ ?_
  refine lv_if_eq (tgt := 15) hx hb dX3_improve_8 (by decide) (fun c_1 => ?_) (fun c_1 => ?_)
  · skip
    have c_1 : (inB (nI (x)) 501) = false := bI_f c_1
    exact absurd c_1 (by rw [inB_nI (by omega)]; simp; omega)
  · skip
    have c_1 : (inB (nI (x)) 501) = true := bI_t c_1
    refine lv_iconst (v := nI (0)) hx hb dX3_improve_11 (by decide) ?_
    refine lv_goto (tgt := 16) hx hb dX3_improve_12 (by decide) ?_
    refine va_put (D := (dC, dI)) (ci := 3) (v := .int (nI (0))) (ty := .int) (C := RX3) (T := TX3) (N := 11) hx hb hts (by decide +kernel) tyX3 tyX3_ok nmX3 hown hK hP hD hS 0 rfl rfl 0 (by decide) (hts (.fieldLink RX3 33 "TriangleSheetModel" "thrown" "I") (by decide +kernel)) (fun _ h9 => h9) rfl (by decide +kernel) rfl rfl (Nat.le_of_ble_eq_true rfl) dX3_improve_16 (fun H locs hP hD hS => ?_)
    have hP : va_P (dC, dI) vwCl (wM cI cZ b (((w.1.1, w.1.2.1, w.1.2.2), nI (0), mPn w, mTm w, mTn w, mIs w, mFi w, mSe w, mMk w))) H := hP
    have hD : va_D (inW (wM cI cZ b w)) (wM cI cZ b (((w.1.1, w.1.2.1, w.1.2.2), nI (0), mPn w, mTm w, mTn w, mIs w, mFi w, mSe w, mMk w))) := hD
    have hP : va_P (dC, dI) vwCl (wM cI cZ b (mThx w (nI 0))) H := hP
    have hD : va_D (inW (wM cI cZ b w)) (wM cI cZ b (mThx w (nI 0))) := hD
    have hth : mThr (mThx w (nI 0)) = nI 0 := rfl
    have hv : okM (mThx w (nI 0)) := hv
    generalize mThx w (nI 0) = w1 at hP hD hv hth ⊢
    refine lv_iconst (v := nI (0)) hx hb dX3_improve_19 (by decide) ?_
    refine lv_istore_n (lv' := [(2, .int (nI (0))), (0, .ref (b 0)), (1, .int (nI (x)))]) hx hb dX3_improve_20 rfl hl (by decide) rfl (fun ls hl => ?_)
    refine lpW (σ := Nat × MV) (LV := fun (i, w2) => [(0, .ref (b 0)), (1, .int (nI (x))), (2, .int (nI (i)))]) (WS := fun (i, w2) => wM cI cZ b w2) (I := fun k (i, w2) => i + k = x ∧ okM w2 ∧ mThr w2 = nI 0 ∧ mimp x w1 = ((mimp k w2).1 + i, (mimp k w2).2)) (fun k (i, w2) ls H locs hI_k hl hP hD hS ih_k => ?_) (x) (0, w1) ls _ _ ⟨by omega, hv, hth, rfl⟩ (lv_sub hl [1, 2, 0] rfl) hP hD hS
    obtain ⟨hk, hv, ht0, hi⟩ := hI_k
    have hP : va_P (dC, dI) vwCl (wM cI cZ b w2) H := hP
    have hD : va_D (inW (wM cI cZ b w)) (wM cI cZ b w2) := hD
    refine lv_aload_n hx hb dX3_improve_21 rfl (lv_at hl 0 rfl) ?_
    refine va_get (D := (dC, dI)) (ci := 3) (v := .int (mThr w2)) (C := RX3) (T := TX3) (N := 11) hx hb hts (by decide +kernel) hown hK hP 0 rfl rfl 0 (by decide) (hts (.fieldLink RX3 33 "TriangleSheetModel" "thrown" "I") (by decide +kernel)) (fun _ h9 => h9) rfl dX3_improve_22 ?_
    refine lv_if_ne (tgt := 46) hx hb dX3_improve_25 (by decide) (fun c_2 => ?_) (fun c_2 => ?_)
    · skip
      exact absurd ht0 c_2
    · skip
      refine lv_iload_n hx hb dX3_improve_28 rfl (lv_at hl 2 rfl) ?_
      refine lv_iload_n hx hb dX3_improve_29 rfl (lv_at hl 1 rfl) ?_
      refine lv_icmp_ge (tgt := 46) hx hb dX3_improve_30 (by decide) (fun c_3 => ?_) (fun c_3 => ?_)
      · skip
        have c_3 : x ≤ i := (nI_leI (a := x) (b := i) (by omega) (by omega)).mp c_3
        refine lv_iload_n hx hb dX3_improve_46 rfl (lv_at hl 2 rfl) ?_
        exact wr_iret hx hb hr hP hS (congrArg some (rn (by rw [hi]; first | (rw [show k = 0 by omega]; simp [mimp]; done) | (rw [mimp_f (by assumption)]; simp)))) (congrArg (wM cI cZ b) (by rw [hi]; first | (rw [show k = 0 by omega]; simp [mimp]; done) | (rw [mimp_f (by assumption)]))) dX3_improve_47 hlocks
      · skip
        have c_3 : ¬ (x ≤ i) := fun hq9 => c_3 ((nI_leI (a := x) (b := i) (by omega) (by omega)).mpr hq9)
        refine lv_aload_n hx hb dX3_improve_33 rfl (lv_at hl 0 rfl) ?_
        refine wr_V (As := []) (rest := []) (q0 := 0) (ci := 3) hx hb hml hown hts (c_X3_improves l dC dI cI cL cZ b w2  hv) (cwV 0 hts gX3_improve_X3_improves rfl rfl rfl (by decide +kernel) ⟨Nat.le_of_ble_eq_true rfl, Nat.le_of_ble_eq_true rfl⟩) hK hP hD hS rfl rfl rfl rfl hl.1 rfl (Nat.le_of_ble_eq_true rfl) dX3_improve_34 ⟨Nat.zero_le _, Nat.zero_le _⟩ (fun H locs hP hD hS => ?_)
        have hP : va_P (dC, dI) vwCl (wM cI cZ b (mfS w2)) H := hP
        have hD : va_D (inW (wM cI cZ b w)) (wM cI cZ b (mfS w2)) := hD
        refine W.eq (g2 := F0 m 37 ls [.int (bI ((mfi w2).isSome))]) rfl ?_
        refine lv_if_eq (tgt := 46) hx hb dX3_improve_37 (by decide) (fun c_4 => ?_) (fun c_4 => ?_)
        · skip
          have c_4 : ((mfi w2).isSome) = false := bI_f c_4
          have e9 : mfS w2 = w2 := mfS_n c_4
          rw [e9] at hP hD
          refine lv_iload_n hx hb dX3_improve_46 rfl (lv_at hl 2 rfl) ?_
          exact wr_iret hx hb hr hP hS (congrArg some (rn (by rw [hi]; first | (rw [show k = 0 by omega]; simp [mimp]; done) | (rw [mimp_f (by assumption)]; simp)))) (congrArg (wM cI cZ b) (by rw [hi]; first | (rw [show k = 0 by omega]; simp [mimp]; done) | (rw [mimp_f (by assumption)]))) dX3_improve_47 hlocks
        · skip
          have c_4 : ((mfi w2).isSome) = true := bI_t c_4
          refine lv_iinc (v := nI (i + 1)) (lv' := [(2, .int (nI (i + 1))), (0, .ref (b 0)), (1, .int (nI (x)))]) hx hb dX3_improve_40 hl (k := 2) rfl (nI_1 (i)) (by decide) rfl (fun ls hl => ?_)
          refine lv_goto (tgt := 21) hx hb dX3_improve_43 (by decide) ?_
          exact ih_k (k - 1) (i + 1, mfS w2) ls _ _ (by omega) ⟨by omega, mfS_ok hv, (by rw [show mThr (mfS w2) = mThr w2 from congrArg Prod.fst mfS_2]; exact ht0), hi.trans (by rw [mimp_t (by omega) (by assumption)]; congr 1; omega)⟩ (lv_sub hl [1, 2, 0] rfl) hP hD hS
set_option maxHeartbeats 4000000 in
set_option maxRecDepth 100000 in
theorem c_X3_part_1 (l : Launch) (dC : Nat → ClassId) (dI : Nat → Nat → Nat) (cI cL cZ : ClassId) (b : Nat → Nat) (w : MV) (t x y : Int32) (hv : okM w) (hc : mth w t = false) : Met l yX3_part wsX3_part ({ frames := 2, cells := 0, slots := 0, locals := 42 }) (va_Pc [.ref (b 0), .int (t), .int (x), .int (y)] (wr_B (dC, dI) vwCl (wM cI cZ b w) (tyS cI cL cZ))) (wr_Q (some (.int (nI (0)))) (dC, dI) vwCl (wM cI cZ b w) (wM cI cZ b (mThx w (nI 1)))) 0 0 (inW (wM cI cZ b w)) := by
  refine wr_Met (cc := cX3_part) (maxL := 12) (ret := (some .int)) (by decide) rfl (Nat.le_of_ble_eq_true rfl) ?_
  intro pr en s m below meth co ls hx hb hml hr hlocks hown hts hP hK hD hS hl
  have hl : lv_has ls 12 [(0, .ref (b 0)), (1, .int (t)), (2, .int (x)), (3, .int (y))] := hl
  have hown : s.vm.findClass RX3 = some m.cls := hown
  have hvp : mPn w ≤ 60 ∧ mTm w ≤ 200 ∧ mTn w ≤ 60 := ⟨hv.2.1, hv.2.2.1, hv.2.2.2.1⟩
  refine lv_iload_n hx hb dX3_part_0 rfl (lv_at hl 1 rfl) ?_
  refine lv_istore (lv' := [(4, .int (t)), (0, .ref (b 0)), (1, .int (t)), (2, .int (x)), (3, .int (y))]) hx hb dX3_part_1 hl (by decide) rfl (fun ls hl => ?_)
  refine lv_aload_n hx hb dX3_part_3 rfl (lv_at hl 1 rfl) ?_
  refine lv_aload_n hx hb dX3_part_4 rfl (lv_at hl 1 rfl) ?_
  refine lv_iload hx hb dX3_part_5 (lv_at hl 0 rfl) ?_
  refine ro_V (As := [.int (t)]) (rest := [.ref (b 0)]) (q0 := 0) (ci := 3) hx hb hml hown hts (c_X3_isThere l dC dI cI cL cZ b w t hv) (cwV 1 hts gX3_part_X3_isThere rfl rfl rfl (by decide +kernel) ⟨Nat.le_of_ble_eq_true rfl, Nat.le_of_ble_eq_true rfl⟩) hK hP rfl rfl rfl hl.1 rfl (Nat.le_of_ble_eq_true rfl) dX3_part_7 ⟨Nat.zero_le _, Nat.zero_le _⟩ ?_
  refine lv_if_eq (tgt := 17) hx hb dX3_part_10 (by decide) (fun c_1 => ?_) (fun c_1 => ?_)
  · skip
    have c_1 : (mth w t) = false := bI_f c_1
    refine lv_iconst (v := nI (1)) hx hb dX3_part_17 (by decide) ?_
    refine va_put (D := (dC, dI)) (ci := 3) (v := .int (nI (1))) (ty := .int) (C := RX3) (T := TX3) (N := 11) hx hb hts (by decide +kernel) tyX3 tyX3_ok nmX3 hown hK hP hD hS 0 rfl rfl 0 (by decide) (hts (.fieldLink RX3 33 "TriangleSheetModel" "thrown" "I") (by decide +kernel)) (fun _ h9 => h9) rfl (by decide +kernel) rfl rfl (Nat.le_of_ble_eq_true rfl) dX3_part_18 (fun H locs hP hD hS => ?_)
    have hP : va_P (dC, dI) vwCl (wM cI cZ b (((w.1.1, w.1.2.1, w.1.2.2), nI (1), mPn w, mTm w, mTn w, mIs w, mFi w, mSe w, mMk w))) H := hP
    have hD : va_D (inW (wM cI cZ b w)) (wM cI cZ b (((w.1.1, w.1.2.1, w.1.2.2), nI (1), mPn w, mTm w, mTn w, mIs w, mFi w, mSe w, mMk w))) := hD
    refine lv_aload_n hx hb dX3_part_21 rfl (lv_at hl 1 rfl) ?_
    refine va_get (D := (dC, dI)) (ci := 3) (v := .int (nI (1))) (C := RX3) (T := TX3) (N := 11) hx hb hts (by decide +kernel) hown hK hP 0 rfl rfl 0 (by decide) (hts (.fieldLink RX3 33 "TriangleSheetModel" "thrown" "I") (by decide +kernel)) (fun _ h9 => h9) rfl dX3_part_22 ?_
    refine lv_if_le (tgt := 30) hx hb dX3_part_25 (by decide) (fun c_2 => absurd c_2 (by decide)) (fun c_2 => ?_)
    refine lv_iconst (v := nI (0)) hx hb dX3_part_28 (by decide) ?_
    exact wr_iret hx hb hr hP hS rfl rfl dX3_part_29 hlocks
  · skip
    have c_1 : (mth w t) = true := bI_t c_1
    exact absurd c_1 (by rw [hc]; decide)
set_option maxHeartbeats 4000000 in
set_option maxRecDepth 100000 in
theorem c_X3_part_2 (l : Launch) (dC : Nat → ClassId) (dI : Nat → Nat → Nat) (cI cL cZ : ClassId) (b : Nat → Nat) (w : MV) (t : Nat) (x y : Int32) (hv : okM w) (ht : t < 200) (hc : mth (mThx w (nI 0)) (nI t) = true) (hd : ((inB x 512 && inB y 512) && wit (mThx w (nI 0)).1 t x.toInt y.toInt) = false) : Met l yX3_part wsX3_part ({ frames := 2, cells := 0, slots := 0, locals := 42 }) (va_Pc [.ref (b 0), .int (nI (t)), .int (x), .int (y)] (wr_B (dC, dI) vwCl (wM cI cZ b w) (tyS cI cL cZ))) (wr_Q (some (.int (nI (0)))) (dC, dI) vwCl (wM cI cZ b w) (wM cI cZ b (mThx (mThx w (nI 0)) (nI 2)))) 0 0 (inW (wM cI cZ b w)) := by
  refine wr_Met (cc := cX3_part) (maxL := 12) (ret := (some .int)) (by decide) rfl (Nat.le_of_ble_eq_true rfl) ?_
  intro pr en s m below meth co ls hx hb hml hr hlocks hown hts hP hK hD hS hl
  have hl : lv_has ls 12 [(0, .ref (b 0)), (1, .int (nI (t))), (2, .int (x)), (3, .int (y))] := hl
  have hown : s.vm.findClass RX3 = some m.cls := hown
  have hvp : mPn w ≤ 60 ∧ mTm w ≤ 200 ∧ mTn w ≤ 60 := ⟨hv.2.1, hv.2.2.1, hv.2.2.2.1⟩
  refine lv_iload_n hx hb dX3_part_0 rfl (lv_at hl 1 rfl) ?_
  refine lv_istore (lv' := [(4, .int (nI (t))), (0, .ref (b 0)), (1, .int (nI (t))), (2, .int (x)), (3, .int (y))]) hx hb dX3_part_1 hl (by decide) rfl (fun ls hl => ?_)
  refine lv_aload_n hx hb dX3_part_3 rfl (lv_at hl 1 rfl) ?_
  refine lv_aload_n hx hb dX3_part_4 rfl (lv_at hl 1 rfl) ?_
  refine lv_iload hx hb dX3_part_5 (lv_at hl 0 rfl) ?_
  refine ro_V (As := [.int (nI (t))]) (rest := [.ref (b 0)]) (q0 := 0) (ci := 3) hx hb hml hown hts (c_X3_isThere l dC dI cI cL cZ b w (nI (t)) hv) (cwV 1 hts gX3_part_X3_isThere rfl rfl rfl (by decide +kernel) ⟨Nat.le_of_ble_eq_true rfl, Nat.le_of_ble_eq_true rfl⟩) hK hP rfl rfl rfl hl.1 rfl (Nat.le_of_ble_eq_true rfl) dX3_part_7 ⟨Nat.zero_le _, Nat.zero_le _⟩ ?_
  refine lv_if_eq (tgt := 17) hx hb dX3_part_10 (by decide) (fun c_1 => ?_) (fun c_1 => ?_)
  · skip
    have c_1 : (mth w (nI (t))) = false := bI_f c_1
    exact absurd c_1 (by rw [show mth w (nI t) = true from hc]; decide)
  · skip
    have c_1 : (mth w (nI (t))) = true := bI_t c_1
    refine lv_iconst (v := nI (0)) hx hb dX3_part_13 (by decide) ?_
    refine lv_goto (tgt := 18) hx hb dX3_part_14 (by decide) ?_
    refine va_put (D := (dC, dI)) (ci := 3) (v := .int (nI (0))) (ty := .int) (C := RX3) (T := TX3) (N := 11) hx hb hts (by decide +kernel) tyX3 tyX3_ok nmX3 hown hK hP hD hS 0 rfl rfl 0 (by decide) (hts (.fieldLink RX3 33 "TriangleSheetModel" "thrown" "I") (by decide +kernel)) (fun _ h9 => h9) rfl (by decide +kernel) rfl rfl (Nat.le_of_ble_eq_true rfl) dX3_part_18 (fun H locs hP hD hS => ?_)
    have hP : va_P (dC, dI) vwCl (wM cI cZ b (((w.1.1, w.1.2.1, w.1.2.2), nI (0), mPn w, mTm w, mTn w, mIs w, mFi w, mSe w, mMk w))) H := hP
    have hD : va_D (inW (wM cI cZ b w)) (wM cI cZ b (((w.1.1, w.1.2.1, w.1.2.2), nI (0), mPn w, mTm w, mTn w, mIs w, mFi w, mSe w, mMk w))) := hD
    refine lv_aload_n hx hb dX3_part_21 rfl (lv_at hl 1 rfl) ?_
    refine va_get (D := (dC, dI)) (ci := 3) (v := .int (nI (0))) (C := RX3) (T := TX3) (N := 11) hx hb hts (by decide +kernel) hown hK hP 0 rfl rfl 0 (by decide) (hts (.fieldLink RX3 33 "TriangleSheetModel" "thrown" "I") (by decide +kernel)) (fun _ h9 => h9) rfl dX3_part_22 ?_
    refine lv_if_le (tgt := 30) hx hb dX3_part_25 (by decide) (fun c_2 => ?_) (fun c_2 => absurd (by decide) c_2)
    have hP : va_P (dC, dI) vwCl (wM cI cZ b (mThx w (nI 0))) H := hP
    have hD : va_D (inW (wM cI cZ b w)) (wM cI cZ b (mThx w (nI 0))) := hD
    have hv : okM (mThx w (nI 0)) := hv
    generalize mThx w (nI 0) = w1 at hP hD hv hc hd ⊢
    have hvp : mPn w1 ≤ 60 ∧ mTm w1 ≤ 200 ∧ mTn w1 ≤ 60 := ⟨hv.2.1, hv.2.2.1, hv.2.2.2.1⟩
    refine lv_iload_n hx hb dX3_part_30 rfl (lv_at hl 3 rfl) ?_
    refine lv_iload_n hx hb dX3_part_31 rfl (lv_at hl 4 rfl) ?_
    refine ro_S (As := [.int (x), .int (y)]) (rest := []) hx hb hml hown hts (c_X3_isPlace l dC dI  x y ) (va_cwS 2 hts gX3_part_X3_isPlace rfl rfl rfl (by decide +kernel) ⟨Nat.le_of_ble_eq_true rfl, Nat.le_of_ble_eq_true rfl⟩) (hK.sub [] rfl) (hP.sub [] rfl) rfl hl.1 rfl (Nat.le_of_ble_eq_true rfl) dX3_part_32 ⟨Nat.zero_le _, Nat.zero_le _⟩ ?_
    refine lv_istore (lv' := [(5, .int (bI (inB x 512 && inB y 512))), (4, .int (nI (t))), (0, .ref (b 0)), (1, .int (nI (t))), (2, .int (x)), (3, .int (y))]) hx hb dX3_part_35 hl (by decide) rfl (fun ls hl => ?_)
    refine lv_iconst (v := nI (0)) hx hb dX3_part_37 (by decide) ?_
    refine lv_istore (lv' := [(6, .int (nI (0))), (5, .int (bI (inB x 512 && inB y 512))), (4, .int (nI (t))), (0, .ref (b 0)), (1, .int (nI (t))), (2, .int (x)), (3, .int (y))]) hx hb dX3_part_38 hl (by decide) rfl (fun ls hl => ?_)
    refine lpW (σ := Nat × Bool) (LV := fun (n, b2) => [(0, .ref (b 0)), (1, .int (nI (t))), (2, .int (x)), (3, .int (y)), (4, .int (nI (t))), (5, .int (bI (b2))), (6, .int (nI (n)))]) (WS := fun (n, b2) => wM cI cZ b w1) (I := fun k (n, b2) => n + k = 3 ∧ ((inB x 512 && inB y 512) && wit w1.1 t x.toInt y.toInt) = (b2 && alf (fun k => decide (0 < tbe w1.1 t k x.toInt y.toInt)) k n)) (fun k (n, b2) ls H locs hI_k hl hP hD hS ih_k => ?_) (3) (0, (inB x 512 && inB y 512)) ls _ _ ⟨by omega, rfl⟩ (lv_sub hl [3, 4, 5, 6, 2, 1, 0] rfl) hP hD hS
    obtain ⟨hk, hi⟩ := hI_k
    have hP : va_P (dC, dI) vwCl (wM cI cZ b w1) H := hP
    have hD : va_D (inW (wM cI cZ b w)) (wM cI cZ b w1) := hD
    have hg0 := gc_lt hv.1 (t := t) (k := n)
    have hg1 := gc_lt hv.1 (t := t) (k := n + 1)
    refine lv_iload hx hb dX3_part_40 (lv_at hl 6 rfl) ?_
    refine lv_iconst (v := nI (3)) hx hb dX3_part_42 (by decide) ?_
    refine lv_icmp_ge (tgt := 136) hx hb dX3_part_43 (by decide) (fun c_3 => ?_) (fun c_3 => ?_)
    · skip
      have c_3 : 3 ≤ n := (nI_leI (a := 3) (b := n) (by omega) (by omega)).mp c_3
      refine lv_aload_n hx hb dX3_part_136 rfl (lv_at hl 0 rfl) ?_
      refine lv_iload hx hb dX3_part_137 (lv_at hl 5 rfl) ?_
      refine lv_if_ne (tgt := 146) hx hb dX3_part_139 (by decide) (fun c_4 => ?_) (fun c_4 => ?_)
      · skip
        have c_4 : (b2) = true := bI_t c_4
        exact absurd hd (by rw [hi, show k = 0 by omega]; simp [alf, c_1, c_3, c_4])
      · skip
        have c_4 : (b2) = false := bI_f c_4
        refine lv_iconst (v := nI (2)) hx hb dX3_part_142 (by decide) ?_
        refine lv_goto (tgt := 193) hx hb dX3_part_143 (by decide) ?_
        refine va_put (D := (dC, dI)) (ci := 3) (v := .int (nI (2))) (ty := .int) (C := RX3) (T := TX3) (N := 11) hx hb hts (by decide +kernel) tyX3 tyX3_ok nmX3 hown hK hP hD hS 0 rfl rfl 0 (by decide) (hts (.fieldLink RX3 33 "TriangleSheetModel" "thrown" "I") (by decide +kernel)) (fun _ h9 => h9) rfl (by decide +kernel) rfl rfl (Nat.le_of_ble_eq_true rfl) dX3_part_193 (fun H locs hP hD hS => ?_)
        have hP : va_P (dC, dI) vwCl (wM cI cZ b (((w1.1.1, w1.1.2.1, w1.1.2.2), nI (2), mPn w1, mTm w1, mTn w1, mIs w1, mFi w1, mSe w1, mMk w1))) H := hP
        have hD : va_D (inW (wM cI cZ b w)) (wM cI cZ b (((w1.1.1, w1.1.2.1, w1.1.2.2), nI (2), mPn w1, mTm w1, mTn w1, mIs w1, mFi w1, mSe w1, mMk w1))) := hD
        refine lv_aload_n hx hb dX3_part_196 rfl (lv_at hl 0 rfl) ?_
        refine va_get (D := (dC, dI)) (ci := 3) (v := .int (nI (2))) (C := RX3) (T := TX3) (N := 11) hx hb hts (by decide +kernel) hown hK hP 0 rfl rfl 0 (by decide) (hts (.fieldLink RX3 33 "TriangleSheetModel" "thrown" "I") (by decide +kernel)) (fun _ h9 => h9) rfl dX3_part_197 ?_
        refine lv_if_le (tgt := 205) hx hb dX3_part_200 (by decide) (fun c_5 => absurd c_5 (by decide)) (fun c_5 => ?_)
        refine lv_iconst (v := nI (0)) hx hb dX3_part_203 (by decide) ?_
        exact wr_iret hx hb hr hP hS rfl rfl dX3_part_204 hlocks
    · skip
      have c_3 : ¬ (3 ≤ n) := fun hq9 => c_3 ((nI_leI (a := 3) (b := n) (by omega) (by omega)).mpr hq9)
      refine lv_iload hx hb dX3_part_46 (lv_at hl 5 rfl) ?_
      refine lv_if_eq (tgt := 127) hx hb dX3_part_48 (by decide) (fun c_6 => ?_) (fun c_6 => ?_)
      · skip
        have c_6 : (b2) = false := bI_f c_6
        refine lv_iconst (v := nI (0)) hx hb dX3_part_127 (by decide) ?_
        refine lv_istore (lv' := [(5, .int (nI (0))), (0, .ref (b 0)), (1, .int (nI (t))), (2, .int (x)), (3, .int (y)), (4, .int (nI (t))), (6, .int (nI (n)))]) hx hb dX3_part_128 hl (by decide) rfl (fun ls hl => ?_)
        refine lv_iinc (v := nI (n + 1)) (lv' := [(6, .int (nI (n + 1))), (5, .int (nI (0))), (0, .ref (b 0)), (1, .int (nI (t))), (2, .int (x)), (3, .int (y)), (4, .int (nI (t)))]) hx hb dX3_part_130 hl (k := 6) rfl (nI_1 (n)) (by decide) rfl (fun ls hl => ?_)
        refine lv_goto (tgt := 40) hx hb dX3_part_133 (by decide) ?_
        exact ih_k (k - 1) (n + 1, false) ls _ _ (by omega) ⟨by omega, by rw [hi, alf_s (by omega)]; first | (simp [c_1, c_3, c_6]; done) | (have e9 : decide (0 < tbe w1.1 t n x.toInt y.toInt) = false := (by simp; omega); simp [e9]; done) | (have e9 : decide (0 < tbe w1.1 t n x.toInt y.toInt) = true := (by simp; omega); simp [e9, c_1, c_3, c_6])⟩ (lv_sub hl [2, 3, 4, 5, 6, 1, 0] rfl) hP hD hS
      · skip
        have c_6 : (b2) = true := bI_t c_6
        refine lv_aload_n hx hb dX3_part_51 rfl (lv_at hl 0 rfl) ?_
        refine va_get (D := (dC, dI)) (ci := 3) (v := .ref (b 1)) (C := RX3) (T := TX3) (N := 11) hx hb hts (by decide +kernel) hown hK hP 0 rfl rfl 4 (by decide) (hts (.fieldLink RX3 7 "TriangleSheetModel" "px" "[I") (by decide +kernel)) (fun _ h9 => h9) rfl dX3_part_52 ?_
        refine lv_aload_n hx hb dX3_part_55 rfl (lv_at hl 0 rfl) ?_
        refine lv_iload hx hb dX3_part_56 (lv_at hl 4 rfl) ?_
        refine lv_iload hx hb dX3_part_58 (lv_at hl 6 rfl) ?_
        refine ro_V (As := [.int (nI (t)), .int (nI (n))]) (rest := [.ref (b 1)]) (q0 := 0) (ci := 3) hx hb hml hown hts (c_X3_at l dC dI cI cL cZ b w1 t n (by omega) (by omega)) (cwV 2 hts gX3_part_X3_at rfl rfl rfl (by decide +kernel) ⟨Nat.le_of_ble_eq_true rfl, Nat.le_of_ble_eq_true rfl⟩) hK hP rfl rfl rfl hl.1 rfl (Nat.le_of_ble_eq_true rfl) dX3_part_60 ⟨Nat.zero_le _, Nat.zero_le _⟩ ?_
        refine ia_ld (k := gc w1.1 t n) hx hb hK hP 1 0 rfl rfl (by omega) (by decide) dX3_part_63 ?_
        refine W.eq (g2 := F0 m 64 ls [.int (nI (w1.1.1 (gc w1.1 t n)))]) rfl ?_
        have bd_7 := hv.1.1 (gc w1.1 t n)
        refine lv_i2l (v := lI (((w1.1.1 (gc w1.1 t n) : Nat) : Int))) hx hb dX3_part_64 (nzI_l (by omega)) ?_
        refine lv_aload_n hx hb dX3_part_65 rfl (lv_at hl 0 rfl) ?_
        refine va_get (D := (dC, dI)) (ci := 3) (v := .ref (b 2)) (C := RX3) (T := TX3) (N := 11) hx hb hts (by decide +kernel) hown hK hP 0 rfl rfl 5 (by decide) (hts (.fieldLink RX3 13 "TriangleSheetModel" "py" "[I") (by decide +kernel)) (fun _ h9 => h9) rfl dX3_part_66 ?_
        refine lv_aload_n hx hb dX3_part_69 rfl (lv_at hl 0 rfl) ?_
        refine lv_iload hx hb dX3_part_70 (lv_at hl 4 rfl) ?_
        refine lv_iload hx hb dX3_part_72 (lv_at hl 6 rfl) ?_
        refine ro_V (As := [.int (nI (t)), .int (nI (n))]) (rest := [.ref (b 2), .long (lI (((w1.1.1 (gc w1.1 t n) : Nat) : Int)))]) (q0 := 0) (ci := 3) hx hb hml hown hts (c_X3_at l dC dI cI cL cZ b w1 t n (by omega) (by omega)) (cwV 2 hts gX3_part_X3_at rfl rfl rfl (by decide +kernel) ⟨Nat.le_of_ble_eq_true rfl, Nat.le_of_ble_eq_true rfl⟩) hK hP rfl rfl rfl hl.1 rfl (Nat.le_of_ble_eq_true rfl) dX3_part_74 ⟨Nat.zero_le _, Nat.zero_le _⟩ ?_
        refine ia_ld (k := gc w1.1 t n) hx hb hK hP 2 0 rfl rfl (by omega) (by decide) dX3_part_77 ?_
        refine W.eq (g2 := F0 m 78 ls [.int (nI (w1.1.2.1 (gc w1.1 t n))), .long (lI (((w1.1.1 (gc w1.1 t n) : Nat) : Int)))]) rfl ?_
        have bd_8 := hv.1.2.1 (gc w1.1 t n)
        refine lv_i2l (v := lI (((w1.1.2.1 (gc w1.1 t n) : Nat) : Int))) hx hb dX3_part_78 (nzI_l (by omega)) ?_
        refine lv_aload_n hx hb dX3_part_79 rfl (lv_at hl 0 rfl) ?_
        refine va_get (D := (dC, dI)) (ci := 3) (v := .ref (b 1)) (C := RX3) (T := TX3) (N := 11) hx hb hts (by decide +kernel) hown hK hP 0 rfl rfl 4 (by decide) (hts (.fieldLink RX3 7 "TriangleSheetModel" "px" "[I") (by decide +kernel)) (fun _ h9 => h9) rfl dX3_part_80 ?_
        refine lv_aload_n hx hb dX3_part_83 rfl (lv_at hl 0 rfl) ?_
        refine lv_iload hx hb dX3_part_84 (lv_at hl 4 rfl) ?_
        refine lv_iload hx hb dX3_part_86 (lv_at hl 6 rfl) ?_
        refine lv_iconst (v := nI (1)) hx hb dX3_part_88 (by decide) ?_
        refine lv_iadd hx hb dX3_part_89 ?_
        refine rt_i (y := (nI (n + 1))) (nn_add (n) (1)) ?_
        refine ro_V (As := [.int (nI (t)), .int (nI (n + 1))]) (rest := [.ref (b 1), .long (lI (((w1.1.2.1 (gc w1.1 t n) : Nat) : Int))), .long (lI (((w1.1.1 (gc w1.1 t n) : Nat) : Int)))]) (q0 := 0) (ci := 3) hx hb hml hown hts (c_X3_at l dC dI cI cL cZ b w1 t (n + 1) (by omega) (by omega)) (cwV 2 hts gX3_part_X3_at rfl rfl rfl (by decide +kernel) ⟨Nat.le_of_ble_eq_true rfl, Nat.le_of_ble_eq_true rfl⟩) hK hP rfl rfl rfl hl.1 rfl (Nat.le_of_ble_eq_true rfl) dX3_part_90 ⟨Nat.zero_le _, Nat.zero_le _⟩ ?_
        refine ia_ld (k := gc w1.1 t (n + 1)) hx hb hK hP 1 0 rfl rfl (by omega) (by decide) dX3_part_93 ?_
        refine W.eq (g2 := F0 m 94 ls [.int (nI (w1.1.1 (gc w1.1 t (n + 1)))), .long (lI (((w1.1.2.1 (gc w1.1 t n) : Nat) : Int))), .long (lI (((w1.1.1 (gc w1.1 t n) : Nat) : Int)))]) rfl ?_
        have bd_9 := hv.1.1 (gc w1.1 t (n + 1))
        refine lv_i2l (v := lI (((w1.1.1 (gc w1.1 t (n + 1)) : Nat) : Int))) hx hb dX3_part_94 (nzI_l (by omega)) ?_
        refine lv_aload_n hx hb dX3_part_95 rfl (lv_at hl 0 rfl) ?_
        refine va_get (D := (dC, dI)) (ci := 3) (v := .ref (b 2)) (C := RX3) (T := TX3) (N := 11) hx hb hts (by decide +kernel) hown hK hP 0 rfl rfl 5 (by decide) (hts (.fieldLink RX3 13 "TriangleSheetModel" "py" "[I") (by decide +kernel)) (fun _ h9 => h9) rfl dX3_part_96 ?_
        refine lv_aload_n hx hb dX3_part_99 rfl (lv_at hl 0 rfl) ?_
        refine lv_iload hx hb dX3_part_100 (lv_at hl 4 rfl) ?_
        refine lv_iload hx hb dX3_part_102 (lv_at hl 6 rfl) ?_
        refine lv_iconst (v := nI (1)) hx hb dX3_part_104 (by decide) ?_
        refine lv_iadd hx hb dX3_part_105 ?_
        refine rt_i (y := (nI (n + 1))) (nn_add (n) (1)) ?_
        refine ro_V (As := [.int (nI (t)), .int (nI (n + 1))]) (rest := [.ref (b 2), .long (lI (((w1.1.1 (gc w1.1 t (n + 1)) : Nat) : Int))), .long (lI (((w1.1.2.1 (gc w1.1 t n) : Nat) : Int))), .long (lI (((w1.1.1 (gc w1.1 t n) : Nat) : Int)))]) (q0 := 0) (ci := 3) hx hb hml hown hts (c_X3_at l dC dI cI cL cZ b w1 t (n + 1) (by omega) (by omega)) (cwV 2 hts gX3_part_X3_at rfl rfl rfl (by decide +kernel) ⟨Nat.le_of_ble_eq_true rfl, Nat.le_of_ble_eq_true rfl⟩) hK hP rfl rfl rfl hl.1 rfl (Nat.le_of_ble_eq_true rfl) dX3_part_106 ⟨Nat.zero_le _, Nat.zero_le _⟩ ?_
        refine ia_ld (k := gc w1.1 t (n + 1)) hx hb hK hP 2 0 rfl rfl (by omega) (by decide) dX3_part_109 ?_
        refine W.eq (g2 := F0 m 110 ls [.int (nI (w1.1.2.1 (gc w1.1 t (n + 1)))), .long (lI (((w1.1.1 (gc w1.1 t (n + 1)) : Nat) : Int))), .long (lI (((w1.1.2.1 (gc w1.1 t n) : Nat) : Int))), .long (lI (((w1.1.1 (gc w1.1 t n) : Nat) : Int)))]) rfl ?_
        have bd_10 := hv.1.2.1 (gc w1.1 t (n + 1))
        refine lv_i2l (v := lI (((w1.1.2.1 (gc w1.1 t (n + 1)) : Nat) : Int))) hx hb dX3_part_110 (nzI_l (by omega)) ?_
        refine lv_iload_n hx hb dX3_part_111 rfl (lv_at hl 2 rfl) ?_
        refine lv_i2l (v := lI (x.toInt)) hx hb dX3_part_112 (toInt_l x) ?_
        refine lv_iload_n hx hb dX3_part_113 rfl (lv_at hl 3 rfl) ?_
        refine lv_i2l (v := lI (y.toInt)) hx hb dX3_part_114 (toInt_l y) ?_
        refine ro_S (As := [.long (lI (((w1.1.1 (gc w1.1 t n) : Nat) : Int))), .long (lI (((w1.1.2.1 (gc w1.1 t n) : Nat) : Int))), .long (lI (((w1.1.1 (gc w1.1 t (n + 1)) : Nat) : Int))), .long (lI (((w1.1.2.1 (gc w1.1 t (n + 1)) : Nat) : Int))), .long (lI (x.toInt)), .long (lI (y.toInt))]) (rest := []) hx hb hml hown hts (c_X3_turnOf l dC dI  (((w1.1.1 (gc w1.1 t n) : Nat) : Int)) (((w1.1.2.1 (gc w1.1 t n) : Nat) : Int)) (((w1.1.1 (gc w1.1 t (n + 1)) : Nat) : Int)) (((w1.1.2.1 (gc w1.1 t (n + 1)) : Nat) : Int)) (x.toInt) (y.toInt) ) (va_cwS 6 hts gX3_part_X3_turnOf rfl rfl rfl (by decide +kernel) ⟨Nat.le_of_ble_eq_true rfl, Nat.le_of_ble_eq_true rfl⟩) (hK.sub [] rfl) (hP.sub [] rfl) rfl hl.1 rfl (Nat.le_of_ble_eq_true rfl) dX3_part_115 ⟨Nat.zero_le _, Nat.zero_le _⟩ ?_
        refine rt_l (y := (lI (tbe w1.1 t (n) x.toInt y.toInt))) rfl ?_
        refine lv_lconst (v := lI 0) hx hb dX3_part_118 (by decide) ?_
        refine W.lcmp hx hb dX3_part_119 ?_
        refine lv_if_le (tgt := 127) hx hb dX3_part_120 (by decide) (fun c_11 => ?_) (fun c_11 => ?_)
        · skip
          have c_11 : (tbe w1.1 t (n) x.toInt y.toInt) ≤ 0 := (lc_le (a := tbe w1.1 t (n) x.toInt y.toInt) (b := 0) (tat_lok hv.1 (toInt_ok x) (toInt_ok y)) lOk_0).mp c_11
          refine lv_iconst (v := nI (0)) hx hb dX3_part_127 (by decide) ?_
          refine lv_istore (lv' := [(5, .int (nI (0))), (0, .ref (b 0)), (1, .int (nI (t))), (2, .int (x)), (3, .int (y)), (4, .int (nI (t))), (6, .int (nI (n)))]) hx hb dX3_part_128 hl (by decide) rfl (fun ls hl => ?_)
          refine lv_iinc (v := nI (n + 1)) (lv' := [(6, .int (nI (n + 1))), (5, .int (nI (0))), (0, .ref (b 0)), (1, .int (nI (t))), (2, .int (x)), (3, .int (y)), (4, .int (nI (t)))]) hx hb dX3_part_130 hl (k := 6) rfl (nI_1 (n)) (by decide) rfl (fun ls hl => ?_)
          refine lv_goto (tgt := 40) hx hb dX3_part_133 (by decide) ?_
          exact ih_k (k - 1) (n + 1, false) ls _ _ (by omega) ⟨by omega, by rw [hi, alf_s (by omega)]; first | (simp [c_1, c_3, c_6, c_11]; done) | (have e9 : decide (0 < tbe w1.1 t n x.toInt y.toInt) = false := (by simp; omega); simp [e9]; done) | (have e9 : decide (0 < tbe w1.1 t n x.toInt y.toInt) = true := (by simp; omega); simp [e9, c_1, c_3, c_6, c_11])⟩ (lv_sub hl [2, 3, 4, 5, 6, 1, 0] rfl) hP hD hS
        · skip
          have c_11 : ¬ ((tbe w1.1 t (n) x.toInt y.toInt) ≤ 0) := fun hq9 => c_11 ((lc_le (a := tbe w1.1 t (n) x.toInt y.toInt) (b := 0) (tat_lok hv.1 (toInt_ok x) (toInt_ok y)) lOk_0).mpr hq9)
          refine lv_iconst (v := nI (1)) hx hb dX3_part_123 (by decide) ?_
          refine lv_goto (tgt := 128) hx hb dX3_part_124 (by decide) ?_
          refine lv_istore (lv' := [(5, .int (nI (1))), (0, .ref (b 0)), (1, .int (nI (t))), (2, .int (x)), (3, .int (y)), (4, .int (nI (t))), (6, .int (nI (n)))]) hx hb dX3_part_128 hl (by decide) rfl (fun ls hl => ?_)
          refine lv_iinc (v := nI (n + 1)) (lv' := [(6, .int (nI (n + 1))), (5, .int (nI (1))), (0, .ref (b 0)), (1, .int (nI (t))), (2, .int (x)), (3, .int (y)), (4, .int (nI (t)))]) hx hb dX3_part_130 hl (k := 6) rfl (nI_1 (n)) (by decide) rfl (fun ls hl => ?_)
          refine lv_goto (tgt := 40) hx hb dX3_part_133 (by decide) ?_
          exact ih_k (k - 1) (n + 1, true) ls _ _ (by omega) ⟨by omega, by rw [hi, alf_s (by omega)]; first | (simp [c_1, c_3, c_6, c_11]; done) | (have e9 : decide (0 < tbe w1.1 t n x.toInt y.toInt) = false := (by simp; omega); simp [e9]; done) | (have e9 : decide (0 < tbe w1.1 t n x.toInt y.toInt) = true := (by simp; omega); simp [e9, c_1, c_3, c_6, c_11])⟩ (lv_sub hl [2, 3, 4, 5, 6, 1, 0] rfl) hP hD hS
set_option maxHeartbeats 4000000 in
set_option maxRecDepth 100000 in
theorem c_X3_part_3 (l : Launch) (dC : Nat → ClassId) (dI : Nat → Nat → Nat) (cI cL cZ : ClassId) (b : Nat → Nat) (w : MV) (t x y : Nat) (hv : okM w) (ht : t < 200) (hx9 : x < 512) (hy9 : y < 512) (hc : mth (mThx w (nI 0)) (nI t) = true) (hd : wit (mThx w (nI 0)).1 t (x : Int) (y : Int) = true) (he : pAt (mThx w (nI 0)).1 (mPn (mThx w (nI 0))) (nI x) (nI y) = none → (mPn (mThx w (nI 0)) = 60 ∨ 60 < mTn (mThx w (nI 0)) + 2 ∨ 200 < mTm (mThx w (nI 0)) + 2)) : Met l yX3_part wsX3_part ({ frames := 2, cells := 0, slots := 0, locals := 42 }) (va_Pc [.ref (b 0), .int (nI (t)), .int (nI (x)), .int (nI (y))] (wr_B (dC, dI) vwCl (wM cI cZ b w) (tyS cI cL cZ))) (wr_Q (some (.int (nI (0)))) (dC, dI) vwCl (wM cI cZ b w) (wM cI cZ b (mThx (mThx w (nI 0)) (nI 3)))) 0 0 (inW (wM cI cZ b w)) := by
  refine wr_Met (cc := cX3_part) (maxL := 12) (ret := (some .int)) (by decide) rfl (Nat.le_of_ble_eq_true rfl) ?_
  intro pr en s m below meth co ls hx hb hml hr hlocks hown hts hP hK hD hS hl
  have hl : lv_has ls 12 [(0, .ref (b 0)), (1, .int (nI (t))), (2, .int (nI (x))), (3, .int (nI (y)))] := hl
  have hown : s.vm.findClass RX3 = some m.cls := hown
  have hvp : mPn w ≤ 60 ∧ mTm w ≤ 200 ∧ mTn w ≤ 60 := ⟨hv.2.1, hv.2.2.1, hv.2.2.2.1⟩
  refine lv_iload_n hx hb dX3_part_0 rfl (lv_at hl 1 rfl) ?_
  refine lv_istore (lv' := [(4, .int (nI (t))), (0, .ref (b 0)), (1, .int (nI (t))), (2, .int (nI (x))), (3, .int (nI (y)))]) hx hb dX3_part_1 hl (by decide) rfl (fun ls hl => ?_)
  refine lv_aload_n hx hb dX3_part_3 rfl (lv_at hl 1 rfl) ?_
  refine lv_aload_n hx hb dX3_part_4 rfl (lv_at hl 1 rfl) ?_
  refine lv_iload hx hb dX3_part_5 (lv_at hl 0 rfl) ?_
  refine ro_V (As := [.int (nI (t))]) (rest := [.ref (b 0)]) (q0 := 0) (ci := 3) hx hb hml hown hts (c_X3_isThere l dC dI cI cL cZ b w (nI (t)) hv) (cwV 1 hts gX3_part_X3_isThere rfl rfl rfl (by decide +kernel) ⟨Nat.le_of_ble_eq_true rfl, Nat.le_of_ble_eq_true rfl⟩) hK hP rfl rfl rfl hl.1 rfl (Nat.le_of_ble_eq_true rfl) dX3_part_7 ⟨Nat.zero_le _, Nat.zero_le _⟩ ?_
  refine lv_if_eq (tgt := 17) hx hb dX3_part_10 (by decide) (fun c_1 => ?_) (fun c_1 => ?_)
  · skip
    have c_1 : (mth w (nI (t))) = false := bI_f c_1
    exact absurd c_1 (by rw [show mth w (nI t) = true from hc]; decide)
  · skip
    have c_1 : (mth w (nI (t))) = true := bI_t c_1
    refine lv_iconst (v := nI (0)) hx hb dX3_part_13 (by decide) ?_
    refine lv_goto (tgt := 18) hx hb dX3_part_14 (by decide) ?_
    refine va_put (D := (dC, dI)) (ci := 3) (v := .int (nI (0))) (ty := .int) (C := RX3) (T := TX3) (N := 11) hx hb hts (by decide +kernel) tyX3 tyX3_ok nmX3 hown hK hP hD hS 0 rfl rfl 0 (by decide) (hts (.fieldLink RX3 33 "TriangleSheetModel" "thrown" "I") (by decide +kernel)) (fun _ h9 => h9) rfl (by decide +kernel) rfl rfl (Nat.le_of_ble_eq_true rfl) dX3_part_18 (fun H locs hP hD hS => ?_)
    have hP : va_P (dC, dI) vwCl (wM cI cZ b (((w.1.1, w.1.2.1, w.1.2.2), nI (0), mPn w, mTm w, mTn w, mIs w, mFi w, mSe w, mMk w))) H := hP
    have hD : va_D (inW (wM cI cZ b w)) (wM cI cZ b (((w.1.1, w.1.2.1, w.1.2.2), nI (0), mPn w, mTm w, mTn w, mIs w, mFi w, mSe w, mMk w))) := hD
    refine lv_aload_n hx hb dX3_part_21 rfl (lv_at hl 1 rfl) ?_
    refine va_get (D := (dC, dI)) (ci := 3) (v := .int (nI (0))) (C := RX3) (T := TX3) (N := 11) hx hb hts (by decide +kernel) hown hK hP 0 rfl rfl 0 (by decide) (hts (.fieldLink RX3 33 "TriangleSheetModel" "thrown" "I") (by decide +kernel)) (fun _ h9 => h9) rfl dX3_part_22 ?_
    refine lv_if_le (tgt := 30) hx hb dX3_part_25 (by decide) (fun c_2 => ?_) (fun c_2 => absurd (by decide) c_2)
    have hP : va_P (dC, dI) vwCl (wM cI cZ b (mThx w (nI 0))) H := hP
    have hD : va_D (inW (wM cI cZ b w)) (wM cI cZ b (mThx w (nI 0))) := hD
    have hv : okM (mThx w (nI 0)) := hv
    generalize mThx w (nI 0) = w1 at hP hD hv hc hd he ⊢
    have hvp : mPn w1 ≤ 60 ∧ mTm w1 ≤ 200 ∧ mTn w1 ≤ 60 := ⟨hv.2.1, hv.2.2.1, hv.2.2.2.1⟩
    refine lv_iload_n hx hb dX3_part_30 rfl (lv_at hl 3 rfl) ?_
    refine lv_iload_n hx hb dX3_part_31 rfl (lv_at hl 4 rfl) ?_
    refine ro_S (As := [.int (nI (x)), .int (nI (y))]) (rest := []) hx hb hml hown hts (c_X3_isPlace l dC dI  (nI (x)) (nI (y)) ) (va_cwS 2 hts gX3_part_X3_isPlace rfl rfl rfl (by decide +kernel) ⟨Nat.le_of_ble_eq_true rfl, Nat.le_of_ble_eq_true rfl⟩) (hK.sub [] rfl) (hP.sub [] rfl) rfl hl.1 rfl (Nat.le_of_ble_eq_true rfl) dX3_part_32 ⟨Nat.zero_le _, Nat.zero_le _⟩ ?_
    refine lv_istore (lv' := [(5, .int (bI (inB (nI (x)) 512 && inB (nI (y)) 512))), (4, .int (nI (t))), (0, .ref (b 0)), (1, .int (nI (t))), (2, .int (nI (x))), (3, .int (nI (y)))]) hx hb dX3_part_35 hl (by decide) rfl (fun ls hl => ?_)
    refine lv_iconst (v := nI (0)) hx hb dX3_part_37 (by decide) ?_
    refine lv_istore (lv' := [(6, .int (nI (0))), (5, .int (bI (inB (nI (x)) 512 && inB (nI (y)) 512))), (4, .int (nI (t))), (0, .ref (b 0)), (1, .int (nI (t))), (2, .int (nI (x))), (3, .int (nI (y)))]) hx hb dX3_part_38 hl (by decide) rfl (fun ls hl => ?_)
    refine lpW (σ := Nat × Bool) (LV := fun (n, b2) => [(0, .ref (b 0)), (1, .int (nI (t))), (2, .int (nI (x))), (3, .int (nI (y))), (4, .int (nI (t))), (5, .int (bI (b2))), (6, .int (nI (n)))]) (WS := fun (n, b2) => wM cI cZ b w1) (I := fun k (n, b2) => n + k = 3 ∧ ((inB (nI x) 512 && inB (nI y) 512) && wit w1.1 t (x : Int) (y : Int)) = (b2 && alf (fun k => decide (0 < tbe w1.1 t k (x : Int) (y : Int))) k n)) (fun k (n, b2) ls H locs hI_k hl hP hD hS ih_k => ?_) (3) (0, (inB (nI x) 512 && inB (nI y) 512)) ls _ _ ⟨by omega, rfl⟩ (lv_sub hl [3, 4, 5, 6, 2, 1, 0] rfl) hP hD hS
    obtain ⟨hk, hi⟩ := hI_k
    have hP : va_P (dC, dI) vwCl (wM cI cZ b w1) H := hP
    have hD : va_D (inW (wM cI cZ b w)) (wM cI cZ b w1) := hD
    have hg0 := gc_lt hv.1 (t := t) (k := n)
    have hg1 := gc_lt hv.1 (t := t) (k := n + 1)
    refine lv_iload hx hb dX3_part_40 (lv_at hl 6 rfl) ?_
    refine lv_iconst (v := nI (3)) hx hb dX3_part_42 (by decide) ?_
    refine lv_icmp_ge (tgt := 136) hx hb dX3_part_43 (by decide) (fun c_3 => ?_) (fun c_3 => ?_)
    · skip
      have c_3 : 3 ≤ n := (nI_leI (a := 3) (b := n) (by omega) (by omega)).mp c_3
      refine lv_aload_n hx hb dX3_part_136 rfl (lv_at hl 0 rfl) ?_
      refine lv_iload hx hb dX3_part_137 (lv_at hl 5 rfl) ?_
      refine lv_if_ne (tgt := 146) hx hb dX3_part_139 (by decide) (fun c_4 => ?_) (fun c_4 => ?_)
      · skip
        have c_4 : (b2) = true := bI_t c_4
        refine lv_aload_n hx hb dX3_part_146 rfl (lv_at hl 0 rfl) ?_
        refine lv_iload_n hx hb dX3_part_147 rfl (lv_at hl 2 rfl) ?_
        refine lv_iload_n hx hb dX3_part_148 rfl (lv_at hl 3 rfl) ?_
        refine ro_V (As := [.int (nI (x)), .int (nI (y))]) (rest := [.ref (b 0)]) (q0 := 0) (ci := 3) hx hb hml hown hts (c_X3_pointAt l dC dI cI cL cZ b w1 (nI (x)) (nI (y)) hv) (cwV 2 hts gX3_part_X3_pointAt rfl rfl rfl (by decide +kernel) ⟨Nat.le_of_ble_eq_true rfl, Nat.le_of_ble_eq_true rfl⟩) hK hP rfl rfl rfl hl.1 rfl (Nat.le_of_ble_eq_true rfl) dX3_part_149 ⟨Nat.zero_le _, Nat.zero_le _⟩ ?_
        have ps_5 : ∀ k, pAt w1.1 (mPn w1) (nI (x)) (nI (y)) = some k → k < 2 ^ 31 := fun k h => by have := pAt_lt h; omega
        refine lv_iconst (v := iI (-1)) hx hb dX3_part_152 (by decide) ?_
        refine lv_icmp_ne (tgt := 188) hx hb dX3_part_153 (by decide) (fun c_6 => ?_) (fun c_6 => ?_)
        · skip
          have c_6 : ¬ (pAt w1.1 (mPn w1) (nI (x)) (nI (y))) = none := fun hq9 => c_6 ((oI_m1 (by assumption)).mpr hq9)
          refine lv_iconst (v := nI (3)) hx hb dX3_part_188 (by decide) ?_
          refine lv_goto (tgt := 193) hx hb dX3_part_189 (by decide) ?_
          refine va_put (D := (dC, dI)) (ci := 3) (v := .int (nI (3))) (ty := .int) (C := RX3) (T := TX3) (N := 11) hx hb hts (by decide +kernel) tyX3 tyX3_ok nmX3 hown hK hP hD hS 0 rfl rfl 0 (by decide) (hts (.fieldLink RX3 33 "TriangleSheetModel" "thrown" "I") (by decide +kernel)) (fun _ h9 => h9) rfl (by decide +kernel) rfl rfl (Nat.le_of_ble_eq_true rfl) dX3_part_193 (fun H locs hP hD hS => ?_)
          have hP : va_P (dC, dI) vwCl (wM cI cZ b (((w1.1.1, w1.1.2.1, w1.1.2.2), nI (3), mPn w1, mTm w1, mTn w1, mIs w1, mFi w1, mSe w1, mMk w1))) H := hP
          have hD : va_D (inW (wM cI cZ b w)) (wM cI cZ b (((w1.1.1, w1.1.2.1, w1.1.2.2), nI (3), mPn w1, mTm w1, mTn w1, mIs w1, mFi w1, mSe w1, mMk w1))) := hD
          refine lv_aload_n hx hb dX3_part_196 rfl (lv_at hl 0 rfl) ?_
          refine va_get (D := (dC, dI)) (ci := 3) (v := .int (nI (3))) (C := RX3) (T := TX3) (N := 11) hx hb hts (by decide +kernel) hown hK hP 0 rfl rfl 0 (by decide) (hts (.fieldLink RX3 33 "TriangleSheetModel" "thrown" "I") (by decide +kernel)) (fun _ h9 => h9) rfl dX3_part_197 ?_
          refine lv_if_le (tgt := 205) hx hb dX3_part_200 (by decide) (fun c_7 => absurd c_7 (by decide)) (fun c_7 => ?_)
          refine lv_iconst (v := nI (0)) hx hb dX3_part_203 (by decide) ?_
          exact wr_iret hx hb hr hP hS rfl rfl dX3_part_204 hlocks
        · skip
          have c_6 : (pAt w1.1 (mPn w1) (nI (x)) (nI (y))) = none := (oI_m1 (by assumption)).mp c_6
          refine lv_aload_n hx hb dX3_part_156 rfl (lv_at hl 0 rfl) ?_
          refine va_get (D := (dC, dI)) (ci := 3) (v := .int (nI (mPn w1))) (C := RX3) (T := TX3) (N := 11) hx hb hts (by decide +kernel) hown hK hP 0 rfl rfl 1 (by decide) (hts (.fieldLink RX3 40 "TriangleSheetModel" "points" "I") (by decide +kernel)) (fun _ h9 => h9) rfl dX3_part_157 ?_
          refine lv_bipush (v := nI (60)) hx hb dX3_part_160 (by decide) ?_
          refine lv_icmp_eq (tgt := 188) hx hb dX3_part_162 (by decide) (fun c_8 => ?_) (fun c_8 => ?_)
          · skip
            have c_8 : mPn w1 = 60 := (nI_eq (a := mPn w1) (b := 60) (by omega) (by omega)).mp c_8
            refine lv_iconst (v := nI (3)) hx hb dX3_part_188 (by decide) ?_
            refine lv_goto (tgt := 193) hx hb dX3_part_189 (by decide) ?_
            refine va_put (D := (dC, dI)) (ci := 3) (v := .int (nI (3))) (ty := .int) (C := RX3) (T := TX3) (N := 11) hx hb hts (by decide +kernel) tyX3 tyX3_ok nmX3 hown hK hP hD hS 0 rfl rfl 0 (by decide) (hts (.fieldLink RX3 33 "TriangleSheetModel" "thrown" "I") (by decide +kernel)) (fun _ h9 => h9) rfl (by decide +kernel) rfl rfl (Nat.le_of_ble_eq_true rfl) dX3_part_193 (fun H locs hP hD hS => ?_)
            have hP : va_P (dC, dI) vwCl (wM cI cZ b (((w1.1.1, w1.1.2.1, w1.1.2.2), nI (3), mPn w1, mTm w1, mTn w1, mIs w1, mFi w1, mSe w1, mMk w1))) H := hP
            have hD : va_D (inW (wM cI cZ b w)) (wM cI cZ b (((w1.1.1, w1.1.2.1, w1.1.2.2), nI (3), mPn w1, mTm w1, mTn w1, mIs w1, mFi w1, mSe w1, mMk w1))) := hD
            refine lv_aload_n hx hb dX3_part_196 rfl (lv_at hl 0 rfl) ?_
            refine va_get (D := (dC, dI)) (ci := 3) (v := .int (nI (3))) (C := RX3) (T := TX3) (N := 11) hx hb hts (by decide +kernel) hown hK hP 0 rfl rfl 0 (by decide) (hts (.fieldLink RX3 33 "TriangleSheetModel" "thrown" "I") (by decide +kernel)) (fun _ h9 => h9) rfl dX3_part_197 ?_
            refine lv_if_le (tgt := 205) hx hb dX3_part_200 (by decide) (fun c_9 => absurd c_9 (by decide)) (fun c_9 => ?_)
            refine lv_iconst (v := nI (0)) hx hb dX3_part_203 (by decide) ?_
            exact wr_iret hx hb hr hP hS rfl rfl dX3_part_204 hlocks
          · skip
            have c_8 : ¬ (mPn w1 = 60) := fun hq9 => c_8 ((nI_eq (a := mPn w1) (b := 60) (by omega) (by omega)).mpr hq9)
            refine lv_aload_n hx hb dX3_part_165 rfl (lv_at hl 0 rfl) ?_
            refine va_get (D := (dC, dI)) (ci := 3) (v := .int (nI (mTn w1))) (C := RX3) (T := TX3) (N := 11) hx hb hts (by decide +kernel) hown hK hP 0 rfl rfl 3 (by decide) (hts (.fieldLink RX3 112 "TriangleSheetModel" "there" "I") (by decide +kernel)) (fun _ h9 => h9) rfl dX3_part_166 ?_
            refine lv_iconst (v := nI (2)) hx hb dX3_part_169 (by decide) ?_
            refine lv_iadd hx hb dX3_part_170 ?_
            refine rt_i (y := (nI (mTn w1 + 2))) (nn_add (mTn w1) (2)) ?_
            refine lv_bipush (v := nI (60)) hx hb dX3_part_171 (by decide) ?_
            refine lv_icmp_gt (tgt := 188) hx hb dX3_part_173 (by decide) (fun c_10 => ?_) (fun c_10 => ?_)
            · skip
              have c_10 : 60 < mTn w1 + 2 := (nI_ltI (a := 60) (b := mTn w1 + 2) (by omega) (by omega)).mp c_10
              refine lv_iconst (v := nI (3)) hx hb dX3_part_188 (by decide) ?_
              refine lv_goto (tgt := 193) hx hb dX3_part_189 (by decide) ?_
              refine va_put (D := (dC, dI)) (ci := 3) (v := .int (nI (3))) (ty := .int) (C := RX3) (T := TX3) (N := 11) hx hb hts (by decide +kernel) tyX3 tyX3_ok nmX3 hown hK hP hD hS 0 rfl rfl 0 (by decide) (hts (.fieldLink RX3 33 "TriangleSheetModel" "thrown" "I") (by decide +kernel)) (fun _ h9 => h9) rfl (by decide +kernel) rfl rfl (Nat.le_of_ble_eq_true rfl) dX3_part_193 (fun H locs hP hD hS => ?_)
              have hP : va_P (dC, dI) vwCl (wM cI cZ b (((w1.1.1, w1.1.2.1, w1.1.2.2), nI (3), mPn w1, mTm w1, mTn w1, mIs w1, mFi w1, mSe w1, mMk w1))) H := hP
              have hD : va_D (inW (wM cI cZ b w)) (wM cI cZ b (((w1.1.1, w1.1.2.1, w1.1.2.2), nI (3), mPn w1, mTm w1, mTn w1, mIs w1, mFi w1, mSe w1, mMk w1))) := hD
              refine lv_aload_n hx hb dX3_part_196 rfl (lv_at hl 0 rfl) ?_
              refine va_get (D := (dC, dI)) (ci := 3) (v := .int (nI (3))) (C := RX3) (T := TX3) (N := 11) hx hb hts (by decide +kernel) hown hK hP 0 rfl rfl 0 (by decide) (hts (.fieldLink RX3 33 "TriangleSheetModel" "thrown" "I") (by decide +kernel)) (fun _ h9 => h9) rfl dX3_part_197 ?_
              refine lv_if_le (tgt := 205) hx hb dX3_part_200 (by decide) (fun c_11 => absurd c_11 (by decide)) (fun c_11 => ?_)
              refine lv_iconst (v := nI (0)) hx hb dX3_part_203 (by decide) ?_
              exact wr_iret hx hb hr hP hS rfl rfl dX3_part_204 hlocks
            · skip
              have c_10 : ¬ (60 < mTn w1 + 2) := fun hq9 => c_10 ((nI_ltI (a := 60) (b := mTn w1 + 2) (by omega) (by omega)).mpr hq9)
              refine lv_aload_n hx hb dX3_part_176 rfl (lv_at hl 0 rfl) ?_
              refine va_get (D := (dC, dI)) (ci := 3) (v := .int (nI (mTm w1))) (C := RX3) (T := TX3) (N := 11) hx hb hts (by decide +kernel) hown hK hP 0 rfl rfl 2 (by decide) (hts (.fieldLink RX3 43 "TriangleSheetModel" "came" "I") (by decide +kernel)) (fun _ h9 => h9) rfl dX3_part_177 ?_
              refine lv_iconst (v := nI (2)) hx hb dX3_part_180 (by decide) ?_
              refine lv_iadd hx hb dX3_part_181 ?_
              refine rt_i (y := (nI (mTm w1 + 2))) (nn_add (mTm w1) (2)) ?_
              refine lv_sipush (v := nI (200)) hx hb dX3_part_182 (by decide) ?_
              refine lv_icmp_le (tgt := 192) hx hb dX3_part_185 (by decide) (fun c_12 => ?_) (fun c_12 => ?_)
              · skip
                have c_12 : mTm w1 + 2 ≤ 200 := (nI_leI (a := mTm w1 + 2) (b := 200) (by omega) (by omega)).mp c_12
                exact absurd (he (by assumption)) (by omega)
              · skip
                have c_12 : ¬ (mTm w1 + 2 ≤ 200) := fun hq9 => c_12 ((nI_leI (a := mTm w1 + 2) (b := 200) (by omega) (by omega)).mpr hq9)
                refine lv_iconst (v := nI (3)) hx hb dX3_part_188 (by decide) ?_
                refine lv_goto (tgt := 193) hx hb dX3_part_189 (by decide) ?_
                refine va_put (D := (dC, dI)) (ci := 3) (v := .int (nI (3))) (ty := .int) (C := RX3) (T := TX3) (N := 11) hx hb hts (by decide +kernel) tyX3 tyX3_ok nmX3 hown hK hP hD hS 0 rfl rfl 0 (by decide) (hts (.fieldLink RX3 33 "TriangleSheetModel" "thrown" "I") (by decide +kernel)) (fun _ h9 => h9) rfl (by decide +kernel) rfl rfl (Nat.le_of_ble_eq_true rfl) dX3_part_193 (fun H locs hP hD hS => ?_)
                have hP : va_P (dC, dI) vwCl (wM cI cZ b (((w1.1.1, w1.1.2.1, w1.1.2.2), nI (3), mPn w1, mTm w1, mTn w1, mIs w1, mFi w1, mSe w1, mMk w1))) H := hP
                have hD : va_D (inW (wM cI cZ b w)) (wM cI cZ b (((w1.1.1, w1.1.2.1, w1.1.2.2), nI (3), mPn w1, mTm w1, mTn w1, mIs w1, mFi w1, mSe w1, mMk w1))) := hD
                refine lv_aload_n hx hb dX3_part_196 rfl (lv_at hl 0 rfl) ?_
                refine va_get (D := (dC, dI)) (ci := 3) (v := .int (nI (3))) (C := RX3) (T := TX3) (N := 11) hx hb hts (by decide +kernel) hown hK hP 0 rfl rfl 0 (by decide) (hts (.fieldLink RX3 33 "TriangleSheetModel" "thrown" "I") (by decide +kernel)) (fun _ h9 => h9) rfl dX3_part_197 ?_
                refine lv_if_le (tgt := 205) hx hb dX3_part_200 (by decide) (fun c_13 => absurd c_13 (by decide)) (fun c_13 => ?_)
                refine lv_iconst (v := nI (0)) hx hb dX3_part_203 (by decide) ?_
                exact wr_iret hx hb hr hP hS rfl rfl dX3_part_204 hlocks
      · skip
        have c_4 : (b2) = false := bI_f c_4
        exact absurd c_4 (by have e9 : (inB (nI x) 512 && inB (nI y) 512) = true := (by rw [inB_nI (by omega), inB_nI (by omega)]; simp; omega); rw [e9, hd, show k = 0 by omega] at hi; simp [alf] at hi; simp [hi])
    · skip
      have c_3 : ¬ (3 ≤ n) := fun hq9 => c_3 ((nI_leI (a := 3) (b := n) (by omega) (by omega)).mpr hq9)
      refine lv_iload hx hb dX3_part_46 (lv_at hl 5 rfl) ?_
      refine lv_if_eq (tgt := 127) hx hb dX3_part_48 (by decide) (fun c_14 => ?_) (fun c_14 => ?_)
      · skip
        have c_14 : (b2) = false := bI_f c_14
        refine lv_iconst (v := nI (0)) hx hb dX3_part_127 (by decide) ?_
        refine lv_istore (lv' := [(5, .int (nI (0))), (0, .ref (b 0)), (1, .int (nI (t))), (2, .int (nI (x))), (3, .int (nI (y))), (4, .int (nI (t))), (6, .int (nI (n)))]) hx hb dX3_part_128 hl (by decide) rfl (fun ls hl => ?_)
        refine lv_iinc (v := nI (n + 1)) (lv' := [(6, .int (nI (n + 1))), (5, .int (nI (0))), (0, .ref (b 0)), (1, .int (nI (t))), (2, .int (nI (x))), (3, .int (nI (y))), (4, .int (nI (t)))]) hx hb dX3_part_130 hl (k := 6) rfl (nI_1 (n)) (by decide) rfl (fun ls hl => ?_)
        refine lv_goto (tgt := 40) hx hb dX3_part_133 (by decide) ?_
        exact ih_k (k - 1) (n + 1, false) ls _ _ (by omega) ⟨by omega, by rw [hi, alf_s (by omega)]; first | (simp [c_1, c_3, c_14]; done) | (have e9 : decide (0 < tbe w1.1 t n (x : Int) (y : Int)) = false := (by simp; omega); simp [e9]; done) | (have e9 : decide (0 < tbe w1.1 t n (x : Int) (y : Int)) = true := (by simp; omega); simp [e9, c_1, c_3, c_14])⟩ (lv_sub hl [2, 3, 4, 5, 6, 1, 0] rfl) hP hD hS
      · skip
        have c_14 : (b2) = true := bI_t c_14
        refine lv_aload_n hx hb dX3_part_51 rfl (lv_at hl 0 rfl) ?_
        refine va_get (D := (dC, dI)) (ci := 3) (v := .ref (b 1)) (C := RX3) (T := TX3) (N := 11) hx hb hts (by decide +kernel) hown hK hP 0 rfl rfl 4 (by decide) (hts (.fieldLink RX3 7 "TriangleSheetModel" "px" "[I") (by decide +kernel)) (fun _ h9 => h9) rfl dX3_part_52 ?_
        refine lv_aload_n hx hb dX3_part_55 rfl (lv_at hl 0 rfl) ?_
        refine lv_iload hx hb dX3_part_56 (lv_at hl 4 rfl) ?_
        refine lv_iload hx hb dX3_part_58 (lv_at hl 6 rfl) ?_
        refine ro_V (As := [.int (nI (t)), .int (nI (n))]) (rest := [.ref (b 1)]) (q0 := 0) (ci := 3) hx hb hml hown hts (c_X3_at l dC dI cI cL cZ b w1 t n (by omega) (by omega)) (cwV 2 hts gX3_part_X3_at rfl rfl rfl (by decide +kernel) ⟨Nat.le_of_ble_eq_true rfl, Nat.le_of_ble_eq_true rfl⟩) hK hP rfl rfl rfl hl.1 rfl (Nat.le_of_ble_eq_true rfl) dX3_part_60 ⟨Nat.zero_le _, Nat.zero_le _⟩ ?_
        refine ia_ld (k := gc w1.1 t n) hx hb hK hP 1 0 rfl rfl (by omega) (by decide) dX3_part_63 ?_
        refine W.eq (g2 := F0 m 64 ls [.int (nI (w1.1.1 (gc w1.1 t n)))]) rfl ?_
        have bd_15 := hv.1.1 (gc w1.1 t n)
        refine lv_i2l (v := lI (((w1.1.1 (gc w1.1 t n) : Nat) : Int))) hx hb dX3_part_64 (nzI_l (by omega)) ?_
        refine lv_aload_n hx hb dX3_part_65 rfl (lv_at hl 0 rfl) ?_
        refine va_get (D := (dC, dI)) (ci := 3) (v := .ref (b 2)) (C := RX3) (T := TX3) (N := 11) hx hb hts (by decide +kernel) hown hK hP 0 rfl rfl 5 (by decide) (hts (.fieldLink RX3 13 "TriangleSheetModel" "py" "[I") (by decide +kernel)) (fun _ h9 => h9) rfl dX3_part_66 ?_
        refine lv_aload_n hx hb dX3_part_69 rfl (lv_at hl 0 rfl) ?_
        refine lv_iload hx hb dX3_part_70 (lv_at hl 4 rfl) ?_
        refine lv_iload hx hb dX3_part_72 (lv_at hl 6 rfl) ?_
        refine ro_V (As := [.int (nI (t)), .int (nI (n))]) (rest := [.ref (b 2), .long (lI (((w1.1.1 (gc w1.1 t n) : Nat) : Int)))]) (q0 := 0) (ci := 3) hx hb hml hown hts (c_X3_at l dC dI cI cL cZ b w1 t n (by omega) (by omega)) (cwV 2 hts gX3_part_X3_at rfl rfl rfl (by decide +kernel) ⟨Nat.le_of_ble_eq_true rfl, Nat.le_of_ble_eq_true rfl⟩) hK hP rfl rfl rfl hl.1 rfl (Nat.le_of_ble_eq_true rfl) dX3_part_74 ⟨Nat.zero_le _, Nat.zero_le _⟩ ?_
        refine ia_ld (k := gc w1.1 t n) hx hb hK hP 2 0 rfl rfl (by omega) (by decide) dX3_part_77 ?_
        refine W.eq (g2 := F0 m 78 ls [.int (nI (w1.1.2.1 (gc w1.1 t n))), .long (lI (((w1.1.1 (gc w1.1 t n) : Nat) : Int)))]) rfl ?_
        have bd_16 := hv.1.2.1 (gc w1.1 t n)
        refine lv_i2l (v := lI (((w1.1.2.1 (gc w1.1 t n) : Nat) : Int))) hx hb dX3_part_78 (nzI_l (by omega)) ?_
        refine lv_aload_n hx hb dX3_part_79 rfl (lv_at hl 0 rfl) ?_
        refine va_get (D := (dC, dI)) (ci := 3) (v := .ref (b 1)) (C := RX3) (T := TX3) (N := 11) hx hb hts (by decide +kernel) hown hK hP 0 rfl rfl 4 (by decide) (hts (.fieldLink RX3 7 "TriangleSheetModel" "px" "[I") (by decide +kernel)) (fun _ h9 => h9) rfl dX3_part_80 ?_
        refine lv_aload_n hx hb dX3_part_83 rfl (lv_at hl 0 rfl) ?_
        refine lv_iload hx hb dX3_part_84 (lv_at hl 4 rfl) ?_
        refine lv_iload hx hb dX3_part_86 (lv_at hl 6 rfl) ?_
        refine lv_iconst (v := nI (1)) hx hb dX3_part_88 (by decide) ?_
        refine lv_iadd hx hb dX3_part_89 ?_
        refine rt_i (y := (nI (n + 1))) (nn_add (n) (1)) ?_
        refine ro_V (As := [.int (nI (t)), .int (nI (n + 1))]) (rest := [.ref (b 1), .long (lI (((w1.1.2.1 (gc w1.1 t n) : Nat) : Int))), .long (lI (((w1.1.1 (gc w1.1 t n) : Nat) : Int)))]) (q0 := 0) (ci := 3) hx hb hml hown hts (c_X3_at l dC dI cI cL cZ b w1 t (n + 1) (by omega) (by omega)) (cwV 2 hts gX3_part_X3_at rfl rfl rfl (by decide +kernel) ⟨Nat.le_of_ble_eq_true rfl, Nat.le_of_ble_eq_true rfl⟩) hK hP rfl rfl rfl hl.1 rfl (Nat.le_of_ble_eq_true rfl) dX3_part_90 ⟨Nat.zero_le _, Nat.zero_le _⟩ ?_
        refine ia_ld (k := gc w1.1 t (n + 1)) hx hb hK hP 1 0 rfl rfl (by omega) (by decide) dX3_part_93 ?_
        refine W.eq (g2 := F0 m 94 ls [.int (nI (w1.1.1 (gc w1.1 t (n + 1)))), .long (lI (((w1.1.2.1 (gc w1.1 t n) : Nat) : Int))), .long (lI (((w1.1.1 (gc w1.1 t n) : Nat) : Int)))]) rfl ?_
        have bd_17 := hv.1.1 (gc w1.1 t (n + 1))
        refine lv_i2l (v := lI (((w1.1.1 (gc w1.1 t (n + 1)) : Nat) : Int))) hx hb dX3_part_94 (nzI_l (by omega)) ?_
        refine lv_aload_n hx hb dX3_part_95 rfl (lv_at hl 0 rfl) ?_
        refine va_get (D := (dC, dI)) (ci := 3) (v := .ref (b 2)) (C := RX3) (T := TX3) (N := 11) hx hb hts (by decide +kernel) hown hK hP 0 rfl rfl 5 (by decide) (hts (.fieldLink RX3 13 "TriangleSheetModel" "py" "[I") (by decide +kernel)) (fun _ h9 => h9) rfl dX3_part_96 ?_
        refine lv_aload_n hx hb dX3_part_99 rfl (lv_at hl 0 rfl) ?_
        refine lv_iload hx hb dX3_part_100 (lv_at hl 4 rfl) ?_
        refine lv_iload hx hb dX3_part_102 (lv_at hl 6 rfl) ?_
        refine lv_iconst (v := nI (1)) hx hb dX3_part_104 (by decide) ?_
        refine lv_iadd hx hb dX3_part_105 ?_
        refine rt_i (y := (nI (n + 1))) (nn_add (n) (1)) ?_
        refine ro_V (As := [.int (nI (t)), .int (nI (n + 1))]) (rest := [.ref (b 2), .long (lI (((w1.1.1 (gc w1.1 t (n + 1)) : Nat) : Int))), .long (lI (((w1.1.2.1 (gc w1.1 t n) : Nat) : Int))), .long (lI (((w1.1.1 (gc w1.1 t n) : Nat) : Int)))]) (q0 := 0) (ci := 3) hx hb hml hown hts (c_X3_at l dC dI cI cL cZ b w1 t (n + 1) (by omega) (by omega)) (cwV 2 hts gX3_part_X3_at rfl rfl rfl (by decide +kernel) ⟨Nat.le_of_ble_eq_true rfl, Nat.le_of_ble_eq_true rfl⟩) hK hP rfl rfl rfl hl.1 rfl (Nat.le_of_ble_eq_true rfl) dX3_part_106 ⟨Nat.zero_le _, Nat.zero_le _⟩ ?_
        refine ia_ld (k := gc w1.1 t (n + 1)) hx hb hK hP 2 0 rfl rfl (by omega) (by decide) dX3_part_109 ?_
        refine W.eq (g2 := F0 m 110 ls [.int (nI (w1.1.2.1 (gc w1.1 t (n + 1)))), .long (lI (((w1.1.1 (gc w1.1 t (n + 1)) : Nat) : Int))), .long (lI (((w1.1.2.1 (gc w1.1 t n) : Nat) : Int))), .long (lI (((w1.1.1 (gc w1.1 t n) : Nat) : Int)))]) rfl ?_
        have bd_18 := hv.1.2.1 (gc w1.1 t (n + 1))
        refine lv_i2l (v := lI (((w1.1.2.1 (gc w1.1 t (n + 1)) : Nat) : Int))) hx hb dX3_part_110 (nzI_l (by omega)) ?_
        refine lv_iload_n hx hb dX3_part_111 rfl (lv_at hl 2 rfl) ?_
        refine lv_i2l (v := lI (((x : Nat) : Int))) hx hb dX3_part_112 (nzI_l (by omega)) ?_
        refine lv_iload_n hx hb dX3_part_113 rfl (lv_at hl 3 rfl) ?_
        refine lv_i2l (v := lI (((y : Nat) : Int))) hx hb dX3_part_114 (nzI_l (by omega)) ?_
        refine ro_S (As := [.long (lI (((w1.1.1 (gc w1.1 t n) : Nat) : Int))), .long (lI (((w1.1.2.1 (gc w1.1 t n) : Nat) : Int))), .long (lI (((w1.1.1 (gc w1.1 t (n + 1)) : Nat) : Int))), .long (lI (((w1.1.2.1 (gc w1.1 t (n + 1)) : Nat) : Int))), .long (lI (((x : Nat) : Int))), .long (lI (((y : Nat) : Int)))]) (rest := []) hx hb hml hown hts (c_X3_turnOf l dC dI  (((w1.1.1 (gc w1.1 t n) : Nat) : Int)) (((w1.1.2.1 (gc w1.1 t n) : Nat) : Int)) (((w1.1.1 (gc w1.1 t (n + 1)) : Nat) : Int)) (((w1.1.2.1 (gc w1.1 t (n + 1)) : Nat) : Int)) (((x : Nat) : Int)) (((y : Nat) : Int)) ) (va_cwS 6 hts gX3_part_X3_turnOf rfl rfl rfl (by decide +kernel) ⟨Nat.le_of_ble_eq_true rfl, Nat.le_of_ble_eq_true rfl⟩) (hK.sub [] rfl) (hP.sub [] rfl) rfl hl.1 rfl (Nat.le_of_ble_eq_true rfl) dX3_part_115 ⟨Nat.zero_le _, Nat.zero_le _⟩ ?_
        refine rt_l (y := (lI (tbe w1.1 t (n) (x : Int) (y : Int)))) rfl ?_
        refine lv_lconst (v := lI 0) hx hb dX3_part_118 (by decide) ?_
        refine W.lcmp hx hb dX3_part_119 ?_
        refine lv_if_le (tgt := 127) hx hb dX3_part_120 (by decide) (fun c_19 => ?_) (fun c_19 => ?_)
        · skip
          have c_19 : (tbe w1.1 t (n) (x : Int) (y : Int)) ≤ 0 := (lc_le (a := tbe w1.1 t (n) (x : Int) (y : Int)) (b := 0) (tat_lok hv.1 (zOkN (by omega)) (zOkN (by omega))) lOk_0).mp c_19
          refine lv_iconst (v := nI (0)) hx hb dX3_part_127 (by decide) ?_
          refine lv_istore (lv' := [(5, .int (nI (0))), (0, .ref (b 0)), (1, .int (nI (t))), (2, .int (nI (x))), (3, .int (nI (y))), (4, .int (nI (t))), (6, .int (nI (n)))]) hx hb dX3_part_128 hl (by decide) rfl (fun ls hl => ?_)
          refine lv_iinc (v := nI (n + 1)) (lv' := [(6, .int (nI (n + 1))), (5, .int (nI (0))), (0, .ref (b 0)), (1, .int (nI (t))), (2, .int (nI (x))), (3, .int (nI (y))), (4, .int (nI (t)))]) hx hb dX3_part_130 hl (k := 6) rfl (nI_1 (n)) (by decide) rfl (fun ls hl => ?_)
          refine lv_goto (tgt := 40) hx hb dX3_part_133 (by decide) ?_
          exact ih_k (k - 1) (n + 1, false) ls _ _ (by omega) ⟨by omega, by rw [hi, alf_s (by omega)]; first | (simp [c_1, c_3, c_14, c_19]; done) | (have e9 : decide (0 < tbe w1.1 t n (x : Int) (y : Int)) = false := (by simp; omega); simp [e9]; done) | (have e9 : decide (0 < tbe w1.1 t n (x : Int) (y : Int)) = true := (by simp; omega); simp [e9, c_1, c_3, c_14, c_19])⟩ (lv_sub hl [2, 3, 4, 5, 6, 1, 0] rfl) hP hD hS
        · skip
          have c_19 : ¬ ((tbe w1.1 t (n) (x : Int) (y : Int)) ≤ 0) := fun hq9 => c_19 ((lc_le (a := tbe w1.1 t (n) (x : Int) (y : Int)) (b := 0) (tat_lok hv.1 (zOkN (by omega)) (zOkN (by omega))) lOk_0).mpr hq9)
          refine lv_iconst (v := nI (1)) hx hb dX3_part_123 (by decide) ?_
          refine lv_goto (tgt := 128) hx hb dX3_part_124 (by decide) ?_
          refine lv_istore (lv' := [(5, .int (nI (1))), (0, .ref (b 0)), (1, .int (nI (t))), (2, .int (nI (x))), (3, .int (nI (y))), (4, .int (nI (t))), (6, .int (nI (n)))]) hx hb dX3_part_128 hl (by decide) rfl (fun ls hl => ?_)
          refine lv_iinc (v := nI (n + 1)) (lv' := [(6, .int (nI (n + 1))), (5, .int (nI (1))), (0, .ref (b 0)), (1, .int (nI (t))), (2, .int (nI (x))), (3, .int (nI (y))), (4, .int (nI (t)))]) hx hb dX3_part_130 hl (k := 6) rfl (nI_1 (n)) (by decide) rfl (fun ls hl => ?_)
          refine lv_goto (tgt := 40) hx hb dX3_part_133 (by decide) ?_
          exact ih_k (k - 1) (n + 1, true) ls _ _ (by omega) ⟨by omega, by rw [hi, alf_s (by omega)]; first | (simp [c_1, c_3, c_14, c_19]; done) | (have e9 : decide (0 < tbe w1.1 t n (x : Int) (y : Int)) = false := (by simp; omega); simp [e9]; done) | (have e9 : decide (0 < tbe w1.1 t n (x : Int) (y : Int)) = true := (by simp; omega); simp [e9, c_1, c_3, c_14, c_19])⟩ (lv_sub hl [2, 3, 4, 5, 6, 1, 0] rfl) hP hD hS
set_option maxHeartbeats 4000000 in
set_option maxRecDepth 100000 in
theorem c_X3_part_0 (l : Launch) (dC : Nat → ClassId) (dI : Nat → Nat → Nat) (cI cL cZ : ClassId) (b : Nat → Nat) (w : MV) (t x y : Nat) (hv : okM w) (ht : t < 200) (hx9 : x < 512) (hy9 : y < 512) (hc : mth (mThx w (nI 0)) (nI t) = true) (hd : wit (mThx w (nI 0)).1 t (x : Int) (y : Int) = true) (he : pAt (mThx w (nI 0)).1 (mPn (mThx w (nI 0))) (nI x) (nI y) = none ∧ mPn (mThx w (nI 0)) < 60 ∧ mTn (mThx w (nI 0)) + 2 ≤ 60 ∧ mTm (mThx w (nI 0)) + 2 ≤ 200) : Met l yX3_part wsX3_part ({ frames := 3, cells := 0, slots := 0, locals := 64 }) (va_Pc [.ref (b 0), .int (nI (t)), .int (nI (x)), .int (nI (y))] (wr_B (dC, dI) vwCl (wM cI cZ b w) (tyS cI cL cZ))) (wr_Q (some (.int (nI (mPn (mThx w (nI 0)))))) (dC, dI) vwCl (wM cI cZ b w) (wM cI cZ b (mPar (mThx w (nI 0)) t x y))) 0 0 (inW (wM cI cZ b w)) := by
  refine wr_Met (cc := cX3_part) (maxL := 12) (ret := (some .int)) (by decide) rfl (Nat.le_of_ble_eq_true rfl) ?_
  intro pr en s m below meth co ls hx hb hml hr hlocks hown hts hP hK hD hS hl
  have hl : lv_has ls 12 [(0, .ref (b 0)), (1, .int (nI (t))), (2, .int (nI (x))), (3, .int (nI (y)))] := hl
  have hown : s.vm.findClass RX3 = some m.cls := hown
  have hvp : mPn w ≤ 60 ∧ mTm w ≤ 200 ∧ mTn w ≤ 60 := ⟨hv.2.1, hv.2.2.1, hv.2.2.2.1⟩
  refine lv_iload_n hx hb dX3_part_0 rfl (lv_at hl 1 rfl) ?_
  refine lv_istore (lv' := [(4, .int (nI (t))), (0, .ref (b 0)), (1, .int (nI (t))), (2, .int (nI (x))), (3, .int (nI (y)))]) hx hb dX3_part_1 hl (by decide) rfl (fun ls hl => ?_)
  refine lv_aload_n hx hb dX3_part_3 rfl (lv_at hl 1 rfl) ?_
  refine lv_aload_n hx hb dX3_part_4 rfl (lv_at hl 1 rfl) ?_
  refine lv_iload hx hb dX3_part_5 (lv_at hl 0 rfl) ?_
  refine ro_V (As := [.int (nI (t))]) (rest := [.ref (b 0)]) (q0 := 0) (ci := 3) hx hb hml hown hts (c_X3_isThere l dC dI cI cL cZ b w (nI (t)) hv) (cwV 1 hts gX3_part_X3_isThere rfl rfl rfl (by decide +kernel) ⟨Nat.le_of_ble_eq_true rfl, Nat.le_of_ble_eq_true rfl⟩) hK hP rfl rfl rfl hl.1 rfl (Nat.le_of_ble_eq_true rfl) dX3_part_7 ⟨Nat.zero_le _, Nat.zero_le _⟩ ?_
  refine lv_if_eq (tgt := 17) hx hb dX3_part_10 (by decide) (fun c_1 => ?_) (fun c_1 => ?_)
  · skip
    have c_1 : (mth w (nI (t))) = false := bI_f c_1
    exact absurd c_1 (by rw [show mth w (nI t) = true from hc]; decide)
  · skip
    have c_1 : (mth w (nI (t))) = true := bI_t c_1
    refine lv_iconst (v := nI (0)) hx hb dX3_part_13 (by decide) ?_
    refine lv_goto (tgt := 18) hx hb dX3_part_14 (by decide) ?_
    refine va_put (D := (dC, dI)) (ci := 3) (v := .int (nI (0))) (ty := .int) (C := RX3) (T := TX3) (N := 11) hx hb hts (by decide +kernel) tyX3 tyX3_ok nmX3 hown hK hP hD hS 0 rfl rfl 0 (by decide) (hts (.fieldLink RX3 33 "TriangleSheetModel" "thrown" "I") (by decide +kernel)) (fun _ h9 => h9) rfl (by decide +kernel) rfl rfl (Nat.le_of_ble_eq_true rfl) dX3_part_18 (fun H locs hP hD hS => ?_)
    have hP : va_P (dC, dI) vwCl (wM cI cZ b (((w.1.1, w.1.2.1, w.1.2.2), nI (0), mPn w, mTm w, mTn w, mIs w, mFi w, mSe w, mMk w))) H := hP
    have hD : va_D (inW (wM cI cZ b w)) (wM cI cZ b (((w.1.1, w.1.2.1, w.1.2.2), nI (0), mPn w, mTm w, mTn w, mIs w, mFi w, mSe w, mMk w))) := hD
    refine lv_aload_n hx hb dX3_part_21 rfl (lv_at hl 1 rfl) ?_
    refine va_get (D := (dC, dI)) (ci := 3) (v := .int (nI (0))) (C := RX3) (T := TX3) (N := 11) hx hb hts (by decide +kernel) hown hK hP 0 rfl rfl 0 (by decide) (hts (.fieldLink RX3 33 "TriangleSheetModel" "thrown" "I") (by decide +kernel)) (fun _ h9 => h9) rfl dX3_part_22 ?_
    refine lv_if_le (tgt := 30) hx hb dX3_part_25 (by decide) (fun c_2 => ?_) (fun c_2 => absurd (by decide) c_2)
    have hP : va_P (dC, dI) vwCl (wM cI cZ b (mThx w (nI 0))) H := hP
    have hD : va_D (inW (wM cI cZ b w)) (wM cI cZ b (mThx w (nI 0))) := hD
    have hv : okM (mThx w (nI 0)) := hv
    generalize mThx w (nI 0) = w1 at hP hD hv hc hd he ⊢
    have hvp : mPn w1 ≤ 60 ∧ mTm w1 ≤ 200 ∧ mTn w1 ≤ 60 := ⟨hv.2.1, hv.2.2.1, hv.2.2.2.1⟩
    refine lv_iload_n hx hb dX3_part_30 rfl (lv_at hl 3 rfl) ?_
    refine lv_iload_n hx hb dX3_part_31 rfl (lv_at hl 4 rfl) ?_
    refine ro_S (As := [.int (nI (x)), .int (nI (y))]) (rest := []) hx hb hml hown hts (c_X3_isPlace l dC dI  (nI (x)) (nI (y)) ) (va_cwS 2 hts gX3_part_X3_isPlace rfl rfl rfl (by decide +kernel) ⟨Nat.le_of_ble_eq_true rfl, Nat.le_of_ble_eq_true rfl⟩) (hK.sub [] rfl) (hP.sub [] rfl) rfl hl.1 rfl (Nat.le_of_ble_eq_true rfl) dX3_part_32 ⟨Nat.zero_le _, Nat.zero_le _⟩ ?_
    refine lv_istore (lv' := [(5, .int (bI (inB (nI (x)) 512 && inB (nI (y)) 512))), (4, .int (nI (t))), (0, .ref (b 0)), (1, .int (nI (t))), (2, .int (nI (x))), (3, .int (nI (y)))]) hx hb dX3_part_35 hl (by decide) rfl (fun ls hl => ?_)
    refine lv_iconst (v := nI (0)) hx hb dX3_part_37 (by decide) ?_
    refine lv_istore (lv' := [(6, .int (nI (0))), (5, .int (bI (inB (nI (x)) 512 && inB (nI (y)) 512))), (4, .int (nI (t))), (0, .ref (b 0)), (1, .int (nI (t))), (2, .int (nI (x))), (3, .int (nI (y)))]) hx hb dX3_part_38 hl (by decide) rfl (fun ls hl => ?_)
    refine lpW (σ := Nat × Bool) (LV := fun (n, b2) => [(0, .ref (b 0)), (1, .int (nI (t))), (2, .int (nI (x))), (3, .int (nI (y))), (4, .int (nI (t))), (5, .int (bI (b2))), (6, .int (nI (n)))]) (WS := fun (n, b2) => wM cI cZ b w1) (I := fun k (n, b2) => n + k = 3 ∧ ((inB (nI x) 512 && inB (nI y) 512) && wit w1.1 t (x : Int) (y : Int)) = (b2 && alf (fun k => decide (0 < tbe w1.1 t k (x : Int) (y : Int))) k n)) (fun k (n, b2) ls H locs hI_k hl hP hD hS ih_k => ?_) (3) (0, (inB (nI x) 512 && inB (nI y) 512)) ls _ _ ⟨by omega, rfl⟩ (lv_sub hl [3, 4, 5, 6, 2, 1, 0] rfl) hP hD hS
    obtain ⟨hk, hi⟩ := hI_k
    have hP : va_P (dC, dI) vwCl (wM cI cZ b w1) H := hP
    have hD : va_D (inW (wM cI cZ b w)) (wM cI cZ b w1) := hD
    have hg0 := gc_lt hv.1 (t := t) (k := n)
    have hg1 := gc_lt hv.1 (t := t) (k := n + 1)
    refine lv_iload hx hb dX3_part_40 (lv_at hl 6 rfl) ?_
    refine lv_iconst (v := nI (3)) hx hb dX3_part_42 (by decide) ?_
    refine lv_icmp_ge (tgt := 136) hx hb dX3_part_43 (by decide) (fun c_3 => ?_) (fun c_3 => ?_)
    · skip
      have c_3 : 3 ≤ n := (nI_leI (a := 3) (b := n) (by omega) (by omega)).mp c_3
      refine lv_aload_n hx hb dX3_part_136 rfl (lv_at hl 0 rfl) ?_
      refine lv_iload hx hb dX3_part_137 (lv_at hl 5 rfl) ?_
      refine lv_if_ne (tgt := 146) hx hb dX3_part_139 (by decide) (fun c_4 => ?_) (fun c_4 => ?_)
      · skip
        have c_4 : (b2) = true := bI_t c_4
        refine lv_aload_n hx hb dX3_part_146 rfl (lv_at hl 0 rfl) ?_
        refine lv_iload_n hx hb dX3_part_147 rfl (lv_at hl 2 rfl) ?_
        refine lv_iload_n hx hb dX3_part_148 rfl (lv_at hl 3 rfl) ?_
        refine ro_V (As := [.int (nI (x)), .int (nI (y))]) (rest := [.ref (b 0)]) (q0 := 0) (ci := 3) hx hb hml hown hts (c_X3_pointAt l dC dI cI cL cZ b w1 (nI (x)) (nI (y)) hv) (cwV 2 hts gX3_part_X3_pointAt rfl rfl rfl (by decide +kernel) ⟨Nat.le_of_ble_eq_true rfl, Nat.le_of_ble_eq_true rfl⟩) hK hP rfl rfl rfl hl.1 rfl (Nat.le_of_ble_eq_true rfl) dX3_part_149 ⟨Nat.zero_le _, Nat.zero_le _⟩ ?_
        have ps_5 : ∀ k, pAt w1.1 (mPn w1) (nI (x)) (nI (y)) = some k → k < 2 ^ 31 := fun k h => by have := pAt_lt h; omega
        refine lv_iconst (v := iI (-1)) hx hb dX3_part_152 (by decide) ?_
        refine lv_icmp_ne (tgt := 188) hx hb dX3_part_153 (by decide) (fun c_6 => ?_) (fun c_6 => ?_)
        · skip
          have c_6 : ¬ (pAt w1.1 (mPn w1) (nI (x)) (nI (y))) = none := fun hq9 => c_6 ((oI_m1 (by assumption)).mpr hq9)
          exact absurd he.1 c_6
        · skip
          have c_6 : (pAt w1.1 (mPn w1) (nI (x)) (nI (y))) = none := (oI_m1 (by assumption)).mp c_6
          refine lv_aload_n hx hb dX3_part_156 rfl (lv_at hl 0 rfl) ?_
          refine va_get (D := (dC, dI)) (ci := 3) (v := .int (nI (mPn w1))) (C := RX3) (T := TX3) (N := 11) hx hb hts (by decide +kernel) hown hK hP 0 rfl rfl 1 (by decide) (hts (.fieldLink RX3 40 "TriangleSheetModel" "points" "I") (by decide +kernel)) (fun _ h9 => h9) rfl dX3_part_157 ?_
          refine lv_bipush (v := nI (60)) hx hb dX3_part_160 (by decide) ?_
          refine lv_icmp_eq (tgt := 188) hx hb dX3_part_162 (by decide) (fun c_7 => ?_) (fun c_7 => ?_)
          · skip
            have c_7 : mPn w1 = 60 := (nI_eq (a := mPn w1) (b := 60) (by omega) (by omega)).mp c_7
            omega
          · skip
            have c_7 : ¬ (mPn w1 = 60) := fun hq9 => c_7 ((nI_eq (a := mPn w1) (b := 60) (by omega) (by omega)).mpr hq9)
            refine lv_aload_n hx hb dX3_part_165 rfl (lv_at hl 0 rfl) ?_
            refine va_get (D := (dC, dI)) (ci := 3) (v := .int (nI (mTn w1))) (C := RX3) (T := TX3) (N := 11) hx hb hts (by decide +kernel) hown hK hP 0 rfl rfl 3 (by decide) (hts (.fieldLink RX3 112 "TriangleSheetModel" "there" "I") (by decide +kernel)) (fun _ h9 => h9) rfl dX3_part_166 ?_
            refine lv_iconst (v := nI (2)) hx hb dX3_part_169 (by decide) ?_
            refine lv_iadd hx hb dX3_part_170 ?_
            refine rt_i (y := (nI (mTn w1 + 2))) (nn_add (mTn w1) (2)) ?_
            refine lv_bipush (v := nI (60)) hx hb dX3_part_171 (by decide) ?_
            refine lv_icmp_gt (tgt := 188) hx hb dX3_part_173 (by decide) (fun c_8 => ?_) (fun c_8 => ?_)
            · skip
              have c_8 : 60 < mTn w1 + 2 := (nI_ltI (a := 60) (b := mTn w1 + 2) (by omega) (by omega)).mp c_8
              omega
            · skip
              have c_8 : ¬ (60 < mTn w1 + 2) := fun hq9 => c_8 ((nI_ltI (a := 60) (b := mTn w1 + 2) (by omega) (by omega)).mpr hq9)
              refine lv_aload_n hx hb dX3_part_176 rfl (lv_at hl 0 rfl) ?_
              refine va_get (D := (dC, dI)) (ci := 3) (v := .int (nI (mTm w1))) (C := RX3) (T := TX3) (N := 11) hx hb hts (by decide +kernel) hown hK hP 0 rfl rfl 2 (by decide) (hts (.fieldLink RX3 43 "TriangleSheetModel" "came" "I") (by decide +kernel)) (fun _ h9 => h9) rfl dX3_part_177 ?_
              refine lv_iconst (v := nI (2)) hx hb dX3_part_180 (by decide) ?_
              refine lv_iadd hx hb dX3_part_181 ?_
              refine rt_i (y := (nI (mTm w1 + 2))) (nn_add (mTm w1) (2)) ?_
              refine lv_sipush (v := nI (200)) hx hb dX3_part_182 (by decide) ?_
              refine lv_icmp_le (tgt := 192) hx hb dX3_part_185 (by decide) (fun c_9 => ?_) (fun c_9 => ?_)
              · skip
                have c_9 : mTm w1 + 2 ≤ 200 := (nI_leI (a := mTm w1 + 2) (b := 200) (by omega) (by omega)).mp c_9
                refine lv_iconst (v := nI (0)) hx hb dX3_part_192 (by decide) ?_
                refine va_put (D := (dC, dI)) (ci := 3) (v := .int (nI (0))) (ty := .int) (C := RX3) (T := TX3) (N := 11) hx hb hts (by decide +kernel) tyX3 tyX3_ok nmX3 hown hK hP hD hS 0 rfl rfl 0 (by decide) (hts (.fieldLink RX3 33 "TriangleSheetModel" "thrown" "I") (by decide +kernel)) (fun _ h9 => h9) rfl (by decide +kernel) rfl rfl (Nat.le_of_ble_eq_true rfl) dX3_part_193 (fun H locs hP hD hS => ?_)
                have hP : va_P (dC, dI) vwCl (wM cI cZ b (((w1.1.1, w1.1.2.1, w1.1.2.2), nI (0), mPn w1, mTm w1, mTn w1, mIs w1, mFi w1, mSe w1, mMk w1))) H := hP
                have hD : va_D (inW (wM cI cZ b w)) (wM cI cZ b (((w1.1.1, w1.1.2.1, w1.1.2.2), nI (0), mPn w1, mTm w1, mTn w1, mIs w1, mFi w1, mSe w1, mMk w1))) := hD
                refine lv_aload_n hx hb dX3_part_196 rfl (lv_at hl 0 rfl) ?_
                refine va_get (D := (dC, dI)) (ci := 3) (v := .int (nI (0))) (C := RX3) (T := TX3) (N := 11) hx hb hts (by decide +kernel) hown hK hP 0 rfl rfl 0 (by decide) (hts (.fieldLink RX3 33 "TriangleSheetModel" "thrown" "I") (by decide +kernel)) (fun _ h9 => h9) rfl dX3_part_197 ?_
                refine lv_if_le (tgt := 205) hx hb dX3_part_200 (by decide) (fun c_10 => ?_) (fun c_10 => absurd (by decide) c_10)
                refine lv_aload_n hx hb dX3_part_205 rfl (lv_at hl 0 rfl) ?_
                refine lv_iload_n hx hb dX3_part_206 rfl (lv_at hl 2 rfl) ?_
                refine lv_iload_n hx hb dX3_part_207 rfl (lv_at hl 3 rfl) ?_
                refine wr_V (As := [.int (nI (x)), .int (nI (y))]) (rest := []) (q0 := 0) (ci := 3) hx hb hml hown hts (c_X3_point_0 l dC dI cI cL cZ b (((w1.1.1, w1.1.2.1, w1.1.2.2), nI (0), mPn w1, mTm w1, mTn w1, mIs w1, mFi w1, mSe w1, mMk w1)) x y (show okM (mThx w1 (nI 0)) from hv) (by omega) (by omega) he.1 (show mPn w1 < 60 by omega)) (cwV 2 hts gX3_part_X3_point rfl rfl rfl (by decide +kernel) ⟨Nat.le_of_ble_eq_true rfl, Nat.le_of_ble_eq_true rfl⟩) hK hP hD hS rfl rfl rfl rfl hl.1 rfl (Nat.le_of_ble_eq_true rfl) dX3_part_208 ⟨Nat.zero_le _, Nat.zero_le _⟩ (fun H locs hP hD hS => ?_)
                have hP : va_P (dC, dI) vwCl (wM cI cZ b ((gMov (((w1.1.1, w1.1.2.1, w1.1.2.2), nI (0), mPn w1, mTm w1, mTn w1, mIs w1, mFi w1, mSe w1, mMk w1)).1 (mPn (((w1.1.1, w1.1.2.1, w1.1.2.2), nI (0), mPn w1, mTm w1, mTn w1, mIs w1, mFi w1, mSe w1, mMk w1))) x y, nI 0, mPn (((w1.1.1, w1.1.2.1, w1.1.2.2), nI (0), mPn w1, mTm w1, mTn w1, mIs w1, mFi w1, mSe w1, mMk w1)) + 1, (((w1.1.1, w1.1.2.1, w1.1.2.2), nI (0), mPn w1, mTm w1, mTn w1, mIs w1, mFi w1, mSe w1, mMk w1)).2.2.2))) H := hP
                have hD : va_D (inW (wM cI cZ b w)) (wM cI cZ b ((gMov (((w1.1.1, w1.1.2.1, w1.1.2.2), nI (0), mPn w1, mTm w1, mTn w1, mIs w1, mFi w1, mSe w1, mMk w1)).1 (mPn (((w1.1.1, w1.1.2.1, w1.1.2.2), nI (0), mPn w1, mTm w1, mTn w1, mIs w1, mFi w1, mSe w1, mMk w1))) x y, nI 0, mPn (((w1.1.1, w1.1.2.1, w1.1.2.2), nI (0), mPn w1, mTm w1, mTn w1, mIs w1, mFi w1, mSe w1, mMk w1)) + 1, (((w1.1.1, w1.1.2.1, w1.1.2.2), nI (0), mPn w1, mTm w1, mTn w1, mIs w1, mFi w1, mSe w1, mMk w1)).2.2.2))) := hD
                refine W.eq (g2 := F0 m 211 ls [.int (nI (mPn (((w1.1.1, w1.1.2.1, w1.1.2.2), nI (0), mPn w1, mTm w1, mTn w1, mIs w1, mFi w1, mSe w1, mMk w1))))]) rfl ?_
                have hgz := gc_lt hv.1 (t := t) (k := 0)
                have hg1 := gc_lt hv.1 (t := t) (k := 1)
                have hg2 := gc_lt hv.1 (t := t) (k := 2)
                refine lv_istore (lv' := [(6, .int (nI (mPn (((w1.1.1, w1.1.2.1, w1.1.2.2), nI (0), mPn w1, mTm w1, mTn w1, mIs w1, mFi w1, mSe w1, mMk w1))))), (0, .ref (b 0)), (1, .int (nI (t))), (2, .int (nI (x))), (3, .int (nI (y))), (4, .int (nI (t))), (5, .int (bI (b2)))]) hx hb dX3_part_211 hl (by decide) rfl (fun ls hl => ?_)
                refine lv_aload_n hx hb dX3_part_213 rfl (lv_at hl 1 rfl) ?_
                refine lv_iload hx hb dX3_part_214 (lv_at hl 5 rfl) ?_
                refine lv_iconst (v := nI (0)) hx hb dX3_part_216 (by decide) ?_
                refine ro_V (As := [.int (nI (t)), .int (nI (0))]) (rest := []) (q0 := 0) (ci := 3) hx hb hml hown hts (c_X3_at l dC dI cI cL cZ b ((gMov (((w1.1.1, w1.1.2.1, w1.1.2.2), nI (0), mPn w1, mTm w1, mTn w1, mIs w1, mFi w1, mSe w1, mMk w1)).1 (mPn (((w1.1.1, w1.1.2.1, w1.1.2.2), nI (0), mPn w1, mTm w1, mTn w1, mIs w1, mFi w1, mSe w1, mMk w1))) x y, nI 0, mPn (((w1.1.1, w1.1.2.1, w1.1.2.2), nI (0), mPn w1, mTm w1, mTn w1, mIs w1, mFi w1, mSe w1, mMk w1)) + 1, (((w1.1.1, w1.1.2.1, w1.1.2.2), nI (0), mPn w1, mTm w1, mTn w1, mIs w1, mFi w1, mSe w1, mMk w1)).2.2.2)) t 0 (by omega) (by omega)) (cwV 2 hts gX3_part_X3_at rfl rfl rfl (by decide +kernel) ⟨Nat.le_of_ble_eq_true rfl, Nat.le_of_ble_eq_true rfl⟩) hK hP rfl rfl rfl hl.1 rfl (Nat.le_of_ble_eq_true rfl) dX3_part_217 ⟨Nat.zero_le _, Nat.zero_le _⟩ ?_
                refine lv_istore (lv' := [(7, .int (nI (gc ((gMov (((w1.1.1, w1.1.2.1, w1.1.2.2), nI (0), mPn w1, mTm w1, mTn w1, mIs w1, mFi w1, mSe w1, mMk w1)).1 (mPn (((w1.1.1, w1.1.2.1, w1.1.2.2), nI (0), mPn w1, mTm w1, mTn w1, mIs w1, mFi w1, mSe w1, mMk w1))) x y, nI 0, mPn (((w1.1.1, w1.1.2.1, w1.1.2.2), nI (0), mPn w1, mTm w1, mTn w1, mIs w1, mFi w1, mSe w1, mMk w1)) + 1, (((w1.1.1, w1.1.2.1, w1.1.2.2), nI (0), mPn w1, mTm w1, mTn w1, mIs w1, mFi w1, mSe w1, mMk w1)).2.2.2)).1 t 0))), (6, .int (nI (mPn (((w1.1.1, w1.1.2.1, w1.1.2.2), nI (0), mPn w1, mTm w1, mTn w1, mIs w1, mFi w1, mSe w1, mMk w1))))), (0, .ref (b 0)), (1, .int (nI (t))), (2, .int (nI (x))), (3, .int (nI (y))), (4, .int (nI (t))), (5, .int (bI (b2)))]) hx hb dX3_part_220 hl (by decide) rfl (fun ls hl => ?_)
                refine lv_aload_n hx hb dX3_part_222 rfl (lv_at hl 2 rfl) ?_
                refine lv_iload hx hb dX3_part_223 (lv_at hl 6 rfl) ?_
                refine lv_iconst (v := nI (1)) hx hb dX3_part_225 (by decide) ?_
                refine ro_V (As := [.int (nI (t)), .int (nI (1))]) (rest := []) (q0 := 0) (ci := 3) hx hb hml hown hts (c_X3_at l dC dI cI cL cZ b ((gMov (((w1.1.1, w1.1.2.1, w1.1.2.2), nI (0), mPn w1, mTm w1, mTn w1, mIs w1, mFi w1, mSe w1, mMk w1)).1 (mPn (((w1.1.1, w1.1.2.1, w1.1.2.2), nI (0), mPn w1, mTm w1, mTn w1, mIs w1, mFi w1, mSe w1, mMk w1))) x y, nI 0, mPn (((w1.1.1, w1.1.2.1, w1.1.2.2), nI (0), mPn w1, mTm w1, mTn w1, mIs w1, mFi w1, mSe w1, mMk w1)) + 1, (((w1.1.1, w1.1.2.1, w1.1.2.2), nI (0), mPn w1, mTm w1, mTn w1, mIs w1, mFi w1, mSe w1, mMk w1)).2.2.2)) t 1 (by omega) (by omega)) (cwV 2 hts gX3_part_X3_at rfl rfl rfl (by decide +kernel) ⟨Nat.le_of_ble_eq_true rfl, Nat.le_of_ble_eq_true rfl⟩) hK hP rfl rfl rfl hl.1 rfl (Nat.le_of_ble_eq_true rfl) dX3_part_226 ⟨Nat.zero_le _, Nat.zero_le _⟩ ?_
                refine lv_istore (lv' := [(8, .int (nI (gc ((gMov (((w1.1.1, w1.1.2.1, w1.1.2.2), nI (0), mPn w1, mTm w1, mTn w1, mIs w1, mFi w1, mSe w1, mMk w1)).1 (mPn (((w1.1.1, w1.1.2.1, w1.1.2.2), nI (0), mPn w1, mTm w1, mTn w1, mIs w1, mFi w1, mSe w1, mMk w1))) x y, nI 0, mPn (((w1.1.1, w1.1.2.1, w1.1.2.2), nI (0), mPn w1, mTm w1, mTn w1, mIs w1, mFi w1, mSe w1, mMk w1)) + 1, (((w1.1.1, w1.1.2.1, w1.1.2.2), nI (0), mPn w1, mTm w1, mTn w1, mIs w1, mFi w1, mSe w1, mMk w1)).2.2.2)).1 t 1))), (7, .int (nI (gc ((gMov (((w1.1.1, w1.1.2.1, w1.1.2.2), nI (0), mPn w1, mTm w1, mTn w1, mIs w1, mFi w1, mSe w1, mMk w1)).1 (mPn (((w1.1.1, w1.1.2.1, w1.1.2.2), nI (0), mPn w1, mTm w1, mTn w1, mIs w1, mFi w1, mSe w1, mMk w1))) x y, nI 0, mPn (((w1.1.1, w1.1.2.1, w1.1.2.2), nI (0), mPn w1, mTm w1, mTn w1, mIs w1, mFi w1, mSe w1, mMk w1)) + 1, (((w1.1.1, w1.1.2.1, w1.1.2.2), nI (0), mPn w1, mTm w1, mTn w1, mIs w1, mFi w1, mSe w1, mMk w1)).2.2.2)).1 t 0))), (6, .int (nI (mPn (((w1.1.1, w1.1.2.1, w1.1.2.2), nI (0), mPn w1, mTm w1, mTn w1, mIs w1, mFi w1, mSe w1, mMk w1))))), (0, .ref (b 0)), (1, .int (nI (t))), (2, .int (nI (x))), (3, .int (nI (y))), (4, .int (nI (t))), (5, .int (bI (b2)))]) hx hb dX3_part_229 hl (by decide) rfl (fun ls hl => ?_)
                refine lv_aload_n hx hb dX3_part_231 rfl (lv_at hl 3 rfl) ?_
                refine lv_iload hx hb dX3_part_232 (lv_at hl 7 rfl) ?_
                refine lv_iconst (v := nI (2)) hx hb dX3_part_234 (by decide) ?_
                refine ro_V (As := [.int (nI (t)), .int (nI (2))]) (rest := []) (q0 := 0) (ci := 3) hx hb hml hown hts (c_X3_at l dC dI cI cL cZ b ((gMov (((w1.1.1, w1.1.2.1, w1.1.2.2), nI (0), mPn w1, mTm w1, mTn w1, mIs w1, mFi w1, mSe w1, mMk w1)).1 (mPn (((w1.1.1, w1.1.2.1, w1.1.2.2), nI (0), mPn w1, mTm w1, mTn w1, mIs w1, mFi w1, mSe w1, mMk w1))) x y, nI 0, mPn (((w1.1.1, w1.1.2.1, w1.1.2.2), nI (0), mPn w1, mTm w1, mTn w1, mIs w1, mFi w1, mSe w1, mMk w1)) + 1, (((w1.1.1, w1.1.2.1, w1.1.2.2), nI (0), mPn w1, mTm w1, mTn w1, mIs w1, mFi w1, mSe w1, mMk w1)).2.2.2)) t 2 (by omega) (by omega)) (cwV 2 hts gX3_part_X3_at rfl rfl rfl (by decide +kernel) ⟨Nat.le_of_ble_eq_true rfl, Nat.le_of_ble_eq_true rfl⟩) hK hP rfl rfl rfl hl.1 rfl (Nat.le_of_ble_eq_true rfl) dX3_part_235 ⟨Nat.zero_le _, Nat.zero_le _⟩ ?_
                refine lv_istore (lv' := [(9, .int (nI (gc ((gMov (((w1.1.1, w1.1.2.1, w1.1.2.2), nI (0), mPn w1, mTm w1, mTn w1, mIs w1, mFi w1, mSe w1, mMk w1)).1 (mPn (((w1.1.1, w1.1.2.1, w1.1.2.2), nI (0), mPn w1, mTm w1, mTn w1, mIs w1, mFi w1, mSe w1, mMk w1))) x y, nI 0, mPn (((w1.1.1, w1.1.2.1, w1.1.2.2), nI (0), mPn w1, mTm w1, mTn w1, mIs w1, mFi w1, mSe w1, mMk w1)) + 1, (((w1.1.1, w1.1.2.1, w1.1.2.2), nI (0), mPn w1, mTm w1, mTn w1, mIs w1, mFi w1, mSe w1, mMk w1)).2.2.2)).1 t 2))), (8, .int (nI (gc ((gMov (((w1.1.1, w1.1.2.1, w1.1.2.2), nI (0), mPn w1, mTm w1, mTn w1, mIs w1, mFi w1, mSe w1, mMk w1)).1 (mPn (((w1.1.1, w1.1.2.1, w1.1.2.2), nI (0), mPn w1, mTm w1, mTn w1, mIs w1, mFi w1, mSe w1, mMk w1))) x y, nI 0, mPn (((w1.1.1, w1.1.2.1, w1.1.2.2), nI (0), mPn w1, mTm w1, mTn w1, mIs w1, mFi w1, mSe w1, mMk w1)) + 1, (((w1.1.1, w1.1.2.1, w1.1.2.2), nI (0), mPn w1, mTm w1, mTn w1, mIs w1, mFi w1, mSe w1, mMk w1)).2.2.2)).1 t 1))), (7, .int (nI (gc ((gMov (((w1.1.1, w1.1.2.1, w1.1.2.2), nI (0), mPn w1, mTm w1, mTn w1, mIs w1, mFi w1, mSe w1, mMk w1)).1 (mPn (((w1.1.1, w1.1.2.1, w1.1.2.2), nI (0), mPn w1, mTm w1, mTn w1, mIs w1, mFi w1, mSe w1, mMk w1))) x y, nI 0, mPn (((w1.1.1, w1.1.2.1, w1.1.2.2), nI (0), mPn w1, mTm w1, mTn w1, mIs w1, mFi w1, mSe w1, mMk w1)) + 1, (((w1.1.1, w1.1.2.1, w1.1.2.2), nI (0), mPn w1, mTm w1, mTn w1, mIs w1, mFi w1, mSe w1, mMk w1)).2.2.2)).1 t 0))), (6, .int (nI (mPn (((w1.1.1, w1.1.2.1, w1.1.2.2), nI (0), mPn w1, mTm w1, mTn w1, mIs w1, mFi w1, mSe w1, mMk w1))))), (0, .ref (b 0)), (1, .int (nI (t))), (2, .int (nI (x))), (3, .int (nI (y))), (4, .int (nI (t))), (5, .int (bI (b2)))]) hx hb dX3_part_238 hl (by decide) rfl (fun ls hl => ?_)
                refine lv_aload_n hx hb dX3_part_240 rfl (lv_at hl 4 rfl) ?_
                refine lv_iload hx hb dX3_part_241 (lv_at hl 8 rfl) ?_
                refine lv_iload hx hb dX3_part_243 (lv_at hl 2 rfl) ?_
                refine lv_iload hx hb dX3_part_245 (lv_at hl 1 rfl) ?_
                refine lv_iload hx hb dX3_part_247 (lv_at hl 3 rfl) ?_
                refine wr_V (As := [.int (nI (t)), .int (nI (gc ((gMov (((w1.1.1, w1.1.2.1, w1.1.2.2), nI (0), mPn w1, mTm w1, mTn w1, mIs w1, mFi w1, mSe w1, mMk w1)).1 (mPn (((w1.1.1, w1.1.2.1, w1.1.2.2), nI (0), mPn w1, mTm w1, mTn w1, mIs w1, mFi w1, mSe w1, mMk w1))) x y, nI 0, mPn (((w1.1.1, w1.1.2.1, w1.1.2.2), nI (0), mPn w1, mTm w1, mTn w1, mIs w1, mFi w1, mSe w1, mMk w1)) + 1, (((w1.1.1, w1.1.2.1, w1.1.2.2), nI (0), mPn w1, mTm w1, mTn w1, mIs w1, mFi w1, mSe w1, mMk w1)).2.2.2)).1 t 0)), .int (nI (gc ((gMov (((w1.1.1, w1.1.2.1, w1.1.2.2), nI (0), mPn w1, mTm w1, mTn w1, mIs w1, mFi w1, mSe w1, mMk w1)).1 (mPn (((w1.1.1, w1.1.2.1, w1.1.2.2), nI (0), mPn w1, mTm w1, mTn w1, mIs w1, mFi w1, mSe w1, mMk w1))) x y, nI 0, mPn (((w1.1.1, w1.1.2.1, w1.1.2.2), nI (0), mPn w1, mTm w1, mTn w1, mIs w1, mFi w1, mSe w1, mMk w1)) + 1, (((w1.1.1, w1.1.2.1, w1.1.2.2), nI (0), mPn w1, mTm w1, mTn w1, mIs w1, mFi w1, mSe w1, mMk w1)).2.2.2)).1 t 1)), .int (nI (mPn (((w1.1.1, w1.1.2.1, w1.1.2.2), nI (0), mPn w1, mTm w1, mTn w1, mIs w1, mFi w1, mSe w1, mMk w1))))]) (rest := []) (q0 := 0) (ci := 3) hx hb hml hown hts (c_X3_set l dC dI cI cL cZ b ((gMov (((w1.1.1, w1.1.2.1, w1.1.2.2), nI (0), mPn w1, mTm w1, mTn w1, mIs w1, mFi w1, mSe w1, mMk w1)).1 (mPn (((w1.1.1, w1.1.2.1, w1.1.2.2), nI (0), mPn w1, mTm w1, mTn w1, mIs w1, mFi w1, mSe w1, mMk w1))) x y, nI 0, mPn (((w1.1.1, w1.1.2.1, w1.1.2.2), nI (0), mPn w1, mTm w1, mTn w1, mIs w1, mFi w1, mSe w1, mMk w1)) + 1, (((w1.1.1, w1.1.2.1, w1.1.2.2), nI (0), mPn w1, mTm w1, mTn w1, mIs w1, mFi w1, mSe w1, mMk w1)).2.2.2)) t (gc ((gMov (((w1.1.1, w1.1.2.1, w1.1.2.2), nI (0), mPn w1, mTm w1, mTn w1, mIs w1, mFi w1, mSe w1, mMk w1)).1 (mPn (((w1.1.1, w1.1.2.1, w1.1.2.2), nI (0), mPn w1, mTm w1, mTn w1, mIs w1, mFi w1, mSe w1, mMk w1))) x y, nI 0, mPn (((w1.1.1, w1.1.2.1, w1.1.2.2), nI (0), mPn w1, mTm w1, mTn w1, mIs w1, mFi w1, mSe w1, mMk w1)) + 1, (((w1.1.1, w1.1.2.1, w1.1.2.2), nI (0), mPn w1, mTm w1, mTn w1, mIs w1, mFi w1, mSe w1, mMk w1)).2.2.2)).1 t 0) (gc ((gMov (((w1.1.1, w1.1.2.1, w1.1.2.2), nI (0), mPn w1, mTm w1, mTn w1, mIs w1, mFi w1, mSe w1, mMk w1)).1 (mPn (((w1.1.1, w1.1.2.1, w1.1.2.2), nI (0), mPn w1, mTm w1, mTn w1, mIs w1, mFi w1, mSe w1, mMk w1))) x y, nI 0, mPn (((w1.1.1, w1.1.2.1, w1.1.2.2), nI (0), mPn w1, mTm w1, mTn w1, mIs w1, mFi w1, mSe w1, mMk w1)) + 1, (((w1.1.1, w1.1.2.1, w1.1.2.2), nI (0), mPn w1, mTm w1, mTn w1, mIs w1, mFi w1, mSe w1, mMk w1)).2.2.2)).1 t 1) (mPn (((w1.1.1, w1.1.2.1, w1.1.2.2), nI (0), mPn w1, mTm w1, mTn w1, mIs w1, mFi w1, mSe w1, mMk w1))) (by omega)) (cwV 4 hts gX3_part_X3_set rfl rfl rfl (by decide +kernel) ⟨Nat.le_of_ble_eq_true rfl, Nat.le_of_ble_eq_true rfl⟩) hK hP hD hS rfl rfl rfl rfl hl.1 rfl (Nat.le_of_ble_eq_true rfl) dX3_part_249 ⟨Nat.zero_le _, Nat.zero_le _⟩ (fun H locs hP hD hS => ?_)
                have hP : va_P (dC, dI) vwCl (wM cI cZ b (mSet ((gMov (((w1.1.1, w1.1.2.1, w1.1.2.2), nI (0), mPn w1, mTm w1, mTn w1, mIs w1, mFi w1, mSe w1, mMk w1)).1 (mPn (((w1.1.1, w1.1.2.1, w1.1.2.2), nI (0), mPn w1, mTm w1, mTn w1, mIs w1, mFi w1, mSe w1, mMk w1))) x y, nI 0, mPn (((w1.1.1, w1.1.2.1, w1.1.2.2), nI (0), mPn w1, mTm w1, mTn w1, mIs w1, mFi w1, mSe w1, mMk w1)) + 1, (((w1.1.1, w1.1.2.1, w1.1.2.2), nI (0), mPn w1, mTm w1, mTn w1, mIs w1, mFi w1, mSe w1, mMk w1)).2.2.2)) t (gc ((gMov (((w1.1.1, w1.1.2.1, w1.1.2.2), nI (0), mPn w1, mTm w1, mTn w1, mIs w1, mFi w1, mSe w1, mMk w1)).1 (mPn (((w1.1.1, w1.1.2.1, w1.1.2.2), nI (0), mPn w1, mTm w1, mTn w1, mIs w1, mFi w1, mSe w1, mMk w1))) x y, nI 0, mPn (((w1.1.1, w1.1.2.1, w1.1.2.2), nI (0), mPn w1, mTm w1, mTn w1, mIs w1, mFi w1, mSe w1, mMk w1)) + 1, (((w1.1.1, w1.1.2.1, w1.1.2.2), nI (0), mPn w1, mTm w1, mTn w1, mIs w1, mFi w1, mSe w1, mMk w1)).2.2.2)).1 t 0) (gc ((gMov (((w1.1.1, w1.1.2.1, w1.1.2.2), nI (0), mPn w1, mTm w1, mTn w1, mIs w1, mFi w1, mSe w1, mMk w1)).1 (mPn (((w1.1.1, w1.1.2.1, w1.1.2.2), nI (0), mPn w1, mTm w1, mTn w1, mIs w1, mFi w1, mSe w1, mMk w1))) x y, nI 0, mPn (((w1.1.1, w1.1.2.1, w1.1.2.2), nI (0), mPn w1, mTm w1, mTn w1, mIs w1, mFi w1, mSe w1, mMk w1)) + 1, (((w1.1.1, w1.1.2.1, w1.1.2.2), nI (0), mPn w1, mTm w1, mTn w1, mIs w1, mFi w1, mSe w1, mMk w1)).2.2.2)).1 t 1) (mPn (((w1.1.1, w1.1.2.1, w1.1.2.2), nI (0), mPn w1, mTm w1, mTn w1, mIs w1, mFi w1, mSe w1, mMk w1))))) H := hP
                have hD : va_D (inW (wM cI cZ b w)) (wM cI cZ b (mSet ((gMov (((w1.1.1, w1.1.2.1, w1.1.2.2), nI (0), mPn w1, mTm w1, mTn w1, mIs w1, mFi w1, mSe w1, mMk w1)).1 (mPn (((w1.1.1, w1.1.2.1, w1.1.2.2), nI (0), mPn w1, mTm w1, mTn w1, mIs w1, mFi w1, mSe w1, mMk w1))) x y, nI 0, mPn (((w1.1.1, w1.1.2.1, w1.1.2.2), nI (0), mPn w1, mTm w1, mTn w1, mIs w1, mFi w1, mSe w1, mMk w1)) + 1, (((w1.1.1, w1.1.2.1, w1.1.2.2), nI (0), mPn w1, mTm w1, mTn w1, mIs w1, mFi w1, mSe w1, mMk w1)).2.2.2)) t (gc ((gMov (((w1.1.1, w1.1.2.1, w1.1.2.2), nI (0), mPn w1, mTm w1, mTn w1, mIs w1, mFi w1, mSe w1, mMk w1)).1 (mPn (((w1.1.1, w1.1.2.1, w1.1.2.2), nI (0), mPn w1, mTm w1, mTn w1, mIs w1, mFi w1, mSe w1, mMk w1))) x y, nI 0, mPn (((w1.1.1, w1.1.2.1, w1.1.2.2), nI (0), mPn w1, mTm w1, mTn w1, mIs w1, mFi w1, mSe w1, mMk w1)) + 1, (((w1.1.1, w1.1.2.1, w1.1.2.2), nI (0), mPn w1, mTm w1, mTn w1, mIs w1, mFi w1, mSe w1, mMk w1)).2.2.2)).1 t 0) (gc ((gMov (((w1.1.1, w1.1.2.1, w1.1.2.2), nI (0), mPn w1, mTm w1, mTn w1, mIs w1, mFi w1, mSe w1, mMk w1)).1 (mPn (((w1.1.1, w1.1.2.1, w1.1.2.2), nI (0), mPn w1, mTm w1, mTn w1, mIs w1, mFi w1, mSe w1, mMk w1))) x y, nI 0, mPn (((w1.1.1, w1.1.2.1, w1.1.2.2), nI (0), mPn w1, mTm w1, mTn w1, mIs w1, mFi w1, mSe w1, mMk w1)) + 1, (((w1.1.1, w1.1.2.1, w1.1.2.2), nI (0), mPn w1, mTm w1, mTn w1, mIs w1, mFi w1, mSe w1, mMk w1)).2.2.2)).1 t 1) (mPn (((w1.1.1, w1.1.2.1, w1.1.2.2), nI (0), mPn w1, mTm w1, mTn w1, mIs w1, mFi w1, mSe w1, mMk w1))))) := hD
                refine W.eq (g2 := F0 m 252 ls []) rfl ?_
                refine lv_aload_n hx hb dX3_part_252 rfl (lv_at hl 4 rfl) ?_
                refine lv_iload hx hb dX3_part_253 (lv_at hl 1 rfl) ?_
                refine lv_iload hx hb dX3_part_255 (lv_at hl 0 rfl) ?_
                refine lv_iload hx hb dX3_part_257 (lv_at hl 3 rfl) ?_
                refine wr_V (As := [.int (nI (gc ((gMov (((w1.1.1, w1.1.2.1, w1.1.2.2), nI (0), mPn w1, mTm w1, mTn w1, mIs w1, mFi w1, mSe w1, mMk w1)).1 (mPn (((w1.1.1, w1.1.2.1, w1.1.2.2), nI (0), mPn w1, mTm w1, mTn w1, mIs w1, mFi w1, mSe w1, mMk w1))) x y, nI 0, mPn (((w1.1.1, w1.1.2.1, w1.1.2.2), nI (0), mPn w1, mTm w1, mTn w1, mIs w1, mFi w1, mSe w1, mMk w1)) + 1, (((w1.1.1, w1.1.2.1, w1.1.2.2), nI (0), mPn w1, mTm w1, mTn w1, mIs w1, mFi w1, mSe w1, mMk w1)).2.2.2)).1 t 1)), .int (nI (gc ((gMov (((w1.1.1, w1.1.2.1, w1.1.2.2), nI (0), mPn w1, mTm w1, mTn w1, mIs w1, mFi w1, mSe w1, mMk w1)).1 (mPn (((w1.1.1, w1.1.2.1, w1.1.2.2), nI (0), mPn w1, mTm w1, mTn w1, mIs w1, mFi w1, mSe w1, mMk w1))) x y, nI 0, mPn (((w1.1.1, w1.1.2.1, w1.1.2.2), nI (0), mPn w1, mTm w1, mTn w1, mIs w1, mFi w1, mSe w1, mMk w1)) + 1, (((w1.1.1, w1.1.2.1, w1.1.2.2), nI (0), mPn w1, mTm w1, mTn w1, mIs w1, mFi w1, mSe w1, mMk w1)).2.2.2)).1 t 2)), .int (nI (mPn (((w1.1.1, w1.1.2.1, w1.1.2.2), nI (0), mPn w1, mTm w1, mTn w1, mIs w1, mFi w1, mSe w1, mMk w1))))]) (rest := []) (q0 := 0) (ci := 3) hx hb hml hown hts (c_X3_add l dC dI cI cL cZ b (mSet ((gMov (((w1.1.1, w1.1.2.1, w1.1.2.2), nI (0), mPn w1, mTm w1, mTn w1, mIs w1, mFi w1, mSe w1, mMk w1)).1 (mPn (((w1.1.1, w1.1.2.1, w1.1.2.2), nI (0), mPn w1, mTm w1, mTn w1, mIs w1, mFi w1, mSe w1, mMk w1))) x y, nI 0, mPn (((w1.1.1, w1.1.2.1, w1.1.2.2), nI (0), mPn w1, mTm w1, mTn w1, mIs w1, mFi w1, mSe w1, mMk w1)) + 1, (((w1.1.1, w1.1.2.1, w1.1.2.2), nI (0), mPn w1, mTm w1, mTn w1, mIs w1, mFi w1, mSe w1, mMk w1)).2.2.2)) t (gc ((gMov (((w1.1.1, w1.1.2.1, w1.1.2.2), nI (0), mPn w1, mTm w1, mTn w1, mIs w1, mFi w1, mSe w1, mMk w1)).1 (mPn (((w1.1.1, w1.1.2.1, w1.1.2.2), nI (0), mPn w1, mTm w1, mTn w1, mIs w1, mFi w1, mSe w1, mMk w1))) x y, nI 0, mPn (((w1.1.1, w1.1.2.1, w1.1.2.2), nI (0), mPn w1, mTm w1, mTn w1, mIs w1, mFi w1, mSe w1, mMk w1)) + 1, (((w1.1.1, w1.1.2.1, w1.1.2.2), nI (0), mPn w1, mTm w1, mTn w1, mIs w1, mFi w1, mSe w1, mMk w1)).2.2.2)).1 t 0) (gc ((gMov (((w1.1.1, w1.1.2.1, w1.1.2.2), nI (0), mPn w1, mTm w1, mTn w1, mIs w1, mFi w1, mSe w1, mMk w1)).1 (mPn (((w1.1.1, w1.1.2.1, w1.1.2.2), nI (0), mPn w1, mTm w1, mTn w1, mIs w1, mFi w1, mSe w1, mMk w1))) x y, nI 0, mPn (((w1.1.1, w1.1.2.1, w1.1.2.2), nI (0), mPn w1, mTm w1, mTn w1, mIs w1, mFi w1, mSe w1, mMk w1)) + 1, (((w1.1.1, w1.1.2.1, w1.1.2.2), nI (0), mPn w1, mTm w1, mTn w1, mIs w1, mFi w1, mSe w1, mMk w1)).2.2.2)).1 t 1) (mPn (((w1.1.1, w1.1.2.1, w1.1.2.2), nI (0), mPn w1, mTm w1, mTn w1, mIs w1, mFi w1, mSe w1, mMk w1)))) (gc ((gMov (((w1.1.1, w1.1.2.1, w1.1.2.2), nI (0), mPn w1, mTm w1, mTn w1, mIs w1, mFi w1, mSe w1, mMk w1)).1 (mPn (((w1.1.1, w1.1.2.1, w1.1.2.2), nI (0), mPn w1, mTm w1, mTn w1, mIs w1, mFi w1, mSe w1, mMk w1))) x y, nI 0, mPn (((w1.1.1, w1.1.2.1, w1.1.2.2), nI (0), mPn w1, mTm w1, mTn w1, mIs w1, mFi w1, mSe w1, mMk w1)) + 1, (((w1.1.1, w1.1.2.1, w1.1.2.2), nI (0), mPn w1, mTm w1, mTn w1, mIs w1, mFi w1, mSe w1, mMk w1)).2.2.2)).1 t 1) (gc ((gMov (((w1.1.1, w1.1.2.1, w1.1.2.2), nI (0), mPn w1, mTm w1, mTn w1, mIs w1, mFi w1, mSe w1, mMk w1)).1 (mPn (((w1.1.1, w1.1.2.1, w1.1.2.2), nI (0), mPn w1, mTm w1, mTn w1, mIs w1, mFi w1, mSe w1, mMk w1))) x y, nI 0, mPn (((w1.1.1, w1.1.2.1, w1.1.2.2), nI (0), mPn w1, mTm w1, mTn w1, mIs w1, mFi w1, mSe w1, mMk w1)) + 1, (((w1.1.1, w1.1.2.1, w1.1.2.2), nI (0), mPn w1, mTm w1, mTn w1, mIs w1, mFi w1, mSe w1, mMk w1)).2.2.2)).1 t 2) (mPn (((w1.1.1, w1.1.2.1, w1.1.2.2), nI (0), mPn w1, mTm w1, mTn w1, mIs w1, mFi w1, mSe w1, mMk w1))) (show mTm w1 < 200 by omega)) (cwV 3 hts gX3_part_X3_add rfl rfl rfl (by decide +kernel) ⟨Nat.le_of_ble_eq_true rfl, Nat.le_of_ble_eq_true rfl⟩) hK hP hD hS rfl rfl rfl rfl hl.1 rfl (Nat.le_of_ble_eq_true rfl) dX3_part_259 ⟨Nat.zero_le _, Nat.zero_le _⟩ (fun H locs hP hD hS => ?_)
                have hP : va_P (dC, dI) vwCl (wM cI cZ b (mAdd (mSet ((gMov (((w1.1.1, w1.1.2.1, w1.1.2.2), nI (0), mPn w1, mTm w1, mTn w1, mIs w1, mFi w1, mSe w1, mMk w1)).1 (mPn (((w1.1.1, w1.1.2.1, w1.1.2.2), nI (0), mPn w1, mTm w1, mTn w1, mIs w1, mFi w1, mSe w1, mMk w1))) x y, nI 0, mPn (((w1.1.1, w1.1.2.1, w1.1.2.2), nI (0), mPn w1, mTm w1, mTn w1, mIs w1, mFi w1, mSe w1, mMk w1)) + 1, (((w1.1.1, w1.1.2.1, w1.1.2.2), nI (0), mPn w1, mTm w1, mTn w1, mIs w1, mFi w1, mSe w1, mMk w1)).2.2.2)) t (gc ((gMov (((w1.1.1, w1.1.2.1, w1.1.2.2), nI (0), mPn w1, mTm w1, mTn w1, mIs w1, mFi w1, mSe w1, mMk w1)).1 (mPn (((w1.1.1, w1.1.2.1, w1.1.2.2), nI (0), mPn w1, mTm w1, mTn w1, mIs w1, mFi w1, mSe w1, mMk w1))) x y, nI 0, mPn (((w1.1.1, w1.1.2.1, w1.1.2.2), nI (0), mPn w1, mTm w1, mTn w1, mIs w1, mFi w1, mSe w1, mMk w1)) + 1, (((w1.1.1, w1.1.2.1, w1.1.2.2), nI (0), mPn w1, mTm w1, mTn w1, mIs w1, mFi w1, mSe w1, mMk w1)).2.2.2)).1 t 0) (gc ((gMov (((w1.1.1, w1.1.2.1, w1.1.2.2), nI (0), mPn w1, mTm w1, mTn w1, mIs w1, mFi w1, mSe w1, mMk w1)).1 (mPn (((w1.1.1, w1.1.2.1, w1.1.2.2), nI (0), mPn w1, mTm w1, mTn w1, mIs w1, mFi w1, mSe w1, mMk w1))) x y, nI 0, mPn (((w1.1.1, w1.1.2.1, w1.1.2.2), nI (0), mPn w1, mTm w1, mTn w1, mIs w1, mFi w1, mSe w1, mMk w1)) + 1, (((w1.1.1, w1.1.2.1, w1.1.2.2), nI (0), mPn w1, mTm w1, mTn w1, mIs w1, mFi w1, mSe w1, mMk w1)).2.2.2)).1 t 1) (mPn (((w1.1.1, w1.1.2.1, w1.1.2.2), nI (0), mPn w1, mTm w1, mTn w1, mIs w1, mFi w1, mSe w1, mMk w1)))) (gc ((gMov (((w1.1.1, w1.1.2.1, w1.1.2.2), nI (0), mPn w1, mTm w1, mTn w1, mIs w1, mFi w1, mSe w1, mMk w1)).1 (mPn (((w1.1.1, w1.1.2.1, w1.1.2.2), nI (0), mPn w1, mTm w1, mTn w1, mIs w1, mFi w1, mSe w1, mMk w1))) x y, nI 0, mPn (((w1.1.1, w1.1.2.1, w1.1.2.2), nI (0), mPn w1, mTm w1, mTn w1, mIs w1, mFi w1, mSe w1, mMk w1)) + 1, (((w1.1.1, w1.1.2.1, w1.1.2.2), nI (0), mPn w1, mTm w1, mTn w1, mIs w1, mFi w1, mSe w1, mMk w1)).2.2.2)).1 t 1) (gc ((gMov (((w1.1.1, w1.1.2.1, w1.1.2.2), nI (0), mPn w1, mTm w1, mTn w1, mIs w1, mFi w1, mSe w1, mMk w1)).1 (mPn (((w1.1.1, w1.1.2.1, w1.1.2.2), nI (0), mPn w1, mTm w1, mTn w1, mIs w1, mFi w1, mSe w1, mMk w1))) x y, nI 0, mPn (((w1.1.1, w1.1.2.1, w1.1.2.2), nI (0), mPn w1, mTm w1, mTn w1, mIs w1, mFi w1, mSe w1, mMk w1)) + 1, (((w1.1.1, w1.1.2.1, w1.1.2.2), nI (0), mPn w1, mTm w1, mTn w1, mIs w1, mFi w1, mSe w1, mMk w1)).2.2.2)).1 t 2) (mPn (((w1.1.1, w1.1.2.1, w1.1.2.2), nI (0), mPn w1, mTm w1, mTn w1, mIs w1, mFi w1, mSe w1, mMk w1))))) H := hP
                have hD : va_D (inW (wM cI cZ b w)) (wM cI cZ b (mAdd (mSet ((gMov (((w1.1.1, w1.1.2.1, w1.1.2.2), nI (0), mPn w1, mTm w1, mTn w1, mIs w1, mFi w1, mSe w1, mMk w1)).1 (mPn (((w1.1.1, w1.1.2.1, w1.1.2.2), nI (0), mPn w1, mTm w1, mTn w1, mIs w1, mFi w1, mSe w1, mMk w1))) x y, nI 0, mPn (((w1.1.1, w1.1.2.1, w1.1.2.2), nI (0), mPn w1, mTm w1, mTn w1, mIs w1, mFi w1, mSe w1, mMk w1)) + 1, (((w1.1.1, w1.1.2.1, w1.1.2.2), nI (0), mPn w1, mTm w1, mTn w1, mIs w1, mFi w1, mSe w1, mMk w1)).2.2.2)) t (gc ((gMov (((w1.1.1, w1.1.2.1, w1.1.2.2), nI (0), mPn w1, mTm w1, mTn w1, mIs w1, mFi w1, mSe w1, mMk w1)).1 (mPn (((w1.1.1, w1.1.2.1, w1.1.2.2), nI (0), mPn w1, mTm w1, mTn w1, mIs w1, mFi w1, mSe w1, mMk w1))) x y, nI 0, mPn (((w1.1.1, w1.1.2.1, w1.1.2.2), nI (0), mPn w1, mTm w1, mTn w1, mIs w1, mFi w1, mSe w1, mMk w1)) + 1, (((w1.1.1, w1.1.2.1, w1.1.2.2), nI (0), mPn w1, mTm w1, mTn w1, mIs w1, mFi w1, mSe w1, mMk w1)).2.2.2)).1 t 0) (gc ((gMov (((w1.1.1, w1.1.2.1, w1.1.2.2), nI (0), mPn w1, mTm w1, mTn w1, mIs w1, mFi w1, mSe w1, mMk w1)).1 (mPn (((w1.1.1, w1.1.2.1, w1.1.2.2), nI (0), mPn w1, mTm w1, mTn w1, mIs w1, mFi w1, mSe w1, mMk w1))) x y, nI 0, mPn (((w1.1.1, w1.1.2.1, w1.1.2.2), nI (0), mPn w1, mTm w1, mTn w1, mIs w1, mFi w1, mSe w1, mMk w1)) + 1, (((w1.1.1, w1.1.2.1, w1.1.2.2), nI (0), mPn w1, mTm w1, mTn w1, mIs w1, mFi w1, mSe w1, mMk w1)).2.2.2)).1 t 1) (mPn (((w1.1.1, w1.1.2.1, w1.1.2.2), nI (0), mPn w1, mTm w1, mTn w1, mIs w1, mFi w1, mSe w1, mMk w1)))) (gc ((gMov (((w1.1.1, w1.1.2.1, w1.1.2.2), nI (0), mPn w1, mTm w1, mTn w1, mIs w1, mFi w1, mSe w1, mMk w1)).1 (mPn (((w1.1.1, w1.1.2.1, w1.1.2.2), nI (0), mPn w1, mTm w1, mTn w1, mIs w1, mFi w1, mSe w1, mMk w1))) x y, nI 0, mPn (((w1.1.1, w1.1.2.1, w1.1.2.2), nI (0), mPn w1, mTm w1, mTn w1, mIs w1, mFi w1, mSe w1, mMk w1)) + 1, (((w1.1.1, w1.1.2.1, w1.1.2.2), nI (0), mPn w1, mTm w1, mTn w1, mIs w1, mFi w1, mSe w1, mMk w1)).2.2.2)).1 t 1) (gc ((gMov (((w1.1.1, w1.1.2.1, w1.1.2.2), nI (0), mPn w1, mTm w1, mTn w1, mIs w1, mFi w1, mSe w1, mMk w1)).1 (mPn (((w1.1.1, w1.1.2.1, w1.1.2.2), nI (0), mPn w1, mTm w1, mTn w1, mIs w1, mFi w1, mSe w1, mMk w1))) x y, nI 0, mPn (((w1.1.1, w1.1.2.1, w1.1.2.2), nI (0), mPn w1, mTm w1, mTn w1, mIs w1, mFi w1, mSe w1, mMk w1)) + 1, (((w1.1.1, w1.1.2.1, w1.1.2.2), nI (0), mPn w1, mTm w1, mTn w1, mIs w1, mFi w1, mSe w1, mMk w1)).2.2.2)).1 t 2) (mPn (((w1.1.1, w1.1.2.1, w1.1.2.2), nI (0), mPn w1, mTm w1, mTn w1, mIs w1, mFi w1, mSe w1, mMk w1))))) := hD
                refine W.eq (g2 := F0 m 262 ls [.int (nI (mTm (mSet ((gMov (((w1.1.1, w1.1.2.1, w1.1.2.2), nI (0), mPn w1, mTm w1, mTn w1, mIs w1, mFi w1, mSe w1, mMk w1)).1 (mPn (((w1.1.1, w1.1.2.1, w1.1.2.2), nI (0), mPn w1, mTm w1, mTn w1, mIs w1, mFi w1, mSe w1, mMk w1))) x y, nI 0, mPn (((w1.1.1, w1.1.2.1, w1.1.2.2), nI (0), mPn w1, mTm w1, mTn w1, mIs w1, mFi w1, mSe w1, mMk w1)) + 1, (((w1.1.1, w1.1.2.1, w1.1.2.2), nI (0), mPn w1, mTm w1, mTn w1, mIs w1, mFi w1, mSe w1, mMk w1)).2.2.2)) t (gc ((gMov (((w1.1.1, w1.1.2.1, w1.1.2.2), nI (0), mPn w1, mTm w1, mTn w1, mIs w1, mFi w1, mSe w1, mMk w1)).1 (mPn (((w1.1.1, w1.1.2.1, w1.1.2.2), nI (0), mPn w1, mTm w1, mTn w1, mIs w1, mFi w1, mSe w1, mMk w1))) x y, nI 0, mPn (((w1.1.1, w1.1.2.1, w1.1.2.2), nI (0), mPn w1, mTm w1, mTn w1, mIs w1, mFi w1, mSe w1, mMk w1)) + 1, (((w1.1.1, w1.1.2.1, w1.1.2.2), nI (0), mPn w1, mTm w1, mTn w1, mIs w1, mFi w1, mSe w1, mMk w1)).2.2.2)).1 t 0) (gc ((gMov (((w1.1.1, w1.1.2.1, w1.1.2.2), nI (0), mPn w1, mTm w1, mTn w1, mIs w1, mFi w1, mSe w1, mMk w1)).1 (mPn (((w1.1.1, w1.1.2.1, w1.1.2.2), nI (0), mPn w1, mTm w1, mTn w1, mIs w1, mFi w1, mSe w1, mMk w1))) x y, nI 0, mPn (((w1.1.1, w1.1.2.1, w1.1.2.2), nI (0), mPn w1, mTm w1, mTn w1, mIs w1, mFi w1, mSe w1, mMk w1)) + 1, (((w1.1.1, w1.1.2.1, w1.1.2.2), nI (0), mPn w1, mTm w1, mTn w1, mIs w1, mFi w1, mSe w1, mMk w1)).2.2.2)).1 t 1) (mPn (((w1.1.1, w1.1.2.1, w1.1.2.2), nI (0), mPn w1, mTm w1, mTn w1, mIs w1, mFi w1, mSe w1, mMk w1))))))]) rfl ?_
                refine lv_istore (lv' := [(10, .int (nI (mTm (mSet ((gMov (((w1.1.1, w1.1.2.1, w1.1.2.2), nI (0), mPn w1, mTm w1, mTn w1, mIs w1, mFi w1, mSe w1, mMk w1)).1 (mPn (((w1.1.1, w1.1.2.1, w1.1.2.2), nI (0), mPn w1, mTm w1, mTn w1, mIs w1, mFi w1, mSe w1, mMk w1))) x y, nI 0, mPn (((w1.1.1, w1.1.2.1, w1.1.2.2), nI (0), mPn w1, mTm w1, mTn w1, mIs w1, mFi w1, mSe w1, mMk w1)) + 1, (((w1.1.1, w1.1.2.1, w1.1.2.2), nI (0), mPn w1, mTm w1, mTn w1, mIs w1, mFi w1, mSe w1, mMk w1)).2.2.2)) t (gc ((gMov (((w1.1.1, w1.1.2.1, w1.1.2.2), nI (0), mPn w1, mTm w1, mTn w1, mIs w1, mFi w1, mSe w1, mMk w1)).1 (mPn (((w1.1.1, w1.1.2.1, w1.1.2.2), nI (0), mPn w1, mTm w1, mTn w1, mIs w1, mFi w1, mSe w1, mMk w1))) x y, nI 0, mPn (((w1.1.1, w1.1.2.1, w1.1.2.2), nI (0), mPn w1, mTm w1, mTn w1, mIs w1, mFi w1, mSe w1, mMk w1)) + 1, (((w1.1.1, w1.1.2.1, w1.1.2.2), nI (0), mPn w1, mTm w1, mTn w1, mIs w1, mFi w1, mSe w1, mMk w1)).2.2.2)).1 t 0) (gc ((gMov (((w1.1.1, w1.1.2.1, w1.1.2.2), nI (0), mPn w1, mTm w1, mTn w1, mIs w1, mFi w1, mSe w1, mMk w1)).1 (mPn (((w1.1.1, w1.1.2.1, w1.1.2.2), nI (0), mPn w1, mTm w1, mTn w1, mIs w1, mFi w1, mSe w1, mMk w1))) x y, nI 0, mPn (((w1.1.1, w1.1.2.1, w1.1.2.2), nI (0), mPn w1, mTm w1, mTn w1, mIs w1, mFi w1, mSe w1, mMk w1)) + 1, (((w1.1.1, w1.1.2.1, w1.1.2.2), nI (0), mPn w1, mTm w1, mTn w1, mIs w1, mFi w1, mSe w1, mMk w1)).2.2.2)).1 t 1) (mPn (((w1.1.1, w1.1.2.1, w1.1.2.2), nI (0), mPn w1, mTm w1, mTn w1, mIs w1, mFi w1, mSe w1, mMk w1))))))), (9, .int (nI (gc ((gMov (((w1.1.1, w1.1.2.1, w1.1.2.2), nI (0), mPn w1, mTm w1, mTn w1, mIs w1, mFi w1, mSe w1, mMk w1)).1 (mPn (((w1.1.1, w1.1.2.1, w1.1.2.2), nI (0), mPn w1, mTm w1, mTn w1, mIs w1, mFi w1, mSe w1, mMk w1))) x y, nI 0, mPn (((w1.1.1, w1.1.2.1, w1.1.2.2), nI (0), mPn w1, mTm w1, mTn w1, mIs w1, mFi w1, mSe w1, mMk w1)) + 1, (((w1.1.1, w1.1.2.1, w1.1.2.2), nI (0), mPn w1, mTm w1, mTn w1, mIs w1, mFi w1, mSe w1, mMk w1)).2.2.2)).1 t 2))), (8, .int (nI (gc ((gMov (((w1.1.1, w1.1.2.1, w1.1.2.2), nI (0), mPn w1, mTm w1, mTn w1, mIs w1, mFi w1, mSe w1, mMk w1)).1 (mPn (((w1.1.1, w1.1.2.1, w1.1.2.2), nI (0), mPn w1, mTm w1, mTn w1, mIs w1, mFi w1, mSe w1, mMk w1))) x y, nI 0, mPn (((w1.1.1, w1.1.2.1, w1.1.2.2), nI (0), mPn w1, mTm w1, mTn w1, mIs w1, mFi w1, mSe w1, mMk w1)) + 1, (((w1.1.1, w1.1.2.1, w1.1.2.2), nI (0), mPn w1, mTm w1, mTn w1, mIs w1, mFi w1, mSe w1, mMk w1)).2.2.2)).1 t 1))), (7, .int (nI (gc ((gMov (((w1.1.1, w1.1.2.1, w1.1.2.2), nI (0), mPn w1, mTm w1, mTn w1, mIs w1, mFi w1, mSe w1, mMk w1)).1 (mPn (((w1.1.1, w1.1.2.1, w1.1.2.2), nI (0), mPn w1, mTm w1, mTn w1, mIs w1, mFi w1, mSe w1, mMk w1))) x y, nI 0, mPn (((w1.1.1, w1.1.2.1, w1.1.2.2), nI (0), mPn w1, mTm w1, mTn w1, mIs w1, mFi w1, mSe w1, mMk w1)) + 1, (((w1.1.1, w1.1.2.1, w1.1.2.2), nI (0), mPn w1, mTm w1, mTn w1, mIs w1, mFi w1, mSe w1, mMk w1)).2.2.2)).1 t 0))), (6, .int (nI (mPn (((w1.1.1, w1.1.2.1, w1.1.2.2), nI (0), mPn w1, mTm w1, mTn w1, mIs w1, mFi w1, mSe w1, mMk w1))))), (0, .ref (b 0)), (1, .int (nI (t))), (2, .int (nI (x))), (3, .int (nI (y))), (4, .int (nI (t))), (5, .int (bI (b2)))]) hx hb dX3_part_262 hl (by decide) rfl (fun ls hl => ?_)
                refine lv_aload_n hx hb dX3_part_264 rfl (lv_at hl 5 rfl) ?_
                refine lv_iload hx hb dX3_part_265 (lv_at hl 1 rfl) ?_
                refine lv_iload hx hb dX3_part_267 (lv_at hl 3 rfl) ?_
                refine lv_iload hx hb dX3_part_269 (lv_at hl 4 rfl) ?_
                refine wr_V (As := [.int (nI (gc ((gMov (((w1.1.1, w1.1.2.1, w1.1.2.2), nI (0), mPn w1, mTm w1, mTn w1, mIs w1, mFi w1, mSe w1, mMk w1)).1 (mPn (((w1.1.1, w1.1.2.1, w1.1.2.2), nI (0), mPn w1, mTm w1, mTn w1, mIs w1, mFi w1, mSe w1, mMk w1))) x y, nI 0, mPn (((w1.1.1, w1.1.2.1, w1.1.2.2), nI (0), mPn w1, mTm w1, mTn w1, mIs w1, mFi w1, mSe w1, mMk w1)) + 1, (((w1.1.1, w1.1.2.1, w1.1.2.2), nI (0), mPn w1, mTm w1, mTn w1, mIs w1, mFi w1, mSe w1, mMk w1)).2.2.2)).1 t 2)), .int (nI (gc ((gMov (((w1.1.1, w1.1.2.1, w1.1.2.2), nI (0), mPn w1, mTm w1, mTn w1, mIs w1, mFi w1, mSe w1, mMk w1)).1 (mPn (((w1.1.1, w1.1.2.1, w1.1.2.2), nI (0), mPn w1, mTm w1, mTn w1, mIs w1, mFi w1, mSe w1, mMk w1))) x y, nI 0, mPn (((w1.1.1, w1.1.2.1, w1.1.2.2), nI (0), mPn w1, mTm w1, mTn w1, mIs w1, mFi w1, mSe w1, mMk w1)) + 1, (((w1.1.1, w1.1.2.1, w1.1.2.2), nI (0), mPn w1, mTm w1, mTn w1, mIs w1, mFi w1, mSe w1, mMk w1)).2.2.2)).1 t 0)), .int (nI (mPn (((w1.1.1, w1.1.2.1, w1.1.2.2), nI (0), mPn w1, mTm w1, mTn w1, mIs w1, mFi w1, mSe w1, mMk w1))))]) (rest := []) (q0 := 0) (ci := 3) hx hb hml hown hts (c_X3_add l dC dI cI cL cZ b (mAdd (mSet ((gMov (((w1.1.1, w1.1.2.1, w1.1.2.2), nI (0), mPn w1, mTm w1, mTn w1, mIs w1, mFi w1, mSe w1, mMk w1)).1 (mPn (((w1.1.1, w1.1.2.1, w1.1.2.2), nI (0), mPn w1, mTm w1, mTn w1, mIs w1, mFi w1, mSe w1, mMk w1))) x y, nI 0, mPn (((w1.1.1, w1.1.2.1, w1.1.2.2), nI (0), mPn w1, mTm w1, mTn w1, mIs w1, mFi w1, mSe w1, mMk w1)) + 1, (((w1.1.1, w1.1.2.1, w1.1.2.2), nI (0), mPn w1, mTm w1, mTn w1, mIs w1, mFi w1, mSe w1, mMk w1)).2.2.2)) t (gc ((gMov (((w1.1.1, w1.1.2.1, w1.1.2.2), nI (0), mPn w1, mTm w1, mTn w1, mIs w1, mFi w1, mSe w1, mMk w1)).1 (mPn (((w1.1.1, w1.1.2.1, w1.1.2.2), nI (0), mPn w1, mTm w1, mTn w1, mIs w1, mFi w1, mSe w1, mMk w1))) x y, nI 0, mPn (((w1.1.1, w1.1.2.1, w1.1.2.2), nI (0), mPn w1, mTm w1, mTn w1, mIs w1, mFi w1, mSe w1, mMk w1)) + 1, (((w1.1.1, w1.1.2.1, w1.1.2.2), nI (0), mPn w1, mTm w1, mTn w1, mIs w1, mFi w1, mSe w1, mMk w1)).2.2.2)).1 t 0) (gc ((gMov (((w1.1.1, w1.1.2.1, w1.1.2.2), nI (0), mPn w1, mTm w1, mTn w1, mIs w1, mFi w1, mSe w1, mMk w1)).1 (mPn (((w1.1.1, w1.1.2.1, w1.1.2.2), nI (0), mPn w1, mTm w1, mTn w1, mIs w1, mFi w1, mSe w1, mMk w1))) x y, nI 0, mPn (((w1.1.1, w1.1.2.1, w1.1.2.2), nI (0), mPn w1, mTm w1, mTn w1, mIs w1, mFi w1, mSe w1, mMk w1)) + 1, (((w1.1.1, w1.1.2.1, w1.1.2.2), nI (0), mPn w1, mTm w1, mTn w1, mIs w1, mFi w1, mSe w1, mMk w1)).2.2.2)).1 t 1) (mPn (((w1.1.1, w1.1.2.1, w1.1.2.2), nI (0), mPn w1, mTm w1, mTn w1, mIs w1, mFi w1, mSe w1, mMk w1)))) (gc ((gMov (((w1.1.1, w1.1.2.1, w1.1.2.2), nI (0), mPn w1, mTm w1, mTn w1, mIs w1, mFi w1, mSe w1, mMk w1)).1 (mPn (((w1.1.1, w1.1.2.1, w1.1.2.2), nI (0), mPn w1, mTm w1, mTn w1, mIs w1, mFi w1, mSe w1, mMk w1))) x y, nI 0, mPn (((w1.1.1, w1.1.2.1, w1.1.2.2), nI (0), mPn w1, mTm w1, mTn w1, mIs w1, mFi w1, mSe w1, mMk w1)) + 1, (((w1.1.1, w1.1.2.1, w1.1.2.2), nI (0), mPn w1, mTm w1, mTn w1, mIs w1, mFi w1, mSe w1, mMk w1)).2.2.2)).1 t 1) (gc ((gMov (((w1.1.1, w1.1.2.1, w1.1.2.2), nI (0), mPn w1, mTm w1, mTn w1, mIs w1, mFi w1, mSe w1, mMk w1)).1 (mPn (((w1.1.1, w1.1.2.1, w1.1.2.2), nI (0), mPn w1, mTm w1, mTn w1, mIs w1, mFi w1, mSe w1, mMk w1))) x y, nI 0, mPn (((w1.1.1, w1.1.2.1, w1.1.2.2), nI (0), mPn w1, mTm w1, mTn w1, mIs w1, mFi w1, mSe w1, mMk w1)) + 1, (((w1.1.1, w1.1.2.1, w1.1.2.2), nI (0), mPn w1, mTm w1, mTn w1, mIs w1, mFi w1, mSe w1, mMk w1)).2.2.2)).1 t 2) (mPn (((w1.1.1, w1.1.2.1, w1.1.2.2), nI (0), mPn w1, mTm w1, mTn w1, mIs w1, mFi w1, mSe w1, mMk w1)))) (gc ((gMov (((w1.1.1, w1.1.2.1, w1.1.2.2), nI (0), mPn w1, mTm w1, mTn w1, mIs w1, mFi w1, mSe w1, mMk w1)).1 (mPn (((w1.1.1, w1.1.2.1, w1.1.2.2), nI (0), mPn w1, mTm w1, mTn w1, mIs w1, mFi w1, mSe w1, mMk w1))) x y, nI 0, mPn (((w1.1.1, w1.1.2.1, w1.1.2.2), nI (0), mPn w1, mTm w1, mTn w1, mIs w1, mFi w1, mSe w1, mMk w1)) + 1, (((w1.1.1, w1.1.2.1, w1.1.2.2), nI (0), mPn w1, mTm w1, mTn w1, mIs w1, mFi w1, mSe w1, mMk w1)).2.2.2)).1 t 2) (gc ((gMov (((w1.1.1, w1.1.2.1, w1.1.2.2), nI (0), mPn w1, mTm w1, mTn w1, mIs w1, mFi w1, mSe w1, mMk w1)).1 (mPn (((w1.1.1, w1.1.2.1, w1.1.2.2), nI (0), mPn w1, mTm w1, mTn w1, mIs w1, mFi w1, mSe w1, mMk w1))) x y, nI 0, mPn (((w1.1.1, w1.1.2.1, w1.1.2.2), nI (0), mPn w1, mTm w1, mTn w1, mIs w1, mFi w1, mSe w1, mMk w1)) + 1, (((w1.1.1, w1.1.2.1, w1.1.2.2), nI (0), mPn w1, mTm w1, mTn w1, mIs w1, mFi w1, mSe w1, mMk w1)).2.2.2)).1 t 0) (mPn (((w1.1.1, w1.1.2.1, w1.1.2.2), nI (0), mPn w1, mTm w1, mTn w1, mIs w1, mFi w1, mSe w1, mMk w1))) (show mTm w1 + 1 < 200 by omega)) (cwV 3 hts gX3_part_X3_add rfl rfl rfl (by decide +kernel) ⟨Nat.le_of_ble_eq_true rfl, Nat.le_of_ble_eq_true rfl⟩) hK hP hD hS rfl rfl rfl rfl hl.1 rfl (Nat.le_of_ble_eq_true rfl) dX3_part_271 ⟨Nat.zero_le _, Nat.zero_le _⟩ (fun H locs hP hD hS => ?_)
                have hP : va_P (dC, dI) vwCl (wM cI cZ b (mAdd (mAdd (mSet ((gMov (((w1.1.1, w1.1.2.1, w1.1.2.2), nI (0), mPn w1, mTm w1, mTn w1, mIs w1, mFi w1, mSe w1, mMk w1)).1 (mPn (((w1.1.1, w1.1.2.1, w1.1.2.2), nI (0), mPn w1, mTm w1, mTn w1, mIs w1, mFi w1, mSe w1, mMk w1))) x y, nI 0, mPn (((w1.1.1, w1.1.2.1, w1.1.2.2), nI (0), mPn w1, mTm w1, mTn w1, mIs w1, mFi w1, mSe w1, mMk w1)) + 1, (((w1.1.1, w1.1.2.1, w1.1.2.2), nI (0), mPn w1, mTm w1, mTn w1, mIs w1, mFi w1, mSe w1, mMk w1)).2.2.2)) t (gc ((gMov (((w1.1.1, w1.1.2.1, w1.1.2.2), nI (0), mPn w1, mTm w1, mTn w1, mIs w1, mFi w1, mSe w1, mMk w1)).1 (mPn (((w1.1.1, w1.1.2.1, w1.1.2.2), nI (0), mPn w1, mTm w1, mTn w1, mIs w1, mFi w1, mSe w1, mMk w1))) x y, nI 0, mPn (((w1.1.1, w1.1.2.1, w1.1.2.2), nI (0), mPn w1, mTm w1, mTn w1, mIs w1, mFi w1, mSe w1, mMk w1)) + 1, (((w1.1.1, w1.1.2.1, w1.1.2.2), nI (0), mPn w1, mTm w1, mTn w1, mIs w1, mFi w1, mSe w1, mMk w1)).2.2.2)).1 t 0) (gc ((gMov (((w1.1.1, w1.1.2.1, w1.1.2.2), nI (0), mPn w1, mTm w1, mTn w1, mIs w1, mFi w1, mSe w1, mMk w1)).1 (mPn (((w1.1.1, w1.1.2.1, w1.1.2.2), nI (0), mPn w1, mTm w1, mTn w1, mIs w1, mFi w1, mSe w1, mMk w1))) x y, nI 0, mPn (((w1.1.1, w1.1.2.1, w1.1.2.2), nI (0), mPn w1, mTm w1, mTn w1, mIs w1, mFi w1, mSe w1, mMk w1)) + 1, (((w1.1.1, w1.1.2.1, w1.1.2.2), nI (0), mPn w1, mTm w1, mTn w1, mIs w1, mFi w1, mSe w1, mMk w1)).2.2.2)).1 t 1) (mPn (((w1.1.1, w1.1.2.1, w1.1.2.2), nI (0), mPn w1, mTm w1, mTn w1, mIs w1, mFi w1, mSe w1, mMk w1)))) (gc ((gMov (((w1.1.1, w1.1.2.1, w1.1.2.2), nI (0), mPn w1, mTm w1, mTn w1, mIs w1, mFi w1, mSe w1, mMk w1)).1 (mPn (((w1.1.1, w1.1.2.1, w1.1.2.2), nI (0), mPn w1, mTm w1, mTn w1, mIs w1, mFi w1, mSe w1, mMk w1))) x y, nI 0, mPn (((w1.1.1, w1.1.2.1, w1.1.2.2), nI (0), mPn w1, mTm w1, mTn w1, mIs w1, mFi w1, mSe w1, mMk w1)) + 1, (((w1.1.1, w1.1.2.1, w1.1.2.2), nI (0), mPn w1, mTm w1, mTn w1, mIs w1, mFi w1, mSe w1, mMk w1)).2.2.2)).1 t 1) (gc ((gMov (((w1.1.1, w1.1.2.1, w1.1.2.2), nI (0), mPn w1, mTm w1, mTn w1, mIs w1, mFi w1, mSe w1, mMk w1)).1 (mPn (((w1.1.1, w1.1.2.1, w1.1.2.2), nI (0), mPn w1, mTm w1, mTn w1, mIs w1, mFi w1, mSe w1, mMk w1))) x y, nI 0, mPn (((w1.1.1, w1.1.2.1, w1.1.2.2), nI (0), mPn w1, mTm w1, mTn w1, mIs w1, mFi w1, mSe w1, mMk w1)) + 1, (((w1.1.1, w1.1.2.1, w1.1.2.2), nI (0), mPn w1, mTm w1, mTn w1, mIs w1, mFi w1, mSe w1, mMk w1)).2.2.2)).1 t 2) (mPn (((w1.1.1, w1.1.2.1, w1.1.2.2), nI (0), mPn w1, mTm w1, mTn w1, mIs w1, mFi w1, mSe w1, mMk w1)))) (gc ((gMov (((w1.1.1, w1.1.2.1, w1.1.2.2), nI (0), mPn w1, mTm w1, mTn w1, mIs w1, mFi w1, mSe w1, mMk w1)).1 (mPn (((w1.1.1, w1.1.2.1, w1.1.2.2), nI (0), mPn w1, mTm w1, mTn w1, mIs w1, mFi w1, mSe w1, mMk w1))) x y, nI 0, mPn (((w1.1.1, w1.1.2.1, w1.1.2.2), nI (0), mPn w1, mTm w1, mTn w1, mIs w1, mFi w1, mSe w1, mMk w1)) + 1, (((w1.1.1, w1.1.2.1, w1.1.2.2), nI (0), mPn w1, mTm w1, mTn w1, mIs w1, mFi w1, mSe w1, mMk w1)).2.2.2)).1 t 2) (gc ((gMov (((w1.1.1, w1.1.2.1, w1.1.2.2), nI (0), mPn w1, mTm w1, mTn w1, mIs w1, mFi w1, mSe w1, mMk w1)).1 (mPn (((w1.1.1, w1.1.2.1, w1.1.2.2), nI (0), mPn w1, mTm w1, mTn w1, mIs w1, mFi w1, mSe w1, mMk w1))) x y, nI 0, mPn (((w1.1.1, w1.1.2.1, w1.1.2.2), nI (0), mPn w1, mTm w1, mTn w1, mIs w1, mFi w1, mSe w1, mMk w1)) + 1, (((w1.1.1, w1.1.2.1, w1.1.2.2), nI (0), mPn w1, mTm w1, mTn w1, mIs w1, mFi w1, mSe w1, mMk w1)).2.2.2)).1 t 0) (mPn (((w1.1.1, w1.1.2.1, w1.1.2.2), nI (0), mPn w1, mTm w1, mTn w1, mIs w1, mFi w1, mSe w1, mMk w1))))) H := hP
                have hD : va_D (inW (wM cI cZ b w)) (wM cI cZ b (mAdd (mAdd (mSet ((gMov (((w1.1.1, w1.1.2.1, w1.1.2.2), nI (0), mPn w1, mTm w1, mTn w1, mIs w1, mFi w1, mSe w1, mMk w1)).1 (mPn (((w1.1.1, w1.1.2.1, w1.1.2.2), nI (0), mPn w1, mTm w1, mTn w1, mIs w1, mFi w1, mSe w1, mMk w1))) x y, nI 0, mPn (((w1.1.1, w1.1.2.1, w1.1.2.2), nI (0), mPn w1, mTm w1, mTn w1, mIs w1, mFi w1, mSe w1, mMk w1)) + 1, (((w1.1.1, w1.1.2.1, w1.1.2.2), nI (0), mPn w1, mTm w1, mTn w1, mIs w1, mFi w1, mSe w1, mMk w1)).2.2.2)) t (gc ((gMov (((w1.1.1, w1.1.2.1, w1.1.2.2), nI (0), mPn w1, mTm w1, mTn w1, mIs w1, mFi w1, mSe w1, mMk w1)).1 (mPn (((w1.1.1, w1.1.2.1, w1.1.2.2), nI (0), mPn w1, mTm w1, mTn w1, mIs w1, mFi w1, mSe w1, mMk w1))) x y, nI 0, mPn (((w1.1.1, w1.1.2.1, w1.1.2.2), nI (0), mPn w1, mTm w1, mTn w1, mIs w1, mFi w1, mSe w1, mMk w1)) + 1, (((w1.1.1, w1.1.2.1, w1.1.2.2), nI (0), mPn w1, mTm w1, mTn w1, mIs w1, mFi w1, mSe w1, mMk w1)).2.2.2)).1 t 0) (gc ((gMov (((w1.1.1, w1.1.2.1, w1.1.2.2), nI (0), mPn w1, mTm w1, mTn w1, mIs w1, mFi w1, mSe w1, mMk w1)).1 (mPn (((w1.1.1, w1.1.2.1, w1.1.2.2), nI (0), mPn w1, mTm w1, mTn w1, mIs w1, mFi w1, mSe w1, mMk w1))) x y, nI 0, mPn (((w1.1.1, w1.1.2.1, w1.1.2.2), nI (0), mPn w1, mTm w1, mTn w1, mIs w1, mFi w1, mSe w1, mMk w1)) + 1, (((w1.1.1, w1.1.2.1, w1.1.2.2), nI (0), mPn w1, mTm w1, mTn w1, mIs w1, mFi w1, mSe w1, mMk w1)).2.2.2)).1 t 1) (mPn (((w1.1.1, w1.1.2.1, w1.1.2.2), nI (0), mPn w1, mTm w1, mTn w1, mIs w1, mFi w1, mSe w1, mMk w1)))) (gc ((gMov (((w1.1.1, w1.1.2.1, w1.1.2.2), nI (0), mPn w1, mTm w1, mTn w1, mIs w1, mFi w1, mSe w1, mMk w1)).1 (mPn (((w1.1.1, w1.1.2.1, w1.1.2.2), nI (0), mPn w1, mTm w1, mTn w1, mIs w1, mFi w1, mSe w1, mMk w1))) x y, nI 0, mPn (((w1.1.1, w1.1.2.1, w1.1.2.2), nI (0), mPn w1, mTm w1, mTn w1, mIs w1, mFi w1, mSe w1, mMk w1)) + 1, (((w1.1.1, w1.1.2.1, w1.1.2.2), nI (0), mPn w1, mTm w1, mTn w1, mIs w1, mFi w1, mSe w1, mMk w1)).2.2.2)).1 t 1) (gc ((gMov (((w1.1.1, w1.1.2.1, w1.1.2.2), nI (0), mPn w1, mTm w1, mTn w1, mIs w1, mFi w1, mSe w1, mMk w1)).1 (mPn (((w1.1.1, w1.1.2.1, w1.1.2.2), nI (0), mPn w1, mTm w1, mTn w1, mIs w1, mFi w1, mSe w1, mMk w1))) x y, nI 0, mPn (((w1.1.1, w1.1.2.1, w1.1.2.2), nI (0), mPn w1, mTm w1, mTn w1, mIs w1, mFi w1, mSe w1, mMk w1)) + 1, (((w1.1.1, w1.1.2.1, w1.1.2.2), nI (0), mPn w1, mTm w1, mTn w1, mIs w1, mFi w1, mSe w1, mMk w1)).2.2.2)).1 t 2) (mPn (((w1.1.1, w1.1.2.1, w1.1.2.2), nI (0), mPn w1, mTm w1, mTn w1, mIs w1, mFi w1, mSe w1, mMk w1)))) (gc ((gMov (((w1.1.1, w1.1.2.1, w1.1.2.2), nI (0), mPn w1, mTm w1, mTn w1, mIs w1, mFi w1, mSe w1, mMk w1)).1 (mPn (((w1.1.1, w1.1.2.1, w1.1.2.2), nI (0), mPn w1, mTm w1, mTn w1, mIs w1, mFi w1, mSe w1, mMk w1))) x y, nI 0, mPn (((w1.1.1, w1.1.2.1, w1.1.2.2), nI (0), mPn w1, mTm w1, mTn w1, mIs w1, mFi w1, mSe w1, mMk w1)) + 1, (((w1.1.1, w1.1.2.1, w1.1.2.2), nI (0), mPn w1, mTm w1, mTn w1, mIs w1, mFi w1, mSe w1, mMk w1)).2.2.2)).1 t 2) (gc ((gMov (((w1.1.1, w1.1.2.1, w1.1.2.2), nI (0), mPn w1, mTm w1, mTn w1, mIs w1, mFi w1, mSe w1, mMk w1)).1 (mPn (((w1.1.1, w1.1.2.1, w1.1.2.2), nI (0), mPn w1, mTm w1, mTn w1, mIs w1, mFi w1, mSe w1, mMk w1))) x y, nI 0, mPn (((w1.1.1, w1.1.2.1, w1.1.2.2), nI (0), mPn w1, mTm w1, mTn w1, mIs w1, mFi w1, mSe w1, mMk w1)) + 1, (((w1.1.1, w1.1.2.1, w1.1.2.2), nI (0), mPn w1, mTm w1, mTn w1, mIs w1, mFi w1, mSe w1, mMk w1)).2.2.2)).1 t 0) (mPn (((w1.1.1, w1.1.2.1, w1.1.2.2), nI (0), mPn w1, mTm w1, mTn w1, mIs w1, mFi w1, mSe w1, mMk w1))))) := hD
                refine W.eq (g2 := F0 m 274 ls [.int (nI (mTm (mAdd (mSet ((gMov (((w1.1.1, w1.1.2.1, w1.1.2.2), nI (0), mPn w1, mTm w1, mTn w1, mIs w1, mFi w1, mSe w1, mMk w1)).1 (mPn (((w1.1.1, w1.1.2.1, w1.1.2.2), nI (0), mPn w1, mTm w1, mTn w1, mIs w1, mFi w1, mSe w1, mMk w1))) x y, nI 0, mPn (((w1.1.1, w1.1.2.1, w1.1.2.2), nI (0), mPn w1, mTm w1, mTn w1, mIs w1, mFi w1, mSe w1, mMk w1)) + 1, (((w1.1.1, w1.1.2.1, w1.1.2.2), nI (0), mPn w1, mTm w1, mTn w1, mIs w1, mFi w1, mSe w1, mMk w1)).2.2.2)) t (gc ((gMov (((w1.1.1, w1.1.2.1, w1.1.2.2), nI (0), mPn w1, mTm w1, mTn w1, mIs w1, mFi w1, mSe w1, mMk w1)).1 (mPn (((w1.1.1, w1.1.2.1, w1.1.2.2), nI (0), mPn w1, mTm w1, mTn w1, mIs w1, mFi w1, mSe w1, mMk w1))) x y, nI 0, mPn (((w1.1.1, w1.1.2.1, w1.1.2.2), nI (0), mPn w1, mTm w1, mTn w1, mIs w1, mFi w1, mSe w1, mMk w1)) + 1, (((w1.1.1, w1.1.2.1, w1.1.2.2), nI (0), mPn w1, mTm w1, mTn w1, mIs w1, mFi w1, mSe w1, mMk w1)).2.2.2)).1 t 0) (gc ((gMov (((w1.1.1, w1.1.2.1, w1.1.2.2), nI (0), mPn w1, mTm w1, mTn w1, mIs w1, mFi w1, mSe w1, mMk w1)).1 (mPn (((w1.1.1, w1.1.2.1, w1.1.2.2), nI (0), mPn w1, mTm w1, mTn w1, mIs w1, mFi w1, mSe w1, mMk w1))) x y, nI 0, mPn (((w1.1.1, w1.1.2.1, w1.1.2.2), nI (0), mPn w1, mTm w1, mTn w1, mIs w1, mFi w1, mSe w1, mMk w1)) + 1, (((w1.1.1, w1.1.2.1, w1.1.2.2), nI (0), mPn w1, mTm w1, mTn w1, mIs w1, mFi w1, mSe w1, mMk w1)).2.2.2)).1 t 1) (mPn (((w1.1.1, w1.1.2.1, w1.1.2.2), nI (0), mPn w1, mTm w1, mTn w1, mIs w1, mFi w1, mSe w1, mMk w1)))) (gc ((gMov (((w1.1.1, w1.1.2.1, w1.1.2.2), nI (0), mPn w1, mTm w1, mTn w1, mIs w1, mFi w1, mSe w1, mMk w1)).1 (mPn (((w1.1.1, w1.1.2.1, w1.1.2.2), nI (0), mPn w1, mTm w1, mTn w1, mIs w1, mFi w1, mSe w1, mMk w1))) x y, nI 0, mPn (((w1.1.1, w1.1.2.1, w1.1.2.2), nI (0), mPn w1, mTm w1, mTn w1, mIs w1, mFi w1, mSe w1, mMk w1)) + 1, (((w1.1.1, w1.1.2.1, w1.1.2.2), nI (0), mPn w1, mTm w1, mTn w1, mIs w1, mFi w1, mSe w1, mMk w1)).2.2.2)).1 t 1) (gc ((gMov (((w1.1.1, w1.1.2.1, w1.1.2.2), nI (0), mPn w1, mTm w1, mTn w1, mIs w1, mFi w1, mSe w1, mMk w1)).1 (mPn (((w1.1.1, w1.1.2.1, w1.1.2.2), nI (0), mPn w1, mTm w1, mTn w1, mIs w1, mFi w1, mSe w1, mMk w1))) x y, nI 0, mPn (((w1.1.1, w1.1.2.1, w1.1.2.2), nI (0), mPn w1, mTm w1, mTn w1, mIs w1, mFi w1, mSe w1, mMk w1)) + 1, (((w1.1.1, w1.1.2.1, w1.1.2.2), nI (0), mPn w1, mTm w1, mTn w1, mIs w1, mFi w1, mSe w1, mMk w1)).2.2.2)).1 t 2) (mPn (((w1.1.1, w1.1.2.1, w1.1.2.2), nI (0), mPn w1, mTm w1, mTn w1, mIs w1, mFi w1, mSe w1, mMk w1))))))]) rfl ?_
                refine lv_istore (lv' := [(11, .int (nI (mTm (mAdd (mSet ((gMov (((w1.1.1, w1.1.2.1, w1.1.2.2), nI (0), mPn w1, mTm w1, mTn w1, mIs w1, mFi w1, mSe w1, mMk w1)).1 (mPn (((w1.1.1, w1.1.2.1, w1.1.2.2), nI (0), mPn w1, mTm w1, mTn w1, mIs w1, mFi w1, mSe w1, mMk w1))) x y, nI 0, mPn (((w1.1.1, w1.1.2.1, w1.1.2.2), nI (0), mPn w1, mTm w1, mTn w1, mIs w1, mFi w1, mSe w1, mMk w1)) + 1, (((w1.1.1, w1.1.2.1, w1.1.2.2), nI (0), mPn w1, mTm w1, mTn w1, mIs w1, mFi w1, mSe w1, mMk w1)).2.2.2)) t (gc ((gMov (((w1.1.1, w1.1.2.1, w1.1.2.2), nI (0), mPn w1, mTm w1, mTn w1, mIs w1, mFi w1, mSe w1, mMk w1)).1 (mPn (((w1.1.1, w1.1.2.1, w1.1.2.2), nI (0), mPn w1, mTm w1, mTn w1, mIs w1, mFi w1, mSe w1, mMk w1))) x y, nI 0, mPn (((w1.1.1, w1.1.2.1, w1.1.2.2), nI (0), mPn w1, mTm w1, mTn w1, mIs w1, mFi w1, mSe w1, mMk w1)) + 1, (((w1.1.1, w1.1.2.1, w1.1.2.2), nI (0), mPn w1, mTm w1, mTn w1, mIs w1, mFi w1, mSe w1, mMk w1)).2.2.2)).1 t 0) (gc ((gMov (((w1.1.1, w1.1.2.1, w1.1.2.2), nI (0), mPn w1, mTm w1, mTn w1, mIs w1, mFi w1, mSe w1, mMk w1)).1 (mPn (((w1.1.1, w1.1.2.1, w1.1.2.2), nI (0), mPn w1, mTm w1, mTn w1, mIs w1, mFi w1, mSe w1, mMk w1))) x y, nI 0, mPn (((w1.1.1, w1.1.2.1, w1.1.2.2), nI (0), mPn w1, mTm w1, mTn w1, mIs w1, mFi w1, mSe w1, mMk w1)) + 1, (((w1.1.1, w1.1.2.1, w1.1.2.2), nI (0), mPn w1, mTm w1, mTn w1, mIs w1, mFi w1, mSe w1, mMk w1)).2.2.2)).1 t 1) (mPn (((w1.1.1, w1.1.2.1, w1.1.2.2), nI (0), mPn w1, mTm w1, mTn w1, mIs w1, mFi w1, mSe w1, mMk w1)))) (gc ((gMov (((w1.1.1, w1.1.2.1, w1.1.2.2), nI (0), mPn w1, mTm w1, mTn w1, mIs w1, mFi w1, mSe w1, mMk w1)).1 (mPn (((w1.1.1, w1.1.2.1, w1.1.2.2), nI (0), mPn w1, mTm w1, mTn w1, mIs w1, mFi w1, mSe w1, mMk w1))) x y, nI 0, mPn (((w1.1.1, w1.1.2.1, w1.1.2.2), nI (0), mPn w1, mTm w1, mTn w1, mIs w1, mFi w1, mSe w1, mMk w1)) + 1, (((w1.1.1, w1.1.2.1, w1.1.2.2), nI (0), mPn w1, mTm w1, mTn w1, mIs w1, mFi w1, mSe w1, mMk w1)).2.2.2)).1 t 1) (gc ((gMov (((w1.1.1, w1.1.2.1, w1.1.2.2), nI (0), mPn w1, mTm w1, mTn w1, mIs w1, mFi w1, mSe w1, mMk w1)).1 (mPn (((w1.1.1, w1.1.2.1, w1.1.2.2), nI (0), mPn w1, mTm w1, mTn w1, mIs w1, mFi w1, mSe w1, mMk w1))) x y, nI 0, mPn (((w1.1.1, w1.1.2.1, w1.1.2.2), nI (0), mPn w1, mTm w1, mTn w1, mIs w1, mFi w1, mSe w1, mMk w1)) + 1, (((w1.1.1, w1.1.2.1, w1.1.2.2), nI (0), mPn w1, mTm w1, mTn w1, mIs w1, mFi w1, mSe w1, mMk w1)).2.2.2)).1 t 2) (mPn (((w1.1.1, w1.1.2.1, w1.1.2.2), nI (0), mPn w1, mTm w1, mTn w1, mIs w1, mFi w1, mSe w1, mMk w1))))))), (10, .int (nI (mTm (mSet ((gMov (((w1.1.1, w1.1.2.1, w1.1.2.2), nI (0), mPn w1, mTm w1, mTn w1, mIs w1, mFi w1, mSe w1, mMk w1)).1 (mPn (((w1.1.1, w1.1.2.1, w1.1.2.2), nI (0), mPn w1, mTm w1, mTn w1, mIs w1, mFi w1, mSe w1, mMk w1))) x y, nI 0, mPn (((w1.1.1, w1.1.2.1, w1.1.2.2), nI (0), mPn w1, mTm w1, mTn w1, mIs w1, mFi w1, mSe w1, mMk w1)) + 1, (((w1.1.1, w1.1.2.1, w1.1.2.2), nI (0), mPn w1, mTm w1, mTn w1, mIs w1, mFi w1, mSe w1, mMk w1)).2.2.2)) t (gc ((gMov (((w1.1.1, w1.1.2.1, w1.1.2.2), nI (0), mPn w1, mTm w1, mTn w1, mIs w1, mFi w1, mSe w1, mMk w1)).1 (mPn (((w1.1.1, w1.1.2.1, w1.1.2.2), nI (0), mPn w1, mTm w1, mTn w1, mIs w1, mFi w1, mSe w1, mMk w1))) x y, nI 0, mPn (((w1.1.1, w1.1.2.1, w1.1.2.2), nI (0), mPn w1, mTm w1, mTn w1, mIs w1, mFi w1, mSe w1, mMk w1)) + 1, (((w1.1.1, w1.1.2.1, w1.1.2.2), nI (0), mPn w1, mTm w1, mTn w1, mIs w1, mFi w1, mSe w1, mMk w1)).2.2.2)).1 t 0) (gc ((gMov (((w1.1.1, w1.1.2.1, w1.1.2.2), nI (0), mPn w1, mTm w1, mTn w1, mIs w1, mFi w1, mSe w1, mMk w1)).1 (mPn (((w1.1.1, w1.1.2.1, w1.1.2.2), nI (0), mPn w1, mTm w1, mTn w1, mIs w1, mFi w1, mSe w1, mMk w1))) x y, nI 0, mPn (((w1.1.1, w1.1.2.1, w1.1.2.2), nI (0), mPn w1, mTm w1, mTn w1, mIs w1, mFi w1, mSe w1, mMk w1)) + 1, (((w1.1.1, w1.1.2.1, w1.1.2.2), nI (0), mPn w1, mTm w1, mTn w1, mIs w1, mFi w1, mSe w1, mMk w1)).2.2.2)).1 t 1) (mPn (((w1.1.1, w1.1.2.1, w1.1.2.2), nI (0), mPn w1, mTm w1, mTn w1, mIs w1, mFi w1, mSe w1, mMk w1))))))), (9, .int (nI (gc ((gMov (((w1.1.1, w1.1.2.1, w1.1.2.2), nI (0), mPn w1, mTm w1, mTn w1, mIs w1, mFi w1, mSe w1, mMk w1)).1 (mPn (((w1.1.1, w1.1.2.1, w1.1.2.2), nI (0), mPn w1, mTm w1, mTn w1, mIs w1, mFi w1, mSe w1, mMk w1))) x y, nI 0, mPn (((w1.1.1, w1.1.2.1, w1.1.2.2), nI (0), mPn w1, mTm w1, mTn w1, mIs w1, mFi w1, mSe w1, mMk w1)) + 1, (((w1.1.1, w1.1.2.1, w1.1.2.2), nI (0), mPn w1, mTm w1, mTn w1, mIs w1, mFi w1, mSe w1, mMk w1)).2.2.2)).1 t 2))), (8, .int (nI (gc ((gMov (((w1.1.1, w1.1.2.1, w1.1.2.2), nI (0), mPn w1, mTm w1, mTn w1, mIs w1, mFi w1, mSe w1, mMk w1)).1 (mPn (((w1.1.1, w1.1.2.1, w1.1.2.2), nI (0), mPn w1, mTm w1, mTn w1, mIs w1, mFi w1, mSe w1, mMk w1))) x y, nI 0, mPn (((w1.1.1, w1.1.2.1, w1.1.2.2), nI (0), mPn w1, mTm w1, mTn w1, mIs w1, mFi w1, mSe w1, mMk w1)) + 1, (((w1.1.1, w1.1.2.1, w1.1.2.2), nI (0), mPn w1, mTm w1, mTn w1, mIs w1, mFi w1, mSe w1, mMk w1)).2.2.2)).1 t 1))), (7, .int (nI (gc ((gMov (((w1.1.1, w1.1.2.1, w1.1.2.2), nI (0), mPn w1, mTm w1, mTn w1, mIs w1, mFi w1, mSe w1, mMk w1)).1 (mPn (((w1.1.1, w1.1.2.1, w1.1.2.2), nI (0), mPn w1, mTm w1, mTn w1, mIs w1, mFi w1, mSe w1, mMk w1))) x y, nI 0, mPn (((w1.1.1, w1.1.2.1, w1.1.2.2), nI (0), mPn w1, mTm w1, mTn w1, mIs w1, mFi w1, mSe w1, mMk w1)) + 1, (((w1.1.1, w1.1.2.1, w1.1.2.2), nI (0), mPn w1, mTm w1, mTn w1, mIs w1, mFi w1, mSe w1, mMk w1)).2.2.2)).1 t 0))), (6, .int (nI (mPn (((w1.1.1, w1.1.2.1, w1.1.2.2), nI (0), mPn w1, mTm w1, mTn w1, mIs w1, mFi w1, mSe w1, mMk w1))))), (0, .ref (b 0)), (1, .int (nI (t))), (2, .int (nI (x))), (3, .int (nI (y))), (4, .int (nI (t))), (5, .int (bI (b2)))]) hx hb dX3_part_274 hl (by decide) rfl (fun ls hl => ?_)
                refine lv_iload hx hb dX3_part_276 (lv_at hl 5 rfl) ?_
                exact wr_iret hx hb hr hP hS rfl rfl dX3_part_278 hlocks
              · skip
                have c_9 : ¬ (mTm w1 + 2 ≤ 200) := fun hq9 => c_9 ((nI_leI (a := mTm w1 + 2) (b := 200) (by omega) (by omega)).mpr hq9)
                omega
      · skip
        have c_4 : (b2) = false := bI_f c_4
        exact absurd c_4 (by have e9 : (inB (nI x) 512 && inB (nI y) 512) = true := (by rw [inB_nI (by omega), inB_nI (by omega)]; simp; omega); rw [e9, hd, show k = 0 by omega] at hi; simp [alf] at hi; simp [hi])
    · skip
      have c_3 : ¬ (3 ≤ n) := fun hq9 => c_3 ((nI_leI (a := 3) (b := n) (by omega) (by omega)).mpr hq9)
      refine lv_iload hx hb dX3_part_46 (lv_at hl 5 rfl) ?_
      refine lv_if_eq (tgt := 127) hx hb dX3_part_48 (by decide) (fun c_11 => ?_) (fun c_11 => ?_)
      · skip
        have c_11 : (b2) = false := bI_f c_11
        refine lv_iconst (v := nI (0)) hx hb dX3_part_127 (by decide) ?_
        refine lv_istore (lv' := [(5, .int (nI (0))), (0, .ref (b 0)), (1, .int (nI (t))), (2, .int (nI (x))), (3, .int (nI (y))), (4, .int (nI (t))), (6, .int (nI (n)))]) hx hb dX3_part_128 hl (by decide) rfl (fun ls hl => ?_)
        refine lv_iinc (v := nI (n + 1)) (lv' := [(6, .int (nI (n + 1))), (5, .int (nI (0))), (0, .ref (b 0)), (1, .int (nI (t))), (2, .int (nI (x))), (3, .int (nI (y))), (4, .int (nI (t)))]) hx hb dX3_part_130 hl (k := 6) rfl (nI_1 (n)) (by decide) rfl (fun ls hl => ?_)
        refine lv_goto (tgt := 40) hx hb dX3_part_133 (by decide) ?_
        exact ih_k (k - 1) (n + 1, false) ls _ _ (by omega) ⟨by omega, by rw [hi, alf_s (by omega)]; first | (simp [c_1, c_3, c_11]; done) | (have e9 : decide (0 < tbe w1.1 t n (x : Int) (y : Int)) = false := (by simp; omega); simp [e9]; done) | (have e9 : decide (0 < tbe w1.1 t n (x : Int) (y : Int)) = true := (by simp; omega); simp [e9, c_1, c_3, c_11])⟩ (lv_sub hl [2, 3, 4, 5, 6, 1, 0] rfl) hP hD hS
      · skip
        have c_11 : (b2) = true := bI_t c_11
        refine lv_aload_n hx hb dX3_part_51 rfl (lv_at hl 0 rfl) ?_
        refine va_get (D := (dC, dI)) (ci := 3) (v := .ref (b 1)) (C := RX3) (T := TX3) (N := 11) hx hb hts (by decide +kernel) hown hK hP 0 rfl rfl 4 (by decide) (hts (.fieldLink RX3 7 "TriangleSheetModel" "px" "[I") (by decide +kernel)) (fun _ h9 => h9) rfl dX3_part_52 ?_
        refine lv_aload_n hx hb dX3_part_55 rfl (lv_at hl 0 rfl) ?_
        refine lv_iload hx hb dX3_part_56 (lv_at hl 4 rfl) ?_
        refine lv_iload hx hb dX3_part_58 (lv_at hl 6 rfl) ?_
        refine ro_V (As := [.int (nI (t)), .int (nI (n))]) (rest := [.ref (b 1)]) (q0 := 0) (ci := 3) hx hb hml hown hts (c_X3_at l dC dI cI cL cZ b w1 t n (by omega) (by omega)) (cwV 2 hts gX3_part_X3_at rfl rfl rfl (by decide +kernel) ⟨Nat.le_of_ble_eq_true rfl, Nat.le_of_ble_eq_true rfl⟩) hK hP rfl rfl rfl hl.1 rfl (Nat.le_of_ble_eq_true rfl) dX3_part_60 ⟨Nat.zero_le _, Nat.zero_le _⟩ ?_
        refine ia_ld (k := gc w1.1 t n) hx hb hK hP 1 0 rfl rfl (by omega) (by decide) dX3_part_63 ?_
        refine W.eq (g2 := F0 m 64 ls [.int (nI (w1.1.1 (gc w1.1 t n)))]) rfl ?_
        have bd_12 := hv.1.1 (gc w1.1 t n)
        refine lv_i2l (v := lI (((w1.1.1 (gc w1.1 t n) : Nat) : Int))) hx hb dX3_part_64 (nzI_l (by omega)) ?_
        refine lv_aload_n hx hb dX3_part_65 rfl (lv_at hl 0 rfl) ?_
        refine va_get (D := (dC, dI)) (ci := 3) (v := .ref (b 2)) (C := RX3) (T := TX3) (N := 11) hx hb hts (by decide +kernel) hown hK hP 0 rfl rfl 5 (by decide) (hts (.fieldLink RX3 13 "TriangleSheetModel" "py" "[I") (by decide +kernel)) (fun _ h9 => h9) rfl dX3_part_66 ?_
        refine lv_aload_n hx hb dX3_part_69 rfl (lv_at hl 0 rfl) ?_
        refine lv_iload hx hb dX3_part_70 (lv_at hl 4 rfl) ?_
        refine lv_iload hx hb dX3_part_72 (lv_at hl 6 rfl) ?_
        refine ro_V (As := [.int (nI (t)), .int (nI (n))]) (rest := [.ref (b 2), .long (lI (((w1.1.1 (gc w1.1 t n) : Nat) : Int)))]) (q0 := 0) (ci := 3) hx hb hml hown hts (c_X3_at l dC dI cI cL cZ b w1 t n (by omega) (by omega)) (cwV 2 hts gX3_part_X3_at rfl rfl rfl (by decide +kernel) ⟨Nat.le_of_ble_eq_true rfl, Nat.le_of_ble_eq_true rfl⟩) hK hP rfl rfl rfl hl.1 rfl (Nat.le_of_ble_eq_true rfl) dX3_part_74 ⟨Nat.zero_le _, Nat.zero_le _⟩ ?_
        refine ia_ld (k := gc w1.1 t n) hx hb hK hP 2 0 rfl rfl (by omega) (by decide) dX3_part_77 ?_
        refine W.eq (g2 := F0 m 78 ls [.int (nI (w1.1.2.1 (gc w1.1 t n))), .long (lI (((w1.1.1 (gc w1.1 t n) : Nat) : Int)))]) rfl ?_
        have bd_13 := hv.1.2.1 (gc w1.1 t n)
        refine lv_i2l (v := lI (((w1.1.2.1 (gc w1.1 t n) : Nat) : Int))) hx hb dX3_part_78 (nzI_l (by omega)) ?_
        refine lv_aload_n hx hb dX3_part_79 rfl (lv_at hl 0 rfl) ?_
        refine va_get (D := (dC, dI)) (ci := 3) (v := .ref (b 1)) (C := RX3) (T := TX3) (N := 11) hx hb hts (by decide +kernel) hown hK hP 0 rfl rfl 4 (by decide) (hts (.fieldLink RX3 7 "TriangleSheetModel" "px" "[I") (by decide +kernel)) (fun _ h9 => h9) rfl dX3_part_80 ?_
        refine lv_aload_n hx hb dX3_part_83 rfl (lv_at hl 0 rfl) ?_
        refine lv_iload hx hb dX3_part_84 (lv_at hl 4 rfl) ?_
        refine lv_iload hx hb dX3_part_86 (lv_at hl 6 rfl) ?_
        refine lv_iconst (v := nI (1)) hx hb dX3_part_88 (by decide) ?_
        refine lv_iadd hx hb dX3_part_89 ?_
        refine rt_i (y := (nI (n + 1))) (nn_add (n) (1)) ?_
        refine ro_V (As := [.int (nI (t)), .int (nI (n + 1))]) (rest := [.ref (b 1), .long (lI (((w1.1.2.1 (gc w1.1 t n) : Nat) : Int))), .long (lI (((w1.1.1 (gc w1.1 t n) : Nat) : Int)))]) (q0 := 0) (ci := 3) hx hb hml hown hts (c_X3_at l dC dI cI cL cZ b w1 t (n + 1) (by omega) (by omega)) (cwV 2 hts gX3_part_X3_at rfl rfl rfl (by decide +kernel) ⟨Nat.le_of_ble_eq_true rfl, Nat.le_of_ble_eq_true rfl⟩) hK hP rfl rfl rfl hl.1 rfl (Nat.le_of_ble_eq_true rfl) dX3_part_90 ⟨Nat.zero_le _, Nat.zero_le _⟩ ?_
        refine ia_ld (k := gc w1.1 t (n + 1)) hx hb hK hP 1 0 rfl rfl (by omega) (by decide) dX3_part_93 ?_
        refine W.eq (g2 := F0 m 94 ls [.int (nI (w1.1.1 (gc w1.1 t (n + 1)))), .long (lI (((w1.1.2.1 (gc w1.1 t n) : Nat) : Int))), .long (lI (((w1.1.1 (gc w1.1 t n) : Nat) : Int)))]) rfl ?_
        have bd_14 := hv.1.1 (gc w1.1 t (n + 1))
        refine lv_i2l (v := lI (((w1.1.1 (gc w1.1 t (n + 1)) : Nat) : Int))) hx hb dX3_part_94 (nzI_l (by omega)) ?_
        refine lv_aload_n hx hb dX3_part_95 rfl (lv_at hl 0 rfl) ?_
        refine va_get (D := (dC, dI)) (ci := 3) (v := .ref (b 2)) (C := RX3) (T := TX3) (N := 11) hx hb hts (by decide +kernel) hown hK hP 0 rfl rfl 5 (by decide) (hts (.fieldLink RX3 13 "TriangleSheetModel" "py" "[I") (by decide +kernel)) (fun _ h9 => h9) rfl dX3_part_96 ?_
        refine lv_aload_n hx hb dX3_part_99 rfl (lv_at hl 0 rfl) ?_
        refine lv_iload hx hb dX3_part_100 (lv_at hl 4 rfl) ?_
        refine lv_iload hx hb dX3_part_102 (lv_at hl 6 rfl) ?_
        refine lv_iconst (v := nI (1)) hx hb dX3_part_104 (by decide) ?_
        refine lv_iadd hx hb dX3_part_105 ?_
        refine rt_i (y := (nI (n + 1))) (nn_add (n) (1)) ?_
        refine ro_V (As := [.int (nI (t)), .int (nI (n + 1))]) (rest := [.ref (b 2), .long (lI (((w1.1.1 (gc w1.1 t (n + 1)) : Nat) : Int))), .long (lI (((w1.1.2.1 (gc w1.1 t n) : Nat) : Int))), .long (lI (((w1.1.1 (gc w1.1 t n) : Nat) : Int)))]) (q0 := 0) (ci := 3) hx hb hml hown hts (c_X3_at l dC dI cI cL cZ b w1 t (n + 1) (by omega) (by omega)) (cwV 2 hts gX3_part_X3_at rfl rfl rfl (by decide +kernel) ⟨Nat.le_of_ble_eq_true rfl, Nat.le_of_ble_eq_true rfl⟩) hK hP rfl rfl rfl hl.1 rfl (Nat.le_of_ble_eq_true rfl) dX3_part_106 ⟨Nat.zero_le _, Nat.zero_le _⟩ ?_
        refine ia_ld (k := gc w1.1 t (n + 1)) hx hb hK hP 2 0 rfl rfl (by omega) (by decide) dX3_part_109 ?_
        refine W.eq (g2 := F0 m 110 ls [.int (nI (w1.1.2.1 (gc w1.1 t (n + 1)))), .long (lI (((w1.1.1 (gc w1.1 t (n + 1)) : Nat) : Int))), .long (lI (((w1.1.2.1 (gc w1.1 t n) : Nat) : Int))), .long (lI (((w1.1.1 (gc w1.1 t n) : Nat) : Int)))]) rfl ?_
        have bd_15 := hv.1.2.1 (gc w1.1 t (n + 1))
        refine lv_i2l (v := lI (((w1.1.2.1 (gc w1.1 t (n + 1)) : Nat) : Int))) hx hb dX3_part_110 (nzI_l (by omega)) ?_
        refine lv_iload_n hx hb dX3_part_111 rfl (lv_at hl 2 rfl) ?_
        refine lv_i2l (v := lI (((x : Nat) : Int))) hx hb dX3_part_112 (nzI_l (by omega)) ?_
        refine lv_iload_n hx hb dX3_part_113 rfl (lv_at hl 3 rfl) ?_
        refine lv_i2l (v := lI (((y : Nat) : Int))) hx hb dX3_part_114 (nzI_l (by omega)) ?_
        refine ro_S (As := [.long (lI (((w1.1.1 (gc w1.1 t n) : Nat) : Int))), .long (lI (((w1.1.2.1 (gc w1.1 t n) : Nat) : Int))), .long (lI (((w1.1.1 (gc w1.1 t (n + 1)) : Nat) : Int))), .long (lI (((w1.1.2.1 (gc w1.1 t (n + 1)) : Nat) : Int))), .long (lI (((x : Nat) : Int))), .long (lI (((y : Nat) : Int)))]) (rest := []) hx hb hml hown hts (c_X3_turnOf l dC dI  (((w1.1.1 (gc w1.1 t n) : Nat) : Int)) (((w1.1.2.1 (gc w1.1 t n) : Nat) : Int)) (((w1.1.1 (gc w1.1 t (n + 1)) : Nat) : Int)) (((w1.1.2.1 (gc w1.1 t (n + 1)) : Nat) : Int)) (((x : Nat) : Int)) (((y : Nat) : Int)) ) (va_cwS 6 hts gX3_part_X3_turnOf rfl rfl rfl (by decide +kernel) ⟨Nat.le_of_ble_eq_true rfl, Nat.le_of_ble_eq_true rfl⟩) (hK.sub [] rfl) (hP.sub [] rfl) rfl hl.1 rfl (Nat.le_of_ble_eq_true rfl) dX3_part_115 ⟨Nat.zero_le _, Nat.zero_le _⟩ ?_
        refine rt_l (y := (lI (tbe w1.1 t (n) (x : Int) (y : Int)))) rfl ?_
        refine lv_lconst (v := lI 0) hx hb dX3_part_118 (by decide) ?_
        refine W.lcmp hx hb dX3_part_119 ?_
        refine lv_if_le (tgt := 127) hx hb dX3_part_120 (by decide) (fun c_16 => ?_) (fun c_16 => ?_)
        · skip
          have c_16 : (tbe w1.1 t (n) (x : Int) (y : Int)) ≤ 0 := (lc_le (a := tbe w1.1 t (n) (x : Int) (y : Int)) (b := 0) (tat_lok hv.1 (zOkN (by omega)) (zOkN (by omega))) lOk_0).mp c_16
          refine lv_iconst (v := nI (0)) hx hb dX3_part_127 (by decide) ?_
          refine lv_istore (lv' := [(5, .int (nI (0))), (0, .ref (b 0)), (1, .int (nI (t))), (2, .int (nI (x))), (3, .int (nI (y))), (4, .int (nI (t))), (6, .int (nI (n)))]) hx hb dX3_part_128 hl (by decide) rfl (fun ls hl => ?_)
          refine lv_iinc (v := nI (n + 1)) (lv' := [(6, .int (nI (n + 1))), (5, .int (nI (0))), (0, .ref (b 0)), (1, .int (nI (t))), (2, .int (nI (x))), (3, .int (nI (y))), (4, .int (nI (t)))]) hx hb dX3_part_130 hl (k := 6) rfl (nI_1 (n)) (by decide) rfl (fun ls hl => ?_)
          refine lv_goto (tgt := 40) hx hb dX3_part_133 (by decide) ?_
          exact ih_k (k - 1) (n + 1, false) ls _ _ (by omega) ⟨by omega, by rw [hi, alf_s (by omega)]; first | (simp [c_1, c_3, c_11, c_16]; done) | (have e9 : decide (0 < tbe w1.1 t n (x : Int) (y : Int)) = false := (by simp; omega); simp [e9]; done) | (have e9 : decide (0 < tbe w1.1 t n (x : Int) (y : Int)) = true := (by simp; omega); simp [e9, c_1, c_3, c_11, c_16])⟩ (lv_sub hl [2, 3, 4, 5, 6, 1, 0] rfl) hP hD hS
        · skip
          have c_16 : ¬ ((tbe w1.1 t (n) (x : Int) (y : Int)) ≤ 0) := fun hq9 => c_16 ((lc_le (a := tbe w1.1 t (n) (x : Int) (y : Int)) (b := 0) (tat_lok hv.1 (zOkN (by omega)) (zOkN (by omega))) lOk_0).mpr hq9)
          refine lv_iconst (v := nI (1)) hx hb dX3_part_123 (by decide) ?_
          refine lv_goto (tgt := 128) hx hb dX3_part_124 (by decide) ?_
          refine lv_istore (lv' := [(5, .int (nI (1))), (0, .ref (b 0)), (1, .int (nI (t))), (2, .int (nI (x))), (3, .int (nI (y))), (4, .int (nI (t))), (6, .int (nI (n)))]) hx hb dX3_part_128 hl (by decide) rfl (fun ls hl => ?_)
          refine lv_iinc (v := nI (n + 1)) (lv' := [(6, .int (nI (n + 1))), (5, .int (nI (1))), (0, .ref (b 0)), (1, .int (nI (t))), (2, .int (nI (x))), (3, .int (nI (y))), (4, .int (nI (t)))]) hx hb dX3_part_130 hl (k := 6) rfl (nI_1 (n)) (by decide) rfl (fun ls hl => ?_)
          refine lv_goto (tgt := 40) hx hb dX3_part_133 (by decide) ?_
          exact ih_k (k - 1) (n + 1, true) ls _ _ (by omega) ⟨by omega, by rw [hi, alf_s (by omega)]; first | (simp [c_1, c_3, c_11, c_16]; done) | (have e9 : decide (0 < tbe w1.1 t n (x : Int) (y : Int)) = false := (by simp; omega); simp [e9]; done) | (have e9 : decide (0 < tbe w1.1 t n (x : Int) (y : Int)) = true := (by simp; omega); simp [e9, c_1, c_3, c_11, c_16])⟩ (lv_sub hl [2, 3, 4, 5, 6, 1, 0] rfl) hP hD hS
