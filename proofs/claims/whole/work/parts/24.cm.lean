set_option maxHeartbeats 4000000 in
set_option maxRecDepth 100000 in
theorem c_X3_thrown (l : Launch) (dC : Nat → ClassId) (dI : Nat → Nat → Nat) (cI cL cZ : ClassId) (b : Nat → Nat) (w : MV)   : Met l yX3_thrown wsX3_thrown ({ frames := 0, cells := 0, slots := 0, locals := 0 }) (va_Pc [.ref (b 0)] (ro_B (dC, dI) vwCl (wM cI cZ b w) (tyS cI cL cZ))) (k2_QcV (.int (mThr w))) 0 0 (fun _ => False) := by
  refine ro_Met (cc := cX3_thrown) (maxL := 1) (ret := (some .int)) (by decide) rfl (Nat.le_of_ble_eq_true rfl) ?_
  intro pr en s m below meth co ls hx hb hml hr hlocks hown hts hP hK hl
  have hl : lv_has ls 1 [(0, .ref (b 0))] := hl
  have hown : s.vm.findClass RX3 = some m.cls := hown
  refine lv_aload_n hx hb dX3_thrown_0 rfl (lv_at hl 0 rfl) ?_
  refine va_get (D := (dC, dI)) (ci := 3) (v := .int (mThr w)) (C := RX3) (T := TX3) (N := 11) hx hb hts (by decide +kernel) hown hK hP 0 rfl rfl 0 (by decide) (hts (.fieldLink RX3 33 "TriangleSheetModel" "thrown" "I") (by decide +kernel)) (fun _ h9 => h9) rfl dX3_thrown_1 ?_
  exact ro_iret hx hb hr rfl dX3_thrown_4 hlocks
set_option maxHeartbeats 4000000 in
set_option maxRecDepth 100000 in
theorem c_X3_isPlace (l : Launch) (dC : Nat → ClassId) (dI : Nat → Nat → Nat)  (x y : Int32)  : Met l yX3_isPlace wsX3_isPlace ({ frames := 1, cells := 0, slots := 0, locals := 21 }) (va_Pc [.int (x), .int (y)] (ro_B (dC, dI) vwCl [] [])) (k2_QcV (.int (bI (inB x 512 && inB y 512)))) 0 0 (fun _ => False) := by
  refine ro_Met (cc := cX3_isPlace) (maxL := 2) (ret := (some .boolean)) (by decide) rfl (Nat.le_of_ble_eq_true rfl) ?_
  intro pr en s m below meth co ls hx hb hml hr hlocks hown hts hP hK hl
  have hl : lv_has ls 2 [(0, .int (x)), (1, .int (y))] := hl
  have hown : s.vm.findClass RX3 = some m.cls := hown
  refine lv_iload_n hx hb dX3_isPlace_0 rfl (lv_at hl 0 rfl) ?_
  refine lv_sipush (v := nI (512)) hx hb dX3_isPlace_1 (by decide) ?_
  refine ro_S (As := [.int (x), .int (nI (512))]) (rest := []) hx hb hml hown hts (c_X3_in l dC dI  x 512 (by omega)) (va_cwS 2 hts gX3_isPlace_X3_in rfl rfl rfl (by decide +kernel) ⟨Nat.le_of_ble_eq_true rfl, Nat.le_of_ble_eq_true rfl⟩) (hK.sub [] rfl) (hP.sub [] rfl) rfl hl.1 rfl (Nat.le_of_ble_eq_true rfl) dX3_isPlace_4 ⟨Nat.zero_le _, Nat.zero_le _⟩ ?_
  refine lv_if_eq (tgt := 24) hx hb dX3_isPlace_7 (by decide) (fun c_1 => ?_) (fun c_1 => ?_)
  · skip
    have c_1 : (inB x 512) = false := bI_f c_1
    refine lv_iconst (v := nI (0)) hx hb dX3_isPlace_24 (by decide) ?_
    exact ro_zret hx hb hr (by decide) (rb_0 (by simp [c_1])) dX3_isPlace_25 hlocks
  · skip
    have c_1 : (inB x 512) = true := bI_t c_1
    refine lv_iload_n hx hb dX3_isPlace_10 rfl (lv_at hl 1 rfl) ?_
    refine lv_sipush (v := nI (512)) hx hb dX3_isPlace_11 (by decide) ?_
    refine ro_S (As := [.int (y), .int (nI (512))]) (rest := []) hx hb hml hown hts (c_X3_in l dC dI  y 512 (by omega)) (va_cwS 2 hts gX3_isPlace_X3_in rfl rfl rfl (by decide +kernel) ⟨Nat.le_of_ble_eq_true rfl, Nat.le_of_ble_eq_true rfl⟩) (hK.sub [] rfl) (hP.sub [] rfl) rfl hl.1 rfl (Nat.le_of_ble_eq_true rfl) dX3_isPlace_14 ⟨Nat.zero_le _, Nat.zero_le _⟩ ?_
    refine lv_if_eq (tgt := 24) hx hb dX3_isPlace_17 (by decide) (fun c_2 => ?_) (fun c_2 => ?_)
    · skip
      have c_2 : (inB y 512) = false := bI_f c_2
      refine lv_iconst (v := nI (0)) hx hb dX3_isPlace_24 (by decide) ?_
      exact ro_zret hx hb hr (by decide) (rb_0 (by simp [c_1, c_2])) dX3_isPlace_25 hlocks
    · skip
      have c_2 : (inB y 512) = true := bI_t c_2
      refine lv_iconst (v := nI (1)) hx hb dX3_isPlace_20 (by decide) ?_
      refine lv_goto (tgt := 25) hx hb dX3_isPlace_21 (by decide) ?_
      exact ro_zret hx hb hr (by decide) (rb_1 (by simp [c_1, c_2])) dX3_isPlace_25 hlocks
set_option maxHeartbeats 4000000 in
set_option maxRecDepth 100000 in
theorem c_X3_set (l : Launch) (dC : Nat → ClassId) (dI : Nat → Nat → Nat) (cI cL cZ : ClassId) (b : Nat → Nat) (w : MV) (t x y u : Nat) (ht : t < 200) : Met l yX3_set wsX3_set ({ frames := 0, cells := 0, slots := 0, locals := 0 }) (va_Pc [.ref (b 0), .int (nI (t)), .int (nI (x)), .int (nI (y)), .int (nI (u))] (wr_B (dC, dI) vwCl (wM cI cZ b w) (tyS cI cL cZ))) (wr_Q none (dC, dI) vwCl (wM cI cZ b w) (wM cI cZ b (mSet w t x y u))) 0 0 (inW (wM cI cZ b w)) := by
  refine wr_Met (cc := cX3_set) (maxL := 5) (ret := none) (by decide) rfl (Nat.le_of_ble_eq_true rfl) ?_
  intro pr en s m below meth co ls hx hb hml hr hlocks hown hts hP hK hD hS hl
  have hl : lv_has ls 5 [(0, .ref (b 0)), (1, .int (nI (t))), (2, .int (nI (x))), (3, .int (nI (y))), (4, .int (nI (u)))] := hl
  have hown : s.vm.findClass RX3 = some m.cls := hown
  refine lv_aload_n hx hb dX3_set_0 rfl (lv_at hl 0 rfl) ?_
  refine va_get (D := (dC, dI)) (ci := 3) (v := .ref (b 4)) (C := RX3) (T := TX3) (N := 11) hx hb hts (by decide +kernel) hown hK hP 0 rfl rfl 7 (by decide) (hts (.fieldLink RX3 20 "TriangleSheetModel" "corners" "[I") (by decide +kernel)) (fun _ h9 => h9) rfl dX3_set_1 ?_
  refine lv_iconst (v := nI (3)) hx hb dX3_set_4 (by decide) ?_
  refine lv_iload_n hx hb dX3_set_5 rfl (lv_at hl 1 rfl) ?_
  refine lv_imul hx hb dX3_set_6 ?_
  refine rt_i (y := (nI ((3) * (t)))) (nn_mul (3) (t)) ?_
  refine lv_iload_n hx hb dX3_set_7 rfl (lv_at hl 2 rfl) ?_
  refine ia_st (k := (3) * (t)) hx hb hK hP hD hS 4 0 rfl rfl (by omega) (by decide) (upd_n (w.1.2.2) ((3) * (t)) (x)) dX3_set_8 (fun H locs hP hD hS => ?_)
  have hP : va_P (dC, dI) vwCl (wM cI cZ b (((w.1.1, w.1.2.1, va_up (w.1.2.2) ((3) * (t)) (x)), mThr w, mPn w, mTm w, mTn w, mIs w, mFi w, mSe w, mMk w))) H := hP
  have hD : va_D (inW (wM cI cZ b w)) (wM cI cZ b (((w.1.1, w.1.2.1, va_up (w.1.2.2) ((3) * (t)) (x)), mThr w, mPn w, mTm w, mTn w, mIs w, mFi w, mSe w, mMk w))) := hD
  refine lv_aload_n hx hb dX3_set_9 rfl (lv_at hl 0 rfl) ?_
  refine va_get (D := (dC, dI)) (ci := 3) (v := .ref (b 4)) (C := RX3) (T := TX3) (N := 11) hx hb hts (by decide +kernel) hown hK hP 0 rfl rfl 7 (by decide) (hts (.fieldLink RX3 20 "TriangleSheetModel" "corners" "[I") (by decide +kernel)) (fun _ h9 => h9) rfl dX3_set_10 ?_
  refine lv_iconst (v := nI (3)) hx hb dX3_set_13 (by decide) ?_
  refine lv_iload_n hx hb dX3_set_14 rfl (lv_at hl 1 rfl) ?_
  refine lv_imul hx hb dX3_set_15 ?_
  refine rt_i (y := (nI ((3) * (t)))) (nn_mul (3) (t)) ?_
  refine lv_iconst (v := nI (1)) hx hb dX3_set_16 (by decide) ?_
  refine lv_iadd hx hb dX3_set_17 ?_
  refine rt_i (y := (nI ((3) * (t) + 1))) (nn_add ((3) * (t)) (1)) ?_
  refine lv_iload_n hx hb dX3_set_18 rfl (lv_at hl 3 rfl) ?_
  refine ia_st (k := (3) * (t) + 1) hx hb hK hP hD hS 4 0 rfl rfl (by omega) (by decide) (upd_n ((va_up (w.1.2.2) ((3) * (t)) (x))) ((3) * (t) + 1) (y)) dX3_set_19 (fun H locs hP hD hS => ?_)
  have hP : va_P (dC, dI) vwCl (wM cI cZ b (((w.1.1, w.1.2.1, va_up ((va_up (w.1.2.2) ((3) * (t)) (x))) ((3) * (t) + 1) (y)), mThr w, mPn w, mTm w, mTn w, mIs w, mFi w, mSe w, mMk w))) H := hP
  have hD : va_D (inW (wM cI cZ b w)) (wM cI cZ b (((w.1.1, w.1.2.1, va_up ((va_up (w.1.2.2) ((3) * (t)) (x))) ((3) * (t) + 1) (y)), mThr w, mPn w, mTm w, mTn w, mIs w, mFi w, mSe w, mMk w))) := hD
  refine lv_aload_n hx hb dX3_set_20 rfl (lv_at hl 0 rfl) ?_
  refine va_get (D := (dC, dI)) (ci := 3) (v := .ref (b 4)) (C := RX3) (T := TX3) (N := 11) hx hb hts (by decide +kernel) hown hK hP 0 rfl rfl 7 (by decide) (hts (.fieldLink RX3 20 "TriangleSheetModel" "corners" "[I") (by decide +kernel)) (fun _ h9 => h9) rfl dX3_set_21 ?_
  refine lv_iconst (v := nI (3)) hx hb dX3_set_24 (by decide) ?_
  refine lv_iload_n hx hb dX3_set_25 rfl (lv_at hl 1 rfl) ?_
  refine lv_imul hx hb dX3_set_26 ?_
  refine rt_i (y := (nI ((3) * (t)))) (nn_mul (3) (t)) ?_
  refine lv_iconst (v := nI (2)) hx hb dX3_set_27 (by decide) ?_
  refine lv_iadd hx hb dX3_set_28 ?_
  refine rt_i (y := (nI ((3) * (t) + 2))) (nn_add ((3) * (t)) (2)) ?_
  refine lv_iload hx hb dX3_set_29 (lv_at hl 4 rfl) ?_
  refine ia_st (k := (3) * (t) + 2) hx hb hK hP hD hS 4 0 rfl rfl (by omega) (by decide) (upd_n ((va_up ((va_up (w.1.2.2) ((3) * (t)) (x))) ((3) * (t) + 1) (y))) ((3) * (t) + 2) (u)) dX3_set_31 (fun H locs hP hD hS => ?_)
  have hP : va_P (dC, dI) vwCl (wM cI cZ b (((w.1.1, w.1.2.1, va_up ((va_up ((va_up (w.1.2.2) ((3) * (t)) (x))) ((3) * (t) + 1) (y))) ((3) * (t) + 2) (u)), mThr w, mPn w, mTm w, mTn w, mIs w, mFi w, mSe w, mMk w))) H := hP
  have hD : va_D (inW (wM cI cZ b w)) (wM cI cZ b (((w.1.1, w.1.2.1, va_up ((va_up ((va_up (w.1.2.2) ((3) * (t)) (x))) ((3) * (t) + 1) (y))) ((3) * (t) + 2) (u)), mThr w, mPn w, mTm w, mTn w, mIs w, mFi w, mSe w, mMk w))) := hD
  exact wr_vret hx hb hr hP hS rfl rfl dX3_set_32 hlocks
set_option maxHeartbeats 4000000 in
set_option maxRecDepth 100000 in
theorem c_X3_blame (l : Launch) (dC : Nat → ClassId) (dI : Nat → Nat → Nat) (cI cL cZ : ClassId) (b : Nat → Nat) (w : MV) (q : Nat) (x y : Int32)  : Met l yX3_blame wsX3_blame ({ frames := 0, cells := 0, slots := 0, locals := 0 }) (va_Pc [.ref (b 0), .int (nI (q)), .int (x), .int (y)] (wr_B (dC, dI) vwCl (wM cI cZ b w) (tyS cI cL cZ))) (wr_Q (some (.int (nI (q)))) (dC, dI) vwCl (wM cI cZ b w) (wM cI cZ b (mCul w x y))) 0 0 (inW (wM cI cZ b w)) := by
  refine wr_Met (cc := cX3_blame) (maxL := 4) (ret := (some .int)) (by decide) rfl (Nat.le_of_ble_eq_true rfl) ?_
  intro pr en s m below meth co ls hx hb hml hr hlocks hown hts hP hK hD hS hl
  have hl : lv_has ls 4 [(0, .ref (b 0)), (1, .int (nI (q))), (2, .int (x)), (3, .int (y))] := hl
  have hown : s.vm.findClass RX3 = some m.cls := hown
  refine lv_aload_n hx hb dX3_blame_0 rfl (lv_at hl 0 rfl) ?_
  refine lv_iload_n hx hb dX3_blame_1 rfl (lv_at hl 2 rfl) ?_
  refine va_put (D := (dC, dI)) (ci := 3) (v := .int (x)) (ty := .int) (C := RX3) (T := TX3) (N := 11) hx hb hts (by decide +kernel) tyX3 tyX3_ok nmX3 hown hK hP hD hS 0 rfl rfl 8 (by decide) (hts (.fieldLink RX3 23 "TriangleSheetModel" "first" "I") (by decide +kernel)) (fun _ h9 => h9) rfl (by decide +kernel) rfl rfl (Nat.le_of_ble_eq_true rfl) dX3_blame_2 (fun H locs hP hD hS => ?_)
  have hP : va_P (dC, dI) vwCl (wM cI cZ b (((w.1.1, w.1.2.1, w.1.2.2), mThr w, mPn w, mTm w, mTn w, mIs w, x, mSe w, mMk w))) H := hP
  have hD : va_D (inW (wM cI cZ b w)) (wM cI cZ b (((w.1.1, w.1.2.1, w.1.2.2), mThr w, mPn w, mTm w, mTn w, mIs w, x, mSe w, mMk w))) := hD
  refine lv_aload_n hx hb dX3_blame_5 rfl (lv_at hl 0 rfl) ?_
  refine lv_iload_n hx hb dX3_blame_6 rfl (lv_at hl 3 rfl) ?_
  refine va_put (D := (dC, dI)) (ci := 3) (v := .int (y)) (ty := .int) (C := RX3) (T := TX3) (N := 11) hx hb hts (by decide +kernel) tyX3 tyX3_ok nmX3 hown hK hP hD hS 0 rfl rfl 9 (by decide) (hts (.fieldLink RX3 27 "TriangleSheetModel" "second" "I") (by decide +kernel)) (fun _ h9 => h9) rfl (by decide +kernel) rfl rfl (Nat.le_of_ble_eq_true rfl) dX3_blame_7 (fun H locs hP hD hS => ?_)
  have hP : va_P (dC, dI) vwCl (wM cI cZ b (((w.1.1, w.1.2.1, w.1.2.2), mThr w, mPn w, mTm w, mTn w, mIs w, x, y, mMk w))) H := hP
  have hD : va_D (inW (wM cI cZ b w)) (wM cI cZ b (((w.1.1, w.1.2.1, w.1.2.2), mThr w, mPn w, mTm w, mTn w, mIs w, x, y, mMk w))) := hD
  refine lv_iload_n hx hb dX3_blame_10 rfl (lv_at hl 1 rfl) ?_
  exact wr_iret hx hb hr hP hS rfl rfl dX3_blame_11 hlocks
set_option maxHeartbeats 4000000 in
set_option maxRecDepth 100000 in
theorem c_X3_turned (l : Launch) (dC : Nat → ClassId) (dI : Nat → Nat → Nat) (cI cL cZ : ClassId) (b : Nat → Nat) (w : MV) (t j : Nat) (hv : okM w) (ht : t < 200) (hj : j < 3) : Met l yX3_turned wsX3_turned ({ frames := 2, cells := 0, slots := 0, locals := 54 }) (va_Pc [.ref (b 0), .int (nI (t)), .int (nI (j))] (wr_B (dC, dI) vwCl (wM cI cZ b w) (tyS cI cL cZ))) (wr_Q (some (.int (bI (mtB w t j)))) (dC, dI) vwCl (wM cI cZ b w) (wM cI cZ b (mtS w t j))) 0 0 (inW (wM cI cZ b w)) := by
  refine wr_Met (cc := cX3_turned) (maxL := 8) (ret := (some .boolean)) (by decide) rfl (Nat.le_of_ble_eq_true rfl) ?_
  intro pr en s m below meth co ls hx hb hml hr hlocks hown hts hP hK hD hS hl
  have hl : lv_has ls 8 [(0, .ref (b 0)), (1, .int (nI (t))), (2, .int (nI (j)))] := hl
  have hown : s.vm.findClass RX3 = some m.cls := hown
  have hvp : mPn w ≤ 60 ∧ mTm w ≤ 200 ∧ mTn w ≤ 60 := ⟨hv.2.1, hv.2.2.1, hv.2.2.2.1⟩
  refine lv_aload_n hx hb dX3_turned_0 rfl (lv_at hl 0 rfl) ?_
  refine lv_iload_n hx hb dX3_turned_1 rfl (lv_at hl 1 rfl) ?_
  refine lv_iload_n hx hb dX3_turned_2 rfl (lv_at hl 2 rfl) ?_
  refine ro_V (As := [.int (nI (t)), .int (nI (j))]) (rest := []) (q0 := 0) (ci := 3) hx hb hml hown hts (c_X3_neighbour l dC dI cI cL cZ b w t j hv (by omega) (by omega)) (cwV 2 hts gX3_turned_X3_neighbour rfl rfl rfl (by decide +kernel) ⟨Nat.le_of_ble_eq_true rfl, Nat.le_of_ble_eq_true rfl⟩) hK hP rfl rfl rfl hl.1 rfl (Nat.le_of_ble_eq_true rfl) dX3_turned_3 ⟨Nat.zero_le _, Nat.zero_le _⟩ ?_
  have ps_1 : ∀ k, mnb w t j = some k → k < 2 ^ 31 := fun k h => by have := (mnb_lt h).1; omega
  refine ocase (x := mnb w t j) (fun ho_u => ?_) (fun u ho_u => ?_)
  · skip
    refine lv_istore_n (lv' := [(3, .int (iI (-1))), (0, .ref (b 0)), (1, .int (nI (t))), (2, .int (nI (j)))]) hx hb dX3_turned_6 rfl hl (by decide) rfl (fun ls hl => ?_)
    refine lv_iload_n hx hb dX3_turned_7 rfl (lv_at hl 0 rfl) ?_
    refine lv_iconst (v := iI (-1)) hx hb dX3_turned_8 (by decide) ?_
    refine lv_icmp_ne (tgt := 14) hx hb dX3_turned_9 (by decide) (fun c_2 => absurd rfl c_2) (fun c_2 => ?_)
    refine lv_iconst (v := nI (0)) hx hb dX3_turned_12 (by decide) ?_
    exact wr_zret hx hb hr (by decide) hP hS (congrArg some (rb_0 (by rw [mtB, ho_u]))) (congrArg (wM cI cZ b) (by rw [mtS, ho_u])) dX3_turned_13 hlocks
  · skip
    obtain ⟨hu1, hu2, hu3, hu4⟩ := mnb_lt ho_u
    have hot : bey w.1 t j u < 60 := gc_lt hv.1
    have hg0 := gc_lt hv.1 (t := t) (k := j + 0)
    have hg1 := gc_lt hv.1 (t := t) (k := j + 1)
    have hg2 := gc_lt hv.1 (t := t) (k := j + 2)
    have hgz := gc_lt hv.1 (t := t) (k := j)
    refine lv_istore_n (lv' := [(3, .int (nI (u))), (0, .ref (b 0)), (1, .int (nI (t))), (2, .int (nI (j)))]) hx hb dX3_turned_6 rfl hl (by decide) rfl (fun ls hl => ?_)
    refine lv_iload_n hx hb dX3_turned_7 rfl (lv_at hl 0 rfl) ?_
    refine lv_iconst (v := iI (-1)) hx hb dX3_turned_8 (by decide) ?_
    refine lv_icmp_ne (tgt := 14) hx hb dX3_turned_9 (by decide) (fun c_3 => ?_) (fun c_3 => absurd c_3 (ne_m1 (by omega)))
    refine lv_aload_n hx hb dX3_turned_14 rfl (lv_at hl 1 rfl) ?_
    refine lv_iload_n hx hb dX3_turned_15 rfl (lv_at hl 2 rfl) ?_
    refine lv_iload_n hx hb dX3_turned_16 rfl (lv_at hl 3 rfl) ?_
    refine ro_V (As := [.int (nI (t)), .int (nI (j))]) (rest := []) (q0 := 0) (ci := 3) hx hb hml hown hts (c_X3_at l dC dI cI cL cZ b w t j (by omega) (by omega)) (cwV 2 hts gX3_turned_X3_at rfl rfl rfl (by decide +kernel) ⟨Nat.le_of_ble_eq_true rfl, Nat.le_of_ble_eq_true rfl⟩) hK hP rfl rfl rfl hl.1 rfl (Nat.le_of_ble_eq_true rfl) dX3_turned_17 ⟨Nat.zero_le _, Nat.zero_le _⟩ ?_
    refine lv_istore (lv' := [(4, .int (nI (gc w.1 t j))), (3, .int (nI (u))), (0, .ref (b 0)), (1, .int (nI (t))), (2, .int (nI (j)))]) hx hb dX3_turned_20 hl (by decide) rfl (fun ls hl => ?_)
    refine lv_aload_n hx hb dX3_turned_22 rfl (lv_at hl 2 rfl) ?_
    refine lv_iload_n hx hb dX3_turned_23 rfl (lv_at hl 3 rfl) ?_
    refine lv_iload_n hx hb dX3_turned_24 rfl (lv_at hl 4 rfl) ?_
    refine lv_iconst (v := nI (1)) hx hb dX3_turned_25 (by decide) ?_
    refine lv_iadd hx hb dX3_turned_26 ?_
    refine rt_i (y := (nI (j + 1))) (nn_add (j) (1)) ?_
    refine ro_V (As := [.int (nI (t)), .int (nI (j + 1))]) (rest := []) (q0 := 0) (ci := 3) hx hb hml hown hts (c_X3_at l dC dI cI cL cZ b w t (j + 1) (by omega) (by omega)) (cwV 2 hts gX3_turned_X3_at rfl rfl rfl (by decide +kernel) ⟨Nat.le_of_ble_eq_true rfl, Nat.le_of_ble_eq_true rfl⟩) hK hP rfl rfl rfl hl.1 rfl (Nat.le_of_ble_eq_true rfl) dX3_turned_27 ⟨Nat.zero_le _, Nat.zero_le _⟩ ?_
    refine lv_istore (lv' := [(5, .int (nI (gc w.1 t (j + 1)))), (4, .int (nI (gc w.1 t j))), (3, .int (nI (u))), (0, .ref (b 0)), (1, .int (nI (t))), (2, .int (nI (j)))]) hx hb dX3_turned_30 hl (by decide) rfl (fun ls hl => ?_)
    refine lv_aload_n hx hb dX3_turned_32 rfl (lv_at hl 3 rfl) ?_
    refine lv_iload_n hx hb dX3_turned_33 rfl (lv_at hl 4 rfl) ?_
    refine lv_iload_n hx hb dX3_turned_34 rfl (lv_at hl 5 rfl) ?_
    refine lv_iconst (v := nI (2)) hx hb dX3_turned_35 (by decide) ?_
    refine lv_iadd hx hb dX3_turned_36 ?_
    refine rt_i (y := (nI (j + 2))) (nn_add (j) (2)) ?_
    refine ro_V (As := [.int (nI (t)), .int (nI (j + 2))]) (rest := []) (q0 := 0) (ci := 3) hx hb hml hown hts (c_X3_at l dC dI cI cL cZ b w t (j + 2) (by omega) (by omega)) (cwV 2 hts gX3_turned_X3_at rfl rfl rfl (by decide +kernel) ⟨Nat.le_of_ble_eq_true rfl, Nat.le_of_ble_eq_true rfl⟩) hK hP rfl rfl rfl hl.1 rfl (Nat.le_of_ble_eq_true rfl) dX3_turned_37 ⟨Nat.zero_le _, Nat.zero_le _⟩ ?_
    refine lv_istore (lv' := [(6, .int (nI (gc w.1 t (j + 2)))), (5, .int (nI (gc w.1 t (j + 1)))), (4, .int (nI (gc w.1 t j))), (3, .int (nI (u))), (0, .ref (b 0)), (1, .int (nI (t))), (2, .int (nI (j)))]) hx hb dX3_turned_40 hl (by decide) rfl (fun ls hl => ?_)
    refine lv_aload_n hx hb dX3_turned_42 rfl (lv_at hl 4 rfl) ?_
    refine lv_iload_n hx hb dX3_turned_43 rfl (lv_at hl 5 rfl) ?_
    refine lv_iload_n hx hb dX3_turned_44 rfl (lv_at hl 6 rfl) ?_
    refine lv_iload_n hx hb dX3_turned_45 rfl (lv_at hl 3 rfl) ?_
    refine ro_V (As := [.int (nI (t)), .int (nI (j)), .int (nI (u))]) (rest := []) (q0 := 0) (ci := 3) hx hb hml hown hts (c_X3_beyond l dC dI cI cL cZ b w t j u hv (by omega) (by omega) (by omega) hu4) (cwV 3 hts gX3_turned_X3_beyond rfl rfl rfl (by decide +kernel) ⟨Nat.le_of_ble_eq_true rfl, Nat.le_of_ble_eq_true rfl⟩) hK hP rfl rfl rfl hl.1 rfl (Nat.le_of_ble_eq_true rfl) dX3_turned_46 ⟨Nat.zero_le _, Nat.zero_le _⟩ ?_
    have ps_4 : bey w.1 t j u < 60 := gc_lt hv.1
    refine lv_istore (lv' := [(7, .int (nI (bey w.1 t j u))), (6, .int (nI (gc w.1 t (j + 2)))), (5, .int (nI (gc w.1 t (j + 1)))), (4, .int (nI (gc w.1 t j))), (3, .int (nI (u))), (0, .ref (b 0)), (1, .int (nI (t))), (2, .int (nI (j)))]) hx hb dX3_turned_49 hl (by decide) rfl (fun ls hl => ?_)
    refine lv_aload_n hx hb dX3_turned_51 rfl (lv_at hl 5 rfl) ?_
    refine lv_iload hx hb dX3_turned_52 (lv_at hl 3 rfl) ?_
    refine lv_iload hx hb dX3_turned_54 (lv_at hl 0 rfl) ?_
    refine lv_iload hx hb dX3_turned_56 (lv_at hl 1 rfl) ?_
    refine ro_V (As := [.int (nI (gc w.1 t j)), .int (nI (bey w.1 t j u)), .int (nI (gc w.1 t (j + 2)))]) (rest := []) (q0 := 0) (ci := 3) hx hb hml hown hts (c_X3_turnOfPoints l dC dI cI cL cZ b w (gc w.1 t j) (bey w.1 t j u) (gc w.1 t (j + 2)) hv (by omega) (by omega) (by omega)) (cwV 3 hts gX3_turned_X3_turnOfPoints rfl rfl rfl (by decide +kernel) ⟨Nat.le_of_ble_eq_true rfl, Nat.le_of_ble_eq_true rfl⟩) hK hP rfl rfl rfl hl.1 rfl (Nat.le_of_ble_eq_true rfl) dX3_turned_58 ⟨Nat.zero_le _, Nat.zero_le _⟩ ?_
    have ps_5 : lOk (tof w.1 (gc w.1 t j) (bey w.1 t j u) (gc w.1 t (j + 2))) := (tof_ok hv.1).l
    refine lv_lconst (v := lI 0) hx hb dX3_turned_61 (by decide) ?_
    refine W.lcmp hx hb dX3_turned_62 ?_
    refine lv_if_le (tgt := 81) hx hb dX3_turned_63 (by decide) (fun c_6 => ?_) (fun c_6 => ?_)
    · skip
      have c_6 : (tof w.1 (gc w.1 t j) (bey w.1 t j u) (gc w.1 t (j + 2))) ≤ 0 := (lc_le (a := tof w.1 (gc w.1 t j) (bey w.1 t j u) (gc w.1 t (j + 2))) (b := 0) (by assumption) lOk_0).mp c_6
      refine lv_iconst (v := nI (0)) hx hb dX3_turned_81 (by decide) ?_
      exact wr_zret hx hb hr (by decide) hP hS (congrArg some (rb_0 (by rw [mtB, ho_u]; first | (simp [tub, ho_u, c_6]; done) | (simp [tub]; omega)))) (congrArg (wM cI cZ b) (by rw [mtS, ho_u]; simp only; rw [if_neg (by first | (simp [tub, ho_u, c_6]; done) | (simp [tub]; omega))])) dX3_turned_82 hlocks
    · skip
      have c_6 : ¬ ((tof w.1 (gc w.1 t j) (bey w.1 t j u) (gc w.1 t (j + 2))) ≤ 0) := fun hq9 => c_6 ((lc_le (a := tof w.1 (gc w.1 t j) (bey w.1 t j u) (gc w.1 t (j + 2))) (b := 0) (by assumption) lOk_0).mpr hq9)
      refine lv_aload_n hx hb dX3_turned_66 rfl (lv_at hl 5 rfl) ?_
      refine lv_iload hx hb dX3_turned_67 (lv_at hl 0 rfl) ?_
      refine lv_iload hx hb dX3_turned_69 (lv_at hl 2 rfl) ?_
      refine lv_iload hx hb dX3_turned_71 (lv_at hl 1 rfl) ?_
      refine ro_V (As := [.int (nI (bey w.1 t j u)), .int (nI (gc w.1 t (j + 1))), .int (nI (gc w.1 t (j + 2)))]) (rest := []) (q0 := 0) (ci := 3) hx hb hml hown hts (c_X3_turnOfPoints l dC dI cI cL cZ b w (bey w.1 t j u) (gc w.1 t (j + 1)) (gc w.1 t (j + 2)) hv (by omega) (by omega) (by omega)) (cwV 3 hts gX3_turned_X3_turnOfPoints rfl rfl rfl (by decide +kernel) ⟨Nat.le_of_ble_eq_true rfl, Nat.le_of_ble_eq_true rfl⟩) hK hP rfl rfl rfl hl.1 rfl (Nat.le_of_ble_eq_true rfl) dX3_turned_73 ⟨Nat.zero_le _, Nat.zero_le _⟩ ?_
      have ps_7 : lOk (tof w.1 (bey w.1 t j u) (gc w.1 t (j + 1)) (gc w.1 t (j + 2))) := (tof_ok hv.1).l
      refine lv_lconst (v := lI 0) hx hb dX3_turned_76 (by decide) ?_
      refine W.lcmp hx hb dX3_turned_77 ?_
      refine lv_if_gt (tgt := 83) hx hb dX3_turned_78 (by decide) (fun c_8 => ?_) (fun c_8 => ?_)
      · skip
        have c_8 : 0 < (tof w.1 (bey w.1 t j u) (gc w.1 t (j + 1)) (gc w.1 t (j + 2))) := (lc_gt (a := tof w.1 (bey w.1 t j u) (gc w.1 t (j + 1)) (gc w.1 t (j + 2))) (b := 0) (by assumption) lOk_0).mp c_8
        refine lv_aload_n hx hb dX3_turned_83 rfl (lv_at hl 5 rfl) ?_
        refine lv_iload_n hx hb dX3_turned_84 rfl (lv_at hl 6 rfl) ?_
        refine lv_iload hx hb dX3_turned_85 (lv_at hl 1 rfl) ?_
        refine lv_iload hx hb dX3_turned_87 (lv_at hl 3 rfl) ?_
        refine lv_iload hx hb dX3_turned_89 (lv_at hl 0 rfl) ?_
        refine wr_V (As := [.int (nI (t)), .int (nI (gc w.1 t (j + 2))), .int (nI (gc w.1 t j)), .int (nI (bey w.1 t j u))]) (rest := []) (q0 := 0) (ci := 3) hx hb hml hown hts (c_X3_set l dC dI cI cL cZ b w t (gc w.1 t (j + 2)) (gc w.1 t j) (bey w.1 t j u) (by omega)) (cwV 4 hts gX3_turned_X3_set rfl rfl rfl (by decide +kernel) ⟨Nat.le_of_ble_eq_true rfl, Nat.le_of_ble_eq_true rfl⟩) hK hP hD hS rfl rfl rfl rfl hl.1 rfl (Nat.le_of_ble_eq_true rfl) dX3_turned_91 ⟨Nat.zero_le _, Nat.zero_le _⟩ (fun H locs hP hD hS => ?_)
        have hP : va_P (dC, dI) vwCl (wM cI cZ b (mSet w t (gc w.1 t (j + 2)) (gc w.1 t j) (bey w.1 t j u))) H := hP
        have hD : va_D (inW (wM cI cZ b w)) (wM cI cZ b (mSet w t (gc w.1 t (j + 2)) (gc w.1 t j) (bey w.1 t j u))) := hD
        refine W.eq (g2 := F0 m 94 ls []) rfl ?_
        refine lv_aload_n hx hb dX3_turned_94 rfl (lv_at hl 5 rfl) ?_
        refine lv_iload_n hx hb dX3_turned_95 rfl (lv_at hl 4 rfl) ?_
        refine lv_iload hx hb dX3_turned_96 (lv_at hl 0 rfl) ?_
        refine lv_iload hx hb dX3_turned_98 (lv_at hl 2 rfl) ?_
        refine lv_iload hx hb dX3_turned_100 (lv_at hl 1 rfl) ?_
        refine wr_V (As := [.int (nI (u)), .int (nI (bey w.1 t j u)), .int (nI (gc w.1 t (j + 1))), .int (nI (gc w.1 t (j + 2)))]) (rest := []) (q0 := 0) (ci := 3) hx hb hml hown hts (c_X3_set l dC dI cI cL cZ b (mSet w t (gc w.1 t (j + 2)) (gc w.1 t j) (bey w.1 t j u)) u (bey w.1 t j u) (gc w.1 t (j + 1)) (gc w.1 t (j + 2)) (by omega)) (cwV 4 hts gX3_turned_X3_set rfl rfl rfl (by decide +kernel) ⟨Nat.le_of_ble_eq_true rfl, Nat.le_of_ble_eq_true rfl⟩) hK hP hD hS rfl rfl rfl rfl hl.1 rfl (Nat.le_of_ble_eq_true rfl) dX3_turned_102 ⟨Nat.zero_le _, Nat.zero_le _⟩ (fun H locs hP hD hS => ?_)
        have hP : va_P (dC, dI) vwCl (wM cI cZ b (mSet (mSet w t (gc w.1 t (j + 2)) (gc w.1 t j) (bey w.1 t j u)) u (bey w.1 t j u) (gc w.1 t (j + 1)) (gc w.1 t (j + 2)))) H := hP
        have hD : va_D (inW (wM cI cZ b w)) (wM cI cZ b (mSet (mSet w t (gc w.1 t (j + 2)) (gc w.1 t j) (bey w.1 t j u)) u (bey w.1 t j u) (gc w.1 t (j + 1)) (gc w.1 t (j + 2)))) := hD
        refine W.eq (g2 := F0 m 105 ls []) rfl ?_
        refine lv_iconst (v := nI (1)) hx hb dX3_turned_105 (by decide) ?_
        exact wr_zret hx hb hr (by decide) hP hS (congrArg some (rb_1 (by rw [mtB, ho_u]; first | (simp [tub, ho_u, c_6, c_8]; done) | (simp [tub]; omega)))) (congrArg (wM cI cZ b) (by rw [mtS, ho_u]; simp only; rw [if_pos (by first | (simp [tub, ho_u, c_6, c_8]; done) | (simp [tub]; omega))]; rfl)) dX3_turned_106 hlocks
      · skip
        have c_8 : ¬ (0 < (tof w.1 (bey w.1 t j u) (gc w.1 t (j + 1)) (gc w.1 t (j + 2)))) := fun hq9 => c_8 ((lc_gt (a := tof w.1 (bey w.1 t j u) (gc w.1 t (j + 1)) (gc w.1 t (j + 2))) (b := 0) (by assumption) lOk_0).mpr hq9)
        refine lv_iconst (v := nI (0)) hx hb dX3_turned_81 (by decide) ?_
        exact wr_zret hx hb hr (by decide) hP hS (congrArg some (rb_0 (by rw [mtB, ho_u]; first | (simp [tub, ho_u, c_6, c_8]; done) | (simp [tub]; omega)))) (congrArg (wM cI cZ b) (by rw [mtS, ho_u]; simp only; rw [if_neg (by first | (simp [tub, ho_u, c_6, c_8]; done) | (simp [tub]; omega))])) dX3_turned_82 hlocks
set_option maxHeartbeats 4000000 in
set_option maxRecDepth 100000 in
theorem c_X3_improves (l : Launch) (dC : Nat → ClassId) (dI : Nat → Nat → Nat) (cI cL cZ : ClassId) (b : Nat → Nat) (w : MV)  (hv : okM w) : Met l yX3_improves wsX3_improves ({ frames := 3, cells := 0, slots := 0, locals := 82 }) (va_Pc [.ref (b 0)] (wr_B (dC, dI) vwCl (wM cI cZ b w) (tyS cI cL cZ))) (wr_Q (some (.int (bI ((mfi w).isSome)))) (dC, dI) vwCl (wM cI cZ b w) (wM cI cZ b (mfS w))) 0 0 (inW (wM cI cZ b w)) := by
  refine wr_Met (cc := cX3_improves) (maxL := 3) (ret := (some .boolean)) (by decide) rfl (Nat.le_of_ble_eq_true rfl) ?_
  intro pr en s m below meth co ls hx hb hml hr hlocks hown hts hP hK hD hS hl
  have hl : lv_has ls 3 [(0, .ref (b 0))] := hl
  have hown : s.vm.findClass RX3 = some m.cls := hown
  have hvp : mPn w ≤ 60 ∧ mTm w ≤ 200 ∧ mTn w ≤ 60 := ⟨hv.2.1, hv.2.2.1, hv.2.2.2.1⟩
  refine lv_iconst (v := nI (0)) hx hb dX3_improves_0 (by decide) ?_
  refine lv_istore_n (lv' := [(1, .int (nI (0))), (0, .ref (b 0))]) hx hb dX3_improves_1 rfl hl (by decide) rfl (fun ls hl => ?_)
  refine lpW (σ := Nat) (LV := fun n => [(0, .ref (b 0)), (1, .int (nI (n)))]) (WS := fun n => wM cI cZ b w) (I := fun k n => n + k = mTm w ∧ mfi w = fnd (fun t => mIs w t && (mfk w t).isSome) k n) (fun k n ls H locs hI_k hl hP hD hS ih_k => ?_) (mTm w) (0) ls _ _ ⟨by omega, rfl⟩ (lv_sub hl [1, 0] rfl) hP hD hS
  obtain ⟨hk, hi⟩ := hI_k
  have hP : va_P (dC, dI) vwCl (wM cI cZ b w) H := hP
  have hD : va_D (inW (wM cI cZ b w)) (wM cI cZ b w) := hD
  refine lv_iload_n hx hb dX3_improves_2 rfl (lv_at hl 1 rfl) ?_
  refine lv_aload_n hx hb dX3_improves_3 rfl (lv_at hl 0 rfl) ?_
  refine va_get (D := (dC, dI)) (ci := 3) (v := .int (nI (mTm w))) (C := RX3) (T := TX3) (N := 11) hx hb hts (by decide +kernel) hown hK hP 0 rfl rfl 2 (by decide) (hts (.fieldLink RX3 43 "TriangleSheetModel" "came" "I") (by decide +kernel)) (fun _ h9 => h9) rfl dX3_improves_4 ?_
  refine lv_icmp_ge (tgt := 61) hx hb dX3_improves_7 (by decide) (fun c_1 => ?_) (fun c_1 => ?_)
  · skip
    have c_1 : mTm w ≤ n := (nI_leI (a := mTm w) (b := n) (by omega) (by omega)).mp c_1
    refine lv_iconst (v := nI (0)) hx hb dX3_improves_61 (by decide) ?_
    exact wr_zret hx hb hr (by decide) hP hS (congrArg some (rb_0 (by rw [hi, show k = 0 by omega]; rfl))) (congrArg (wM cI cZ b) (by rw [mfS, hi, show k = 0 by omega]; rfl)) dX3_improves_62 hlocks
  · skip
    have c_1 : ¬ (mTm w ≤ n) := fun hq9 => c_1 ((nI_leI (a := mTm w) (b := n) (by omega) (by omega)).mpr hq9)
    refine lv_aload_n hx hb dX3_improves_10 rfl (lv_at hl 0 rfl) ?_
    refine va_get (D := (dC, dI)) (ci := 3) (v := .ref (b 3)) (C := RX3) (T := TX3) (N := 11) hx hb hts (by decide +kernel) hown hK hP 0 rfl rfl 6 (by decide) (hts (.fieldLink RX3 16 "TriangleSheetModel" "is" "[Z") (by decide +kernel)) (fun _ h9 => h9) rfl dX3_improves_11 ?_
    refine lv_iload_n hx hb dX3_improves_14 rfl (lv_at hl 1 rfl) ?_
    refine za_ld (k := n) hx hb hK hP 3 2 rfl rfl (by omega) (by decide) dX3_improves_15 ?_
    refine W.eq (g2 := F0 m 16 ls [.int (bI (mIs w (n)))]) rfl ?_
    refine lv_if_ne (tgt := 22) hx hb dX3_improves_16 (by decide) (fun c_2 => ?_) (fun c_2 => ?_)
    · skip
      have c_2 : (mIs w (n)) = true := bI_t c_2
      refine lv_iconst (v := nI (0)) hx hb dX3_improves_22 (by decide) ?_
      refine lv_istore_n (lv' := [(2, .int (nI (0))), (0, .ref (b 0)), (1, .int (nI (n)))]) hx hb dX3_improves_23 rfl hl (by decide) rfl (fun ls hl => ?_)
      refine lpW (σ := Nat) (LV := fun m2 => [(0, .ref (b 0)), (1, .int (nI (n))), (2, .int (nI (m2)))]) (WS := fun m2 => wM cI cZ b w) (I := fun k2 m2 => m2 + k2 = 3 ∧ mfk w n = fnd (fun k => !god w.1 n k (mnb w n k) (bey w.1 n k) && mtB w n k) k2 m2) (fun k2 m2 ls H locs hI_k2 hl hP hD hS ih_k2 => ?_) (3) (0) ls _ _ ⟨by omega, rfl⟩ (lv_sub hl [1, 2, 0] rfl) hP hD hS
      obtain ⟨hk2, hi2⟩ := hI_k2
      have hP : va_P (dC, dI) vwCl (wM cI cZ b w) H := hP
      have hD : va_D (inW (wM cI cZ b w)) (wM cI cZ b w) := hD
      refine lv_iload_n hx hb dX3_improves_24 rfl (lv_at hl 2 rfl) ?_
      refine lv_iconst (v := nI (3)) hx hb dX3_improves_25 (by decide) ?_
      refine lv_icmp_ge (tgt := 55) hx hb dX3_improves_26 (by decide) (fun c_3 => ?_) (fun c_3 => ?_)
      · skip
        have c_3 : 3 ≤ m2 := (nI_leI (a := 3) (b := m2) (by omega) (by omega)).mp c_3
        refine lv_iinc (v := nI (n + 1)) (lv' := [(1, .int (nI (n + 1))), (0, .ref (b 0)), (2, .int (nI (m2)))]) hx hb dX3_improves_55 hl (k := 1) rfl (nI_1 (n)) (by decide) rfl (fun ls hl => ?_)
        refine lv_goto (tgt := 2) hx hb dX3_improves_58 (by decide) ?_
        exact ih_k (k - 1) (n + 1) ls _ _ (by omega) ⟨by omega, hi.trans (fnd_miss (by omega) (by first | (simp [c_1, c_2, c_3]; done) | (have e9 : mfk w n = none := (by rw [hi2, show k2 = 0 by omega]; rfl); simp [e9])))⟩ (lv_sub hl [1, 0] rfl) hP hD hS
      · skip
        have c_3 : ¬ (3 ≤ m2) := fun hq9 => c_3 ((nI_leI (a := 3) (b := m2) (by omega) (by omega)).mpr hq9)
        refine lv_aload_n hx hb dX3_improves_29 rfl (lv_at hl 0 rfl) ?_
        refine lv_iload_n hx hb dX3_improves_30 rfl (lv_at hl 1 rfl) ?_
        refine lv_iload_n hx hb dX3_improves_31 rfl (lv_at hl 2 rfl) ?_
        refine ro_V (As := [.int (nI (n)), .int (nI (m2))]) (rest := []) (q0 := 0) (ci := 3) hx hb hml hown hts (c_X3_good l dC dI cI cL cZ b w n m2 hv (by omega) (by omega)) (cwV 2 hts gX3_improves_X3_good rfl rfl rfl (by decide +kernel) ⟨Nat.le_of_ble_eq_true rfl, Nat.le_of_ble_eq_true rfl⟩) hK hP rfl rfl rfl hl.1 rfl (Nat.le_of_ble_eq_true rfl) dX3_improves_32 ⟨Nat.zero_le _, Nat.zero_le _⟩ ?_
        refine lv_if_ne (tgt := 49) hx hb dX3_improves_35 (by decide) (fun c_4 => ?_) (fun c_4 => ?_)
        · skip
          have c_4 : (god w.1 n m2 (mnb w n m2) (bey w.1 n m2)) = true := bI_t c_4
          refine lv_iinc (v := nI (m2 + 1)) (lv' := [(2, .int (nI (m2 + 1))), (0, .ref (b 0)), (1, .int (nI (n)))]) hx hb dX3_improves_49 hl (k := 2) rfl (nI_1 (m2)) (by decide) rfl (fun ls hl => ?_)
          refine lv_goto (tgt := 24) hx hb dX3_improves_52 (by decide) ?_
          exact ih_k2 (k2 - 1) (m2 + 1) ls _ _ (by omega) ⟨by omega, hi2.trans (fnd_miss (by omega) (by simp [c_1, c_2, c_3, c_4]))⟩ (lv_sub hl [1, 2, 0] rfl) hP hD hS
        · skip
          have c_4 : (god w.1 n m2 (mnb w n m2) (bey w.1 n m2)) = false := bI_f c_4
          refine lv_aload_n hx hb dX3_improves_38 rfl (lv_at hl 0 rfl) ?_
          refine lv_iload_n hx hb dX3_improves_39 rfl (lv_at hl 1 rfl) ?_
          refine lv_iload_n hx hb dX3_improves_40 rfl (lv_at hl 2 rfl) ?_
          refine wr_V (As := [.int (nI (n)), .int (nI (m2))]) (rest := []) (q0 := 0) (ci := 3) hx hb hml hown hts (c_X3_turned l dC dI cI cL cZ b w n m2 hv (by omega) (by omega)) (cwV 2 hts gX3_improves_X3_turned rfl rfl rfl (by decide +kernel) ⟨Nat.le_of_ble_eq_true rfl, Nat.le_of_ble_eq_true rfl⟩) hK hP hD hS rfl rfl rfl rfl hl.1 rfl (Nat.le_of_ble_eq_true rfl) dX3_improves_41 ⟨Nat.zero_le _, Nat.zero_le _⟩ (fun H locs hP hD hS => ?_)
          have hP : va_P (dC, dI) vwCl (wM cI cZ b (mtS w n m2)) H := hP
          have hD : va_D (inW (wM cI cZ b w)) (wM cI cZ b (mtS w n m2)) := hD
          refine W.eq (g2 := F0 m 44 ls [.int (bI (mtB w n m2))]) rfl ?_
          refine lv_if_eq (tgt := 49) hx hb dX3_improves_44 (by decide) (fun c_5 => ?_) (fun c_5 => ?_)
          · skip
            have c_5 : (mtB w n m2) = false := bI_f c_5
            rw [mtS_f c_5] at hP hD
            refine lv_iinc (v := nI (m2 + 1)) (lv' := [(2, .int (nI (m2 + 1))), (0, .ref (b 0)), (1, .int (nI (n)))]) hx hb dX3_improves_49 hl (k := 2) rfl (nI_1 (m2)) (by decide) rfl (fun ls hl => ?_)
            refine lv_goto (tgt := 24) hx hb dX3_improves_52 (by decide) ?_
            exact ih_k2 (k2 - 1) (m2 + 1) ls _ _ (by omega) ⟨by omega, hi2.trans (fnd_miss (by omega) (by simp [c_1, c_2, c_3, c_4, c_5]))⟩ (lv_sub hl [1, 2, 0] rfl) hP hD hS
          · skip
            have c_5 : (mtB w n m2) = true := bI_t c_5
            refine lv_iconst (v := nI (1)) hx hb dX3_improves_47 (by decide) ?_
            exact wr_zret hx hb hr (by decide) hP hS (congrArg some (rb_1 (by have e7 : mfk w n = some m2 := hi2.trans (fnd_hit (by omega) (by simp [c_1, c_2, c_3, c_4, c_5])); have e6 : mfi w = some n := hi.trans (fnd_hit (by omega) (by simp [e7, c_1, c_2, c_3, c_4, c_5])); rw [e6]; rfl))) (congrArg (wM cI cZ b) (by have e7 : mfk w n = some m2 := hi2.trans (fnd_hit (by omega) (by simp [c_1, c_2, c_3, c_4, c_5])); have e6 : mfi w = some n := hi.trans (fnd_hit (by omega) (by simp [e7, c_1, c_2, c_3, c_4, c_5])); rw [mfS, e6]; simp only; rw [e7])) dX3_improves_48 hlocks
    · skip
      have c_2 : (mIs w (n)) = false := bI_f c_2
      refine lv_goto (tgt := 55) hx hb dX3_improves_19 (by decide) ?_
      refine lv_iinc (v := nI (n + 1)) (lv' := [(1, .int (nI (n + 1))), (0, .ref (b 0))]) hx hb dX3_improves_55 hl (k := 1) rfl (nI_1 (n)) (by decide) rfl (fun ls hl => ?_)
      refine lv_goto (tgt := 2) hx hb dX3_improves_58 (by decide) ?_
      exact ih_k (k - 1) (n + 1) ls _ _ (by omega) ⟨by omega, hi.trans (fnd_miss (by omega) (by first | (simp [c_1, c_2]; done) | (have e9 : mfk w n = none := (by rw [hi2, show k2 = 0 by omega]; rfl); simp [e9])))⟩ (lv_sub hl [1, 0] rfl) hP hD hS
set_option maxHeartbeats 4000000 in
set_option maxRecDepth 100000 in
theorem c_X3_add (l : Launch) (dC : Nat → ClassId) (dI : Nat → Nat → Nat) (cI cL cZ : ClassId) (b : Nat → Nat) (w : MV) (x y u : Nat) (ht : mTm w < 200) : Met l yX3_add wsX3_add ({ frames := 1, cells := 0, slots := 0, locals := 24 }) (va_Pc [.ref (b 0), .int (nI (x)), .int (nI (y)), .int (nI (u))] (wr_B (dC, dI) vwCl (wM cI cZ b w) (tyS cI cL cZ))) (wr_Q (some (.int (nI (mTm w)))) (dC, dI) vwCl (wM cI cZ b w) (wM cI cZ b (mAdd w x y u))) 0 0 (inW (wM cI cZ b w)) := by
  refine wr_Met (cc := cX3_add) (maxL := 4) (ret := (some .int)) (by decide) rfl (Nat.le_of_ble_eq_true rfl) ?_
  intro pr en s m below meth co ls hx hb hml hr hlocks hown hts hP hK hD hS hl
  have hl : lv_has ls 4 [(0, .ref (b 0)), (1, .int (nI (x))), (2, .int (nI (y))), (3, .int (nI (u)))] := hl
  have hown : s.vm.findClass RX3 = some m.cls := hown
  refine lv_aload_n hx hb dX3_add_0 rfl (lv_at hl 0 rfl) ?_
  refine lv_aload_n hx hb dX3_add_1 rfl (lv_at hl 0 rfl) ?_
  refine va_get (D := (dC, dI)) (ci := 3) (v := .int (nI (mTm w))) (C := RX3) (T := TX3) (N := 11) hx hb hts (by decide +kernel) hown hK hP 0 rfl rfl 2 (by decide) (hts (.fieldLink RX3 43 "TriangleSheetModel" "came" "I") (by decide +kernel)) (fun _ h9 => h9) rfl dX3_add_2 ?_
  refine lv_iload_n hx hb dX3_add_5 rfl (lv_at hl 1 rfl) ?_
  refine lv_iload_n hx hb dX3_add_6 rfl (lv_at hl 2 rfl) ?_
  refine lv_iload_n hx hb dX3_add_7 rfl (lv_at hl 3 rfl) ?_
  refine wr_V (As := [.int (nI (mTm w)), .int (nI (x)), .int (nI (y)), .int (nI (u))]) (rest := []) (q0 := 0) (ci := 3) hx hb hml hown hts (c_X3_set l dC dI cI cL cZ b w (mTm w) x y u (by omega)) (cwV 4 hts gX3_add_X3_set rfl rfl rfl (by decide +kernel) ⟨Nat.le_of_ble_eq_true rfl, Nat.le_of_ble_eq_true rfl⟩) hK hP hD hS rfl rfl rfl rfl hl.1 rfl (Nat.le_of_ble_eq_true rfl) dX3_add_8 ⟨Nat.zero_le _, Nat.zero_le _⟩ (fun H locs hP hD hS => ?_)
  have hP : va_P (dC, dI) vwCl (wM cI cZ b (mSet w (mTm w) x y u)) H := hP
  have hD : va_D (inW (wM cI cZ b w)) (wM cI cZ b (mSet w (mTm w) x y u)) := hD
  refine W.eq (g2 := F0 m 11 ls []) rfl ?_
  refine lv_aload_n hx hb dX3_add_11 rfl (lv_at hl 0 rfl) ?_
  refine va_get (D := (dC, dI)) (ci := 3) (v := .ref (b 3)) (C := RX3) (T := TX3) (N := 11) hx hb hts (by decide +kernel) hown hK hP 0 rfl rfl 6 (by decide) (hts (.fieldLink RX3 16 "TriangleSheetModel" "is" "[Z") (by decide +kernel)) (fun _ h9 => h9) rfl dX3_add_12 ?_
  refine lv_aload_n hx hb dX3_add_15 rfl (lv_at hl 0 rfl) ?_
  refine va_get (D := (dC, dI)) (ci := 3) (v := .int (nI (mTm (mSet w (mTm w) x y u)))) (C := RX3) (T := TX3) (N := 11) hx hb hts (by decide +kernel) hown hK hP 0 rfl rfl 2 (by decide) (hts (.fieldLink RX3 43 "TriangleSheetModel" "came" "I") (by decide +kernel)) (fun _ h9 => h9) rfl dX3_add_16 ?_
  refine lv_iconst (v := nI (1)) hx hb dX3_add_19 (by decide) ?_
  refine za_st (k := mTm (mSet w (mTm w) x y u)) hx hb hK hP hD hS 3 2 rfl rfl (by omega) (by decide) (upd_b ((mIs (mSet w (mTm w) x y u))) (mTm (mSet w (mTm w) x y u)) true) dX3_add_20 (fun H locs hP hD hS => ?_)
  have hP : va_P (dC, dI) vwCl (wM cI cZ b ((((mSet w (mTm w) x y u).1.1, (mSet w (mTm w) x y u).1.2.1, (mSet w (mTm w) x y u).1.2.2), mThr (mSet w (mTm w) x y u), mPn (mSet w (mTm w) x y u), mTm (mSet w (mTm w) x y u), mTn (mSet w (mTm w) x y u), va_up ((mIs (mSet w (mTm w) x y u))) (mTm (mSet w (mTm w) x y u)) true, mFi (mSet w (mTm w) x y u), mSe (mSet w (mTm w) x y u), mMk (mSet w (mTm w) x y u)))) H := hP
  have hD : va_D (inW (wM cI cZ b w)) (wM cI cZ b ((((mSet w (mTm w) x y u).1.1, (mSet w (mTm w) x y u).1.2.1, (mSet w (mTm w) x y u).1.2.2), mThr (mSet w (mTm w) x y u), mPn (mSet w (mTm w) x y u), mTm (mSet w (mTm w) x y u), mTn (mSet w (mTm w) x y u), va_up ((mIs (mSet w (mTm w) x y u))) (mTm (mSet w (mTm w) x y u)) true, mFi (mSet w (mTm w) x y u), mSe (mSet w (mTm w) x y u), mMk (mSet w (mTm w) x y u)))) := hD
  refine lv_aload_n hx hb dX3_add_21 rfl (lv_at hl 0 rfl) ?_
  refine lv_dup hx hb dX3_add_22 rfl ?_
  refine va_get (D := (dC, dI)) (ci := 3) (v := .int (nI (mTm (mSet w (mTm w) x y u)))) (C := RX3) (T := TX3) (N := 11) hx hb hts (by decide +kernel) hown hK hP 0 rfl rfl 2 (by decide) (hts (.fieldLink RX3 43 "TriangleSheetModel" "came" "I") (by decide +kernel)) (fun _ h9 => h9) rfl dX3_add_23 ?_
  refine lv_iconst (v := nI (1)) hx hb dX3_add_26 (by decide) ?_
  refine lv_iadd hx hb dX3_add_27 ?_
  refine rt_i (y := (nI (mTm (mSet w (mTm w) x y u) + 1))) (nn_add (mTm (mSet w (mTm w) x y u)) (1)) ?_
  refine va_put (D := (dC, dI)) (ci := 3) (v := .int (nI (mTm (mSet w (mTm w) x y u) + 1))) (ty := .int) (C := RX3) (T := TX3) (N := 11) hx hb hts (by decide +kernel) tyX3 tyX3_ok nmX3 hown hK hP hD hS 0 rfl rfl 2 (by decide) (hts (.fieldLink RX3 43 "TriangleSheetModel" "came" "I") (by decide +kernel)) (fun _ h9 => h9) rfl (by decide +kernel) rfl rfl (Nat.le_of_ble_eq_true rfl) dX3_add_28 (fun H locs hP hD hS => ?_)
  have hP : va_P (dC, dI) vwCl (wM cI cZ b ((((mSet w (mTm w) x y u).1.1, (mSet w (mTm w) x y u).1.2.1, (mSet w (mTm w) x y u).1.2.2), mThr (mSet w (mTm w) x y u), mPn (mSet w (mTm w) x y u), mTm (mSet w (mTm w) x y u) + 1, mTn (mSet w (mTm w) x y u), va_up ((mIs (mSet w (mTm w) x y u))) (mTm (mSet w (mTm w) x y u)) true, mFi (mSet w (mTm w) x y u), mSe (mSet w (mTm w) x y u), mMk (mSet w (mTm w) x y u)))) H := hP
  have hD : va_D (inW (wM cI cZ b w)) (wM cI cZ b ((((mSet w (mTm w) x y u).1.1, (mSet w (mTm w) x y u).1.2.1, (mSet w (mTm w) x y u).1.2.2), mThr (mSet w (mTm w) x y u), mPn (mSet w (mTm w) x y u), mTm (mSet w (mTm w) x y u) + 1, mTn (mSet w (mTm w) x y u), va_up ((mIs (mSet w (mTm w) x y u))) (mTm (mSet w (mTm w) x y u)) true, mFi (mSet w (mTm w) x y u), mSe (mSet w (mTm w) x y u), mMk (mSet w (mTm w) x y u)))) := hD
  refine lv_aload_n hx hb dX3_add_31 rfl (lv_at hl 0 rfl) ?_
  refine lv_dup hx hb dX3_add_32 rfl ?_
  refine va_get (D := (dC, dI)) (ci := 3) (v := .int (nI (mTn (mSet w (mTm w) x y u)))) (C := RX3) (T := TX3) (N := 11) hx hb hts (by decide +kernel) hown hK hP 0 rfl rfl 3 (by decide) (hts (.fieldLink RX3 112 "TriangleSheetModel" "there" "I") (by decide +kernel)) (fun _ h9 => h9) rfl dX3_add_33 ?_
  refine lv_iconst (v := nI (1)) hx hb dX3_add_36 (by decide) ?_
  refine lv_iadd hx hb dX3_add_37 ?_
  refine rt_i (y := (nI (mTn (mSet w (mTm w) x y u) + 1))) (nn_add (mTn (mSet w (mTm w) x y u)) (1)) ?_
  refine va_put (D := (dC, dI)) (ci := 3) (v := .int (nI (mTn (mSet w (mTm w) x y u) + 1))) (ty := .int) (C := RX3) (T := TX3) (N := 11) hx hb hts (by decide +kernel) tyX3 tyX3_ok nmX3 hown hK hP hD hS 0 rfl rfl 3 (by decide) (hts (.fieldLink RX3 112 "TriangleSheetModel" "there" "I") (by decide +kernel)) (fun _ h9 => h9) rfl (by decide +kernel) rfl rfl (Nat.le_of_ble_eq_true rfl) dX3_add_38 (fun H locs hP hD hS => ?_)
  have hP : va_P (dC, dI) vwCl (wM cI cZ b ((((mSet w (mTm w) x y u).1.1, (mSet w (mTm w) x y u).1.2.1, (mSet w (mTm w) x y u).1.2.2), mThr (mSet w (mTm w) x y u), mPn (mSet w (mTm w) x y u), mTm (mSet w (mTm w) x y u) + 1, mTn (mSet w (mTm w) x y u) + 1, va_up ((mIs (mSet w (mTm w) x y u))) (mTm (mSet w (mTm w) x y u)) true, mFi (mSet w (mTm w) x y u), mSe (mSet w (mTm w) x y u), mMk (mSet w (mTm w) x y u)))) H := hP
  have hD : va_D (inW (wM cI cZ b w)) (wM cI cZ b ((((mSet w (mTm w) x y u).1.1, (mSet w (mTm w) x y u).1.2.1, (mSet w (mTm w) x y u).1.2.2), mThr (mSet w (mTm w) x y u), mPn (mSet w (mTm w) x y u), mTm (mSet w (mTm w) x y u) + 1, mTn (mSet w (mTm w) x y u) + 1, va_up ((mIs (mSet w (mTm w) x y u))) (mTm (mSet w (mTm w) x y u)) true, mFi (mSet w (mTm w) x y u), mSe (mSet w (mTm w) x y u), mMk (mSet w (mTm w) x y u)))) := hD
  refine lv_aload_n hx hb dX3_add_41 rfl (lv_at hl 0 rfl) ?_
  refine va_get (D := (dC, dI)) (ci := 3) (v := .int (nI (mTm (mSet w (mTm w) x y u) + 1))) (C := RX3) (T := TX3) (N := 11) hx hb hts (by decide +kernel) hown hK hP 0 rfl rfl 2 (by decide) (hts (.fieldLink RX3 43 "TriangleSheetModel" "came" "I") (by decide +kernel)) (fun _ h9 => h9) rfl dX3_add_42 ?_
  refine lv_iconst (v := nI (1)) hx hb dX3_add_45 (by decide) ?_
  refine lv_isub hx hb dX3_add_46 ?_
  refine rt_i (y := (iI ((((mTm (mSet w (mTm w) x y u) + 1 : Nat) : Int)) - (((1 : Nat) : Int))))) (nn_sub (mTm (mSet w (mTm w) x y u) + 1) (1)) ?_
  exact wr_iret hx hb hr hP hS (congrArg some (rzn (by show ((mTm w + 1 : Nat) : Int) - ((1 : Nat) : Int) = _; omega))) rfl dX3_add_47 hlocks
set_option maxHeartbeats 4000000 in
set_option maxRecDepth 100000 in
theorem c_X3_fault (l : Launch) (dC : Nat → ClassId) (dI : Nat → Nat → Nat) (cI cL cZ : ClassId) (b : Nat → Nat) (w : MV)  (hv : okM w) : Met l yX3_fault wsX3_fault ({ frames := 5, cells := 0, slots := 0, locals := 131 }) (va_Pc [.ref (b 0)] (wr_B (dC, dI) vwCl (wM cI cZ b w) (tyS cI cL cZ))) (wr_Q (some (.int (nI (mfaR (mThx w (nI 0)))))) (dC, dI) vwCl (wM cI cZ b w) (wM cI cZ b (mfaS (mThx w (nI 0))))) 0 0 (inW (wM cI cZ b w)) := by
  refine wr_Met (cc := cX3_fault) (maxL := 3) (ret := (some .int)) (by decide) rfl (Nat.le_of_ble_eq_true rfl) ?_
  intro pr en s m below meth co ls hx hb hml hr hlocks hown hts hP hK hD hS hl
  have hl : lv_has ls 3 [(0, .ref (b 0))] := hl
  have hown : s.vm.findClass RX3 = some m.cls := hown
  have hvp : mPn w ≤ 60 ∧ mTm w ≤ 200 ∧ mTn w ≤ 60 := ⟨hv.2.1, hv.2.2.1, hv.2.2.2.1⟩
  refine lv_aload_n hx hb dX3_fault_0 rfl (lv_at hl 0 rfl) ?_
  refine lv_iconst (v := nI (0)) hx hb dX3_fault_1 (by decide) ?_
  refine va_put (D := (dC, dI)) (ci := 3) (v := .int (nI (0))) (ty := .int) (C := RX3) (T := TX3) (N := 11) hx hb hts (by decide +kernel) tyX3 tyX3_ok nmX3 hown hK hP hD hS 0 rfl rfl 0 (by decide) (hts (.fieldLink RX3 33 "TriangleSheetModel" "thrown" "I") (by decide +kernel)) (fun _ h9 => h9) rfl (by decide +kernel) rfl rfl (Nat.le_of_ble_eq_true rfl) dX3_fault_2 (fun H locs hP hD hS => ?_)
  have hP : va_P (dC, dI) vwCl (wM cI cZ b (((w.1.1, w.1.2.1, w.1.2.2), nI (0), mPn w, mTm w, mTn w, mIs w, mFi w, mSe w, mMk w))) H := hP
  have hD : va_D (inW (wM cI cZ b w)) (wM cI cZ b (((w.1.1, w.1.2.1, w.1.2.2), nI (0), mPn w, mTm w, mTn w, mIs w, mFi w, mSe w, mMk w))) := hD
  have hP : va_P (dC, dI) vwCl (wM cI cZ b (mThx w (nI 0))) H := hP
  have hD : va_D (inW (wM cI cZ b w)) (wM cI cZ b (mThx w (nI 0))) := hD
  have hv : okM (mThx w (nI 0)) := hv
  generalize mThx w (nI 0) = w1 at hP hD hv ⊢
  have hvp : mPn w1 ≤ 60 ∧ mTm w1 ≤ 200 ∧ mTn w1 ≤ 60 := ⟨hv.2.1, hv.2.2.1, hv.2.2.2.1⟩
  refine lv_iconst (v := nI (0)) hx hb dX3_fault_5 (by decide) ?_
  refine lv_istore_n (lv' := [(1, .int (nI (0))), (0, .ref (b 0))]) hx hb dX3_fault_6 rfl hl (by decide) rfl (fun ls hl => ?_)
  refine lpW (σ := Nat) (LV := fun n => [(0, .ref (b 0)), (1, .int (nI (n)))]) (WS := fun n => wM cI cZ b w1) (I := fun k n => n + k = mTm w1 ∧ mfai w1 = fnd (fun t => mIs w1 t && (!rgt w1.1 t || (muf w1 t).isSome)) k n) (fun k n ls H locs hI_k hl hP hD hS ih_k => ?_) (mTm w1) (0) ls _ _ ⟨by omega, rfl⟩ (lv_sub hl [1, 0] rfl) hP hD hS
  obtain ⟨hk, hi⟩ := hI_k
  have hP : va_P (dC, dI) vwCl (wM cI cZ b w1) H := hP
  have hD : va_D (inW (wM cI cZ b w)) (wM cI cZ b w1) := hD
  refine lv_iload_n hx hb dX3_fault_7 rfl (lv_at hl 1 rfl) ?_
  refine lv_aload_n hx hb dX3_fault_8 rfl (lv_at hl 0 rfl) ?_
  refine va_get (D := (dC, dI)) (ci := 3) (v := .int (nI (mTm w1))) (C := RX3) (T := TX3) (N := 11) hx hb hts (by decide +kernel) hown hK hP 0 rfl rfl 2 (by decide) (hts (.fieldLink RX3 43 "TriangleSheetModel" "came" "I") (by decide +kernel)) (fun _ h9 => h9) rfl dX3_fault_9 ?_
  refine lv_icmp_ge (tgt := 88) hx hb dX3_fault_12 (by decide) (fun c_1 => ?_) (fun c_1 => ?_)
  · skip
    have c_1 : mTm w1 ≤ n := (nI_leI (a := mTm w1) (b := n) (by omega) (by omega)).mp c_1
    refine lv_iconst (v := nI (0)) hx hb dX3_fault_88 (by decide) ?_
    exact wr_iret hx hb hr hP hS (congrArg some (rn (by rw [mfaR, hi, show k = 0 by omega]; rfl))) (congrArg (wM cI cZ b) (by rw [mfaS, hi, show k = 0 by omega]; rfl)) dX3_fault_89 hlocks
  · skip
    have c_1 : ¬ (mTm w1 ≤ n) := fun hq9 => c_1 ((nI_leI (a := mTm w1) (b := n) (by omega) (by omega)).mpr hq9)
    refine lv_aload_n hx hb dX3_fault_15 rfl (lv_at hl 0 rfl) ?_
    refine va_get (D := (dC, dI)) (ci := 3) (v := .ref (b 3)) (C := RX3) (T := TX3) (N := 11) hx hb hts (by decide +kernel) hown hK hP 0 rfl rfl 6 (by decide) (hts (.fieldLink RX3 16 "TriangleSheetModel" "is" "[Z") (by decide +kernel)) (fun _ h9 => h9) rfl dX3_fault_16 ?_
    refine lv_iload_n hx hb dX3_fault_19 rfl (lv_at hl 1 rfl) ?_
    refine za_ld (k := n) hx hb hK hP 3 2 rfl rfl (by omega) (by decide) dX3_fault_20 ?_
    refine W.eq (g2 := F0 m 21 ls [.int (bI ((mIs w1) (n)))]) rfl ?_
    refine lv_if_ne (tgt := 27) hx hb dX3_fault_21 (by decide) (fun c_2 => ?_) (fun c_2 => ?_)
    · skip
      have c_2 : ((mIs w1) (n)) = true := bI_t c_2
      refine lv_aload_n hx hb dX3_fault_27 rfl (lv_at hl 0 rfl) ?_
      refine lv_iload_n hx hb dX3_fault_28 rfl (lv_at hl 1 rfl) ?_
      refine ro_V (As := [.int (nI (n))]) (rest := []) (q0 := 0) (ci := 3) hx hb hml hown hts (c_X3_isRight l dC dI cI cL cZ b w1 n hv (by omega)) (cwV 1 hts gX3_fault_X3_isRight rfl rfl rfl (by decide +kernel) ⟨Nat.le_of_ble_eq_true rfl, Nat.le_of_ble_eq_true rfl⟩) hK hP rfl rfl rfl hl.1 rfl (Nat.le_of_ble_eq_true rfl) dX3_fault_29 ⟨Nat.zero_le _, Nat.zero_le _⟩ ?_
      refine lv_if_ne (tgt := 43) hx hb dX3_fault_32 (by decide) (fun c_3 => ?_) (fun c_3 => ?_)
      · skip
        have c_3 : (rgt w1.1 n) = true := bI_t c_3
        refine lv_iconst (v := nI (0)) hx hb dX3_fault_43 (by decide) ?_
        refine lv_istore_n (lv' := [(2, .int (nI (0))), (0, .ref (b 0)), (1, .int (nI (n)))]) hx hb dX3_fault_44 rfl hl (by decide) rfl (fun ls hl => ?_)
        refine lpW (σ := Nat) (LV := fun m2 => [(0, .ref (b 0)), (1, .int (nI (n))), (2, .int (nI (m2)))]) (WS := fun m2 => wM cI cZ b w1) (I := fun k2 m2 => m2 + k2 = n ∧ muf w1 n = fnd (fun u => mIs w1 u && !mti w1.1 n u) k2 m2) (fun k2 m2 ls H locs hI_k2 hl hP hD hS ih_k2 => ?_) (n) (0) ls _ _ ⟨by omega, rfl⟩ (lv_sub hl [1, 2, 0] rfl) hP hD hS
        obtain ⟨hk2, hi2⟩ := hI_k2
        have hP : va_P (dC, dI) vwCl (wM cI cZ b w1) H := hP
        have hD : va_D (inW (wM cI cZ b w)) (wM cI cZ b w1) := hD
        refine lv_iload_n hx hb dX3_fault_45 rfl (lv_at hl 2 rfl) ?_
        refine lv_iload_n hx hb dX3_fault_46 rfl (lv_at hl 1 rfl) ?_
        refine lv_icmp_ge (tgt := 82) hx hb dX3_fault_47 (by decide) (fun c_4 => ?_) (fun c_4 => ?_)
        · skip
          have c_4 : n ≤ m2 := (nI_leI (a := n) (b := m2) (by omega) (by omega)).mp c_4
          refine lv_iinc (v := nI (n + 1)) (lv' := [(1, .int (nI (n + 1))), (0, .ref (b 0)), (2, .int (nI (m2)))]) hx hb dX3_fault_82 hl (k := 1) rfl (nI_1 (n)) (by decide) rfl (fun ls hl => ?_)
          refine lv_goto (tgt := 7) hx hb dX3_fault_85 (by decide) ?_
          exact ih_k (k - 1) (n + 1) ls _ _ (by omega) ⟨by omega, hi.trans (fnd_miss (by omega) (by first | (simp [c_1, c_2, c_3, c_4]; done) | (have e9 : muf w1 n = none := (by rw [hi2, show k2 = 0 by omega]; rfl); simp [e9, c_1, c_2, c_3, c_4])))⟩ (lv_sub hl [1, 0] rfl) hP hD hS
        · skip
          have c_4 : ¬ (n ≤ m2) := fun hq9 => c_4 ((nI_leI (a := n) (b := m2) (by omega) (by omega)).mpr hq9)
          refine lv_aload_n hx hb dX3_fault_50 rfl (lv_at hl 0 rfl) ?_
          refine va_get (D := (dC, dI)) (ci := 3) (v := .ref (b 3)) (C := RX3) (T := TX3) (N := 11) hx hb hts (by decide +kernel) hown hK hP 0 rfl rfl 6 (by decide) (hts (.fieldLink RX3 16 "TriangleSheetModel" "is" "[Z") (by decide +kernel)) (fun _ h9 => h9) rfl dX3_fault_51 ?_
          refine lv_iload_n hx hb dX3_fault_54 rfl (lv_at hl 2 rfl) ?_
          refine za_ld (k := m2) hx hb hK hP 3 2 rfl rfl (by omega) (by decide) dX3_fault_55 ?_
          refine W.eq (g2 := F0 m 56 ls [.int (bI ((mIs w1) (m2)))]) rfl ?_
          refine lv_if_eq (tgt := 76) hx hb dX3_fault_56 (by decide) (fun c_5 => ?_) (fun c_5 => ?_)
          · skip
            have c_5 : ((mIs w1) (m2)) = false := bI_f c_5
            refine lv_iinc (v := nI (m2 + 1)) (lv' := [(2, .int (nI (m2 + 1))), (0, .ref (b 0)), (1, .int (nI (n)))]) hx hb dX3_fault_76 hl (k := 2) rfl (nI_1 (m2)) (by decide) rfl (fun ls hl => ?_)
            refine lv_goto (tgt := 45) hx hb dX3_fault_79 (by decide) ?_
            exact ih_k2 (k2 - 1) (m2 + 1) ls _ _ (by omega) ⟨by omega, hi2.trans (fnd_miss (by omega) (by simp [c_1, c_2, c_3, c_4, c_5]))⟩ (lv_sub hl [1, 2, 0] rfl) hP hD hS
          · skip
            have c_5 : ((mIs w1) (m2)) = true := bI_t c_5
            refine lv_aload_n hx hb dX3_fault_59 rfl (lv_at hl 0 rfl) ?_
            refine lv_iload_n hx hb dX3_fault_60 rfl (lv_at hl 1 rfl) ?_
            refine lv_iload_n hx hb dX3_fault_61 rfl (lv_at hl 2 rfl) ?_
            refine ro_V (As := [.int (nI (n)), .int (nI (m2))]) (rest := []) (q0 := 0) (ci := 3) hx hb hml hown hts (c_X3_isTidy l dC dI cI cL cZ b w1 n m2 hv (by omega) (by omega)) (cwV 2 hts gX3_fault_X3_isTidy rfl rfl rfl (by decide +kernel) ⟨Nat.le_of_ble_eq_true rfl, Nat.le_of_ble_eq_true rfl⟩) hK hP rfl rfl rfl hl.1 rfl (Nat.le_of_ble_eq_true rfl) dX3_fault_62 ⟨Nat.zero_le _, Nat.zero_le _⟩ ?_
            refine lv_if_ne (tgt := 76) hx hb dX3_fault_65 (by decide) (fun c_6 => ?_) (fun c_6 => ?_)
            · skip
              have c_6 : (mti w1.1 n m2) = true := bI_t c_6
              refine lv_iinc (v := nI (m2 + 1)) (lv' := [(2, .int (nI (m2 + 1))), (0, .ref (b 0)), (1, .int (nI (n)))]) hx hb dX3_fault_76 hl (k := 2) rfl (nI_1 (m2)) (by decide) rfl (fun ls hl => ?_)
              refine lv_goto (tgt := 45) hx hb dX3_fault_79 (by decide) ?_
              exact ih_k2 (k2 - 1) (m2 + 1) ls _ _ (by omega) ⟨by omega, hi2.trans (fnd_miss (by omega) (by simp [c_1, c_2, c_3, c_4, c_5, c_6]))⟩ (lv_sub hl [1, 2, 0] rfl) hP hD hS
            · skip
              have c_6 : (mti w1.1 n m2) = false := bI_f c_6
              refine lv_aload_n hx hb dX3_fault_68 rfl (lv_at hl 0 rfl) ?_
              refine lv_iconst (v := nI (2)) hx hb dX3_fault_69 (by decide) ?_
              refine lv_iload_n hx hb dX3_fault_70 rfl (lv_at hl 1 rfl) ?_
              refine lv_iload_n hx hb dX3_fault_71 rfl (lv_at hl 2 rfl) ?_
              refine wr_V (As := [.int (nI (2)), .int (nI (n)), .int (nI (m2))]) (rest := []) (q0 := 0) (ci := 3) hx hb hml hown hts (c_X3_blame l dC dI cI cL cZ b w1 2 (nI (n)) (nI (m2)) ) (cwV 3 hts gX3_fault_X3_blame rfl rfl rfl (by decide +kernel) ⟨Nat.le_of_ble_eq_true rfl, Nat.le_of_ble_eq_true rfl⟩) hK hP hD hS rfl rfl rfl rfl hl.1 rfl (Nat.le_of_ble_eq_true rfl) dX3_fault_72 ⟨Nat.zero_le _, Nat.zero_le _⟩ (fun H locs hP hD hS => ?_)
              have hP : va_P (dC, dI) vwCl (wM cI cZ b (mCul w1 (nI (n)) (nI (m2)))) H := hP
              have hD : va_D (inW (wM cI cZ b w)) (wM cI cZ b (mCul w1 (nI (n)) (nI (m2)))) := hD
              refine W.eq (g2 := F0 m 75 ls [.int (nI (2))]) rfl ?_
              exact wr_iret hx hb hr hP hS (congrArg some (rn (by have e7 : muf w1 n = some m2 := hi2.trans (fnd_hit (by omega) (by simp [c_1, c_2, c_3, c_4, c_5, c_6])); have e6 : mfai w1 = some n := hi.trans (fnd_hit (by omega) (by simp [e7, c_1, c_2, c_3, c_4, c_5, c_6])); rw [mfaR, e6]; simp [c_1, c_2, c_3, c_4, c_5, c_6]))) (congrArg (wM cI cZ b) (by have e7 : muf w1 n = some m2 := hi2.trans (fnd_hit (by omega) (by simp [c_1, c_2, c_3, c_4, c_5, c_6])); have e6 : mfai w1 = some n := hi.trans (fnd_hit (by omega) (by simp [e7, c_1, c_2, c_3, c_4, c_5, c_6])); rw [mfaS, e6]; simp [c_1, c_2, c_3, c_4, c_5, c_6, e7, oI])) dX3_fault_75 hlocks
      · skip
        have c_3 : (rgt w1.1 n) = false := bI_f c_3
        refine lv_aload_n hx hb dX3_fault_35 rfl (lv_at hl 0 rfl) ?_
        refine lv_iconst (v := nI (1)) hx hb dX3_fault_36 (by decide) ?_
        refine lv_iload_n hx hb dX3_fault_37 rfl (lv_at hl 1 rfl) ?_
        refine lv_iconst (v := iI (-1)) hx hb dX3_fault_38 (by decide) ?_
        refine wr_V (As := [.int (nI (1)), .int (nI (n)), .int (iI (-1))]) (rest := []) (q0 := 0) (ci := 3) hx hb hml hown hts (c_X3_blame l dC dI cI cL cZ b w1 1 (nI (n)) (iI (-1)) ) (cwV 3 hts gX3_fault_X3_blame rfl rfl rfl (by decide +kernel) ⟨Nat.le_of_ble_eq_true rfl, Nat.le_of_ble_eq_true rfl⟩) hK hP hD hS rfl rfl rfl rfl hl.1 rfl (Nat.le_of_ble_eq_true rfl) dX3_fault_39 ⟨Nat.zero_le _, Nat.zero_le _⟩ (fun H locs hP hD hS => ?_)
        have hP : va_P (dC, dI) vwCl (wM cI cZ b (mCul w1 (nI (n)) (iI (-1)))) H := hP
        have hD : va_D (inW (wM cI cZ b w)) (wM cI cZ b (mCul w1 (nI (n)) (iI (-1)))) := hD
        refine W.eq (g2 := F0 m 42 ls [.int (nI (1))]) rfl ?_
        exact wr_iret hx hb hr hP hS (congrArg some (rn (by have e6 : mfai w1 = some n := hi.trans (fnd_hit (by omega) (by simp [c_1, c_2, c_3])); rw [mfaR, e6]; simp [c_1, c_2, c_3]))) (congrArg (wM cI cZ b) (by have e6 : mfai w1 = some n := hi.trans (fnd_hit (by omega) (by simp [c_1, c_2, c_3])); rw [mfaS, e6]; simp [c_1, c_2, c_3])) dX3_fault_42 hlocks
    · skip
      have c_2 : ((mIs w1) (n)) = false := bI_f c_2
      refine lv_goto (tgt := 82) hx hb dX3_fault_24 (by decide) ?_
      refine lv_iinc (v := nI (n + 1)) (lv' := [(1, .int (nI (n + 1))), (0, .ref (b 0))]) hx hb dX3_fault_82 hl (k := 1) rfl (nI_1 (n)) (by decide) rfl (fun ls hl => ?_)
      refine lv_goto (tgt := 7) hx hb dX3_fault_85 (by decide) ?_
      exact ih_k (k - 1) (n + 1) ls _ _ (by omega) ⟨by omega, hi.trans (fnd_miss (by omega) (by first | (simp [c_1, c_2]; done) | (have e9 : muf w1 n = none := (by rw [hi2, show k2 = 0 by omega]; rfl); simp [e9, c_1, c_2])))⟩ (lv_sub hl [1, 0] rfl) hP hD hS
set_option maxHeartbeats 4000000 in
set_option maxRecDepth 100000 in
theorem c_X3_culprit (l : Launch) (dC : Nat → ClassId) (dI : Nat → Nat → Nat) (cI cL cZ : ClassId) (b : Nat → Nat) (w : MV) (x : Int32)  : Met l yX3_culprit wsX3_culprit ({ frames := 0, cells := 0, slots := 0, locals := 0 }) (va_Pc [.ref (b 0), .int (x)] (wr_B (dC, dI) vwCl (wM cI cZ b w) (tyS cI cL cZ))) (wr_Q (some (.int (mcuC (mThx w (nI 0)) x))) (dC, dI) vwCl (wM cI cZ b w) (wM cI cZ b (mThx w (nI 0)))) 0 0 (inW (wM cI cZ b w)) := by
  refine wr_Met (cc := cX3_culprit) (maxL := 2) (ret := (some .int)) (by decide) rfl (Nat.le_of_ble_eq_true rfl) ?_
  intro pr en s m below meth co ls hx hb hml hr hlocks hown hts hP hK hD hS hl
  have hl : lv_has ls 2 [(0, .ref (b 0)), (1, .int (x))] := hl
  have hown : s.vm.findClass RX3 = some m.cls := hown
  refine lv_aload_n hx hb dX3_culprit_0 rfl (lv_at hl 0 rfl) ?_
  refine lv_iconst (v := nI (0)) hx hb dX3_culprit_1 (by decide) ?_
  refine va_put (D := (dC, dI)) (ci := 3) (v := .int (nI (0))) (ty := .int) (C := RX3) (T := TX3) (N := 11) hx hb hts (by decide +kernel) tyX3 tyX3_ok nmX3 hown hK hP hD hS 0 rfl rfl 0 (by decide) (hts (.fieldLink RX3 33 "TriangleSheetModel" "thrown" "I") (by decide +kernel)) (fun _ h9 => h9) rfl (by decide +kernel) rfl rfl (Nat.le_of_ble_eq_true rfl) dX3_culprit_2 (fun H locs hP hD hS => ?_)
  have hP : va_P (dC, dI) vwCl (wM cI cZ b (((w.1.1, w.1.2.1, w.1.2.2), nI (0), mPn w, mTm w, mTn w, mIs w, mFi w, mSe w, mMk w))) H := hP
  have hD : va_D (inW (wM cI cZ b w)) (wM cI cZ b (((w.1.1, w.1.2.1, w.1.2.2), nI (0), mPn w, mTm w, mTn w, mIs w, mFi w, mSe w, mMk w))) := hD
  refine lv_iload_n hx hb dX3_culprit_5 rfl (lv_at hl 1 rfl) ?_
  refine lv_if_ne (tgt := 16) hx hb dX3_culprit_6 (by decide) (fun c_1 => ?_) (fun c_1 => ?_)
  · skip
    refine lv_iload_n hx hb dX3_culprit_16 rfl (lv_at hl 1 rfl) ?_
    refine lv_iconst (v := nI (1)) hx hb dX3_culprit_17 (by decide) ?_
    refine lv_icmp_ne (tgt := 28) hx hb dX3_culprit_18 (by decide) (fun c_2 => ?_) (fun c_2 => ?_)
    · skip
      refine lv_iconst (v := iI (-1)) hx hb dX3_culprit_28 (by decide) ?_
      exact wr_iret hx hb hr hP hS (congrArg some (congrArg Value.int (by rw [mcuC]; first | rw [if_pos (by assumption)] | rw [if_neg (by assumption), if_pos (by assumption)] | rw [if_neg (by assumption), if_neg (by assumption)]))) rfl dX3_culprit_29 hlocks
    · skip
      refine lv_aload_n hx hb dX3_culprit_21 rfl (lv_at hl 0 rfl) ?_
      refine va_get (D := (dC, dI)) (ci := 3) (v := .int (mSe w)) (C := RX3) (T := TX3) (N := 11) hx hb hts (by decide +kernel) hown hK hP 0 rfl rfl 9 (by decide) (hts (.fieldLink RX3 27 "TriangleSheetModel" "second" "I") (by decide +kernel)) (fun _ h9 => h9) rfl dX3_culprit_22 ?_
      refine lv_goto (tgt := 29) hx hb dX3_culprit_25 (by decide) ?_
      exact wr_iret hx hb hr hP hS (congrArg some (congrArg Value.int (by rw [mcuC]; first | rw [if_pos (by assumption)] | rw [if_neg (by assumption), if_pos (by assumption)] | rw [if_neg (by assumption), if_neg (by assumption)]))) rfl dX3_culprit_29 hlocks
  · skip
    refine lv_aload_n hx hb dX3_culprit_9 rfl (lv_at hl 0 rfl) ?_
    refine va_get (D := (dC, dI)) (ci := 3) (v := .int (mFi w)) (C := RX3) (T := TX3) (N := 11) hx hb hts (by decide +kernel) hown hK hP 0 rfl rfl 8 (by decide) (hts (.fieldLink RX3 23 "TriangleSheetModel" "first" "I") (by decide +kernel)) (fun _ h9 => h9) rfl dX3_culprit_10 ?_
    refine lv_goto (tgt := 29) hx hb dX3_culprit_13 (by decide) ?_
    exact wr_iret hx hb hr hP hS (congrArg some (congrArg Value.int (by rw [mcuC]; first | rw [if_pos (by assumption)] | rw [if_neg (by assumption), if_pos (by assumption)] | rw [if_neg (by assumption), if_neg (by assumption)]))) rfl dX3_culprit_29 hlocks
set_option maxHeartbeats 4000000 in
set_option maxRecDepth 100000 in
theorem c_X3_covers (l : Launch) (dC : Nat → ClassId) (dI : Nat → Nat → Nat) (cI cL cZ : ClassId) (b : Nat → Nat) (w : MV) (x y : Int32) (hv : okM w) : Met l yX3_covers wsX3_covers ({ frames := 6, cells := 0, slots := 0, locals := 149 }) (va_Pc [.ref (b 0), .int (x), .int (y)] (wr_B (dC, dI) vwCl (wM cI cZ b w) (tyS cI cL cZ))) (wr_Q (some (.int (nI (mcoC (mThx w (nI 0)) x y)))) (dC, dI) vwCl (wM cI cZ b w) (wM cI cZ b (mThx w (nI 0)))) 0 0 (inW (wM cI cZ b w)) := by
  refine wr_Met (cc := cX3_covers) (maxL := 3) (ret := (some .int)) (by decide) rfl (Nat.le_of_ble_eq_true rfl) ?_
  intro pr en s m below meth co ls hx hb hml hr hlocks hown hts hP hK hD hS hl
  have hl : lv_has ls 3 [(0, .ref (b 0)), (1, .int (x)), (2, .int (y))] := hl
  have hown : s.vm.findClass RX3 = some m.cls := hown
  have hvp : mPn w ≤ 60 ∧ mTm w ≤ 200 ∧ mTn w ≤ 60 := ⟨hv.2.1, hv.2.2.1, hv.2.2.2.1⟩
  refine lv_aload_n hx hb dX3_covers_0 rfl (lv_at hl 0 rfl) ?_
  refine lv_iconst (v := nI (0)) hx hb dX3_covers_1 (by decide) ?_
  refine va_put (D := (dC, dI)) (ci := 3) (v := .int (nI (0))) (ty := .int) (C := RX3) (T := TX3) (N := 11) hx hb hts (by decide +kernel) tyX3 tyX3_ok nmX3 hown hK hP hD hS 0 rfl rfl 0 (by decide) (hts (.fieldLink RX3 33 "TriangleSheetModel" "thrown" "I") (by decide +kernel)) (fun _ h9 => h9) rfl (by decide +kernel) rfl rfl (Nat.le_of_ble_eq_true rfl) dX3_covers_2 (fun H locs hP hD hS => ?_)
  have hP : va_P (dC, dI) vwCl (wM cI cZ b (((w.1.1, w.1.2.1, w.1.2.2), nI (0), mPn w, mTm w, mTn w, mIs w, mFi w, mSe w, mMk w))) H := hP
  have hD : va_D (inW (wM cI cZ b w)) (wM cI cZ b (((w.1.1, w.1.2.1, w.1.2.2), nI (0), mPn w, mTm w, mTn w, mIs w, mFi w, mSe w, mMk w))) := hD
  have hP : va_P (dC, dI) vwCl (wM cI cZ b (mThx w (nI 0))) H := hP
  have hD : va_D (inW (wM cI cZ b w)) (wM cI cZ b (mThx w (nI 0))) := hD
  have hv : okM (mThx w (nI 0)) := hv
  generalize mThx w (nI 0) = w1 at hP hD hv ⊢
  have hvp : mPn w1 ≤ 60 ∧ mTm w1 ≤ 200 ∧ mTn w1 ≤ 60 := ⟨hv.2.1, hv.2.2.1, hv.2.2.2.1⟩
  refine lv_iload_n hx hb dX3_covers_5 rfl (lv_at hl 1 rfl) ?_
  refine lv_bipush (v := nI (32)) hx hb dX3_covers_6 (by decide) ?_
  refine ro_S (As := [.int (x), .int (nI (32))]) (rest := []) hx hb hml hown hts (c_X3_in l dC dI  x 32 (by omega)) (va_cwS 2 hts gX3_covers_X3_in rfl rfl rfl (by decide +kernel) ⟨Nat.le_of_ble_eq_true rfl, Nat.le_of_ble_eq_true rfl⟩) (hK.sub [] rfl) (hP.sub [] rfl) rfl hl.1 rfl (Nat.le_of_ble_eq_true rfl) dX3_covers_8 ⟨Nat.zero_le _, Nat.zero_le _⟩ ?_
  refine lv_if_eq (tgt := 32) hx hb dX3_covers_11 (by decide) (fun c_1 => ?_) (fun c_1 => ?_)
  · skip
    have c_1 : (inB x 32) = false := bI_f c_1
    refine lv_iconst (v := nI (0)) hx hb dX3_covers_32 (by decide) ?_
    exact wr_iret hx hb hr hP hS (congrArg some (rn (by rw [mcoC, if_neg (by simp [c_1])]))) rfl dX3_covers_33 hlocks
  · skip
    have c_1 : (inB x 32) = true := bI_t c_1
    refine lv_iload_n hx hb dX3_covers_14 rfl (lv_at hl 2 rfl) ?_
    refine lv_bipush (v := nI (32)) hx hb dX3_covers_15 (by decide) ?_
    refine ro_S (As := [.int (y), .int (nI (32))]) (rest := []) hx hb hml hown hts (c_X3_in l dC dI  y 32 (by omega)) (va_cwS 2 hts gX3_covers_X3_in rfl rfl rfl (by decide +kernel) ⟨Nat.le_of_ble_eq_true rfl, Nat.le_of_ble_eq_true rfl⟩) (hK.sub [] rfl) (hP.sub [] rfl) rfl hl.1 rfl (Nat.le_of_ble_eq_true rfl) dX3_covers_17 ⟨Nat.zero_le _, Nat.zero_le _⟩ ?_
    refine lv_if_eq (tgt := 32) hx hb dX3_covers_20 (by decide) (fun c_2 => ?_) (fun c_2 => ?_)
    · skip
      have c_2 : (inB y 32) = false := bI_f c_2
      refine lv_iconst (v := nI (0)) hx hb dX3_covers_32 (by decide) ?_
      exact wr_iret hx hb hr hP hS (congrArg some (rn (by rw [mcoC, if_neg (by simp [c_1, c_2])]))) rfl dX3_covers_33 hlocks
    · skip
      have c_2 : (inB y 32) = true := bI_t c_2
      obtain ⟨x1, hx1, rfl⟩ := inB_of (by decide) c_1
      obtain ⟨y1, hy1, rfl⟩ := inB_of (by decide) c_2
      refine lv_aload_n hx hb dX3_covers_23 rfl (lv_at hl 0 rfl) ?_
      refine lv_iload_n hx hb dX3_covers_24 rfl (lv_at hl 1 rfl) ?_
      refine lv_iload_n hx hb dX3_covers_25 rfl (lv_at hl 2 rfl) ?_
      refine ro_V (As := [.int (nI (x1)), .int (nI (y1))]) (rest := []) (q0 := 0) (ci := 3) hx hb hml hown hts (c_X3_howMany l dC dI cI cL cZ b w1 x1 y1 hv (by omega) (by omega)) (cwV 2 hts gX3_covers_X3_howMany rfl rfl rfl (by decide +kernel) ⟨Nat.le_of_ble_eq_true rfl, Nat.le_of_ble_eq_true rfl⟩) hK hP rfl rfl rfl hl.1 rfl (Nat.le_of_ble_eq_true rfl) dX3_covers_26 ⟨Nat.zero_le _, Nat.zero_le _⟩ ?_
      refine lv_goto (tgt := 33) hx hb dX3_covers_29 (by decide) ?_
      exact wr_iret hx hb hr hP hS (congrArg some (rn (by rw [mcoC, if_pos ⟨c_1, c_2⟩, nI_clamp (show x1 < 2 ^ 31 by omega), nI_clamp (show y1 < 2 ^ 31 by omega)]))) rfl dX3_covers_33 hlocks
set_option maxHeartbeats 4000000 in
set_option maxRecDepth 100000 in
theorem c_X3_who (l : Launch) (dC : Nat → ClassId) (dI : Nat → Nat → Nat) (cI cL cZ : ClassId) (b : Nat → Nat) (w : MV) (x y : Int32) (hv : okM w) : Met l yX3_who wsX3_who ({ frames := 5, cells := 0, slots := 0, locals := 125 }) (va_Pc [.ref (b 0), .int (x), .int (y)] (wr_B (dC, dI) vwCl (wM cI cZ b w) (tyS cI cL cZ))) (wr_Q (some (.int (oI (mwhC (mThx w (nI 0)) x y)))) (dC, dI) vwCl (wM cI cZ b w) (wM cI cZ b (mThx w (nI 0)))) 0 0 (inW (wM cI cZ b w)) := by
  refine wr_Met (cc := cX3_who) (maxL := 4) (ret := (some .int)) (by decide) rfl (Nat.le_of_ble_eq_true rfl) ?_
  intro pr en s m below meth co ls hx hb hml hr hlocks hown hts hP hK hD hS hl
  have hl : lv_has ls 4 [(0, .ref (b 0)), (1, .int (x)), (2, .int (y))] := hl
  have hown : s.vm.findClass RX3 = some m.cls := hown
  have hvp : mPn w ≤ 60 ∧ mTm w ≤ 200 ∧ mTn w ≤ 60 := ⟨hv.2.1, hv.2.2.1, hv.2.2.2.1⟩
  refine lv_aload_n hx hb dX3_who_0 rfl (lv_at hl 0 rfl) ?_
  refine lv_iconst (v := nI (0)) hx hb dX3_who_1 (by decide) ?_
  refine va_put (D := (dC, dI)) (ci := 3) (v := .int (nI (0))) (ty := .int) (C := RX3) (T := TX3) (N := 11) hx hb hts (by decide +kernel) tyX3 tyX3_ok nmX3 hown hK hP hD hS 0 rfl rfl 0 (by decide) (hts (.fieldLink RX3 33 "TriangleSheetModel" "thrown" "I") (by decide +kernel)) (fun _ h9 => h9) rfl (by decide +kernel) rfl rfl (Nat.le_of_ble_eq_true rfl) dX3_who_2 (fun H locs hP hD hS => ?_)
  have hP : va_P (dC, dI) vwCl (wM cI cZ b (((w.1.1, w.1.2.1, w.1.2.2), nI (0), mPn w, mTm w, mTn w, mIs w, mFi w, mSe w, mMk w))) H := hP
  have hD : va_D (inW (wM cI cZ b w)) (wM cI cZ b (((w.1.1, w.1.2.1, w.1.2.2), nI (0), mPn w, mTm w, mTn w, mIs w, mFi w, mSe w, mMk w))) := hD
  have hP : va_P (dC, dI) vwCl (wM cI cZ b (mThx w (nI 0))) H := hP
  have hD : va_D (inW (wM cI cZ b w)) (wM cI cZ b (mThx w (nI 0))) := hD
  have hv : okM (mThx w (nI 0)) := hv
  generalize mThx w (nI 0) = w1 at hP hD hv ⊢
  have hvp : mPn w1 ≤ 60 ∧ mTm w1 ≤ 200 ∧ mTn w1 ≤ 60 := ⟨hv.2.1, hv.2.2.1, hv.2.2.2.1⟩
  refine lv_iload_n hx hb dX3_who_5 rfl (lv_at hl 1 rfl) ?_
  refine lv_bipush (v := nI (32)) hx hb dX3_who_6 (by decide) ?_
  refine ro_S (As := [.int (x), .int (nI (32))]) (rest := []) hx hb hml hown hts (c_X3_in l dC dI  x 32 (by omega)) (va_cwS 2 hts gX3_who_X3_in rfl rfl rfl (by decide +kernel) ⟨Nat.le_of_ble_eq_true rfl, Nat.le_of_ble_eq_true rfl⟩) (hK.sub [] rfl) (hP.sub [] rfl) rfl hl.1 rfl (Nat.le_of_ble_eq_true rfl) dX3_who_8 ⟨Nat.zero_le _, Nat.zero_le _⟩ ?_
  refine lv_if_eq (tgt := 23) hx hb dX3_who_11 (by decide) (fun c_1 => ?_) (fun c_1 => ?_)
  · skip
    have c_1 : (inB x 32) = false := bI_f c_1
    refine lv_iconst (v := iI (-1)) hx hb dX3_who_23 (by decide) ?_
    exact wr_iret hx hb hr hP hS (congrArg some (rO (by rw [mwhC, if_neg (by simp [c_1])]; rfl))) rfl dX3_who_24 hlocks
  · skip
    have c_1 : (inB x 32) = true := bI_t c_1
    refine lv_iload_n hx hb dX3_who_14 rfl (lv_at hl 2 rfl) ?_
    refine lv_bipush (v := nI (32)) hx hb dX3_who_15 (by decide) ?_
    refine ro_S (As := [.int (y), .int (nI (32))]) (rest := []) hx hb hml hown hts (c_X3_in l dC dI  y 32 (by omega)) (va_cwS 2 hts gX3_who_X3_in rfl rfl rfl (by decide +kernel) ⟨Nat.le_of_ble_eq_true rfl, Nat.le_of_ble_eq_true rfl⟩) (hK.sub [] rfl) (hP.sub [] rfl) rfl hl.1 rfl (Nat.le_of_ble_eq_true rfl) dX3_who_17 ⟨Nat.zero_le _, Nat.zero_le _⟩ ?_
    refine lv_if_ne (tgt := 25) hx hb dX3_who_20 (by decide) (fun c_2 => ?_) (fun c_2 => ?_)
    · skip
      have c_2 : (inB y 32) = true := bI_t c_2
      obtain ⟨x1, hx1, rfl⟩ := inB_of (by decide) c_1
      obtain ⟨y1, hy1, rfl⟩ := inB_of (by decide) c_2
      refine lv_iconst (v := nI (0)) hx hb dX3_who_25 (by decide) ?_
      refine lv_istore_n (lv' := [(3, .int (nI (0))), (0, .ref (b 0)), (1, .int (nI (x1))), (2, .int (nI (y1)))]) hx hb dX3_who_26 rfl hl (by decide) rfl (fun ls hl => ?_)
      refine lpW (σ := Nat) (LV := fun n => [(0, .ref (b 0)), (1, .int (nI (x1))), (2, .int (nI (y1))), (3, .int (nI (n)))]) (WS := fun n => wM cI cZ b w1) (I := fun k n => n + k = mTm w1 ∧ fnd (fun t => mth w1 (nI t) && cov w1.1 t x1 y1) (mTm w1) 0 = fnd (fun t => mth w1 (nI t) && cov w1.1 t x1 y1) k n) (fun k n ls H locs hI_k hl hP hD hS ih_k => ?_) (mTm w1) (0) ls _ _ ⟨by omega, rfl⟩ (lv_sub hl [1, 2, 3, 0] rfl) hP hD hS
      obtain ⟨hk, hi⟩ := hI_k
      have hP : va_P (dC, dI) vwCl (wM cI cZ b w1) H := hP
      have hD : va_D (inW (wM cI cZ b w)) (wM cI cZ b w1) := hD
      refine lv_iload_n hx hb dX3_who_27 rfl (lv_at hl 3 rfl) ?_
      refine lv_aload_n hx hb dX3_who_28 rfl (lv_at hl 0 rfl) ?_
      refine va_get (D := (dC, dI)) (ci := 3) (v := .int (nI (mTm w1))) (C := RX3) (T := TX3) (N := 11) hx hb hts (by decide +kernel) hown hK hP 0 rfl rfl 2 (by decide) (hts (.fieldLink RX3 43 "TriangleSheetModel" "came" "I") (by decide +kernel)) (fun _ h9 => h9) rfl dX3_who_29 ?_
      refine lv_icmp_ge (tgt := 65) hx hb dX3_who_32 (by decide) (fun c_3 => ?_) (fun c_3 => ?_)
      · skip
        have c_3 : mTm w1 ≤ n := (nI_leI (a := mTm w1) (b := n) (by omega) (by omega)).mp c_3
        refine lv_iconst (v := iI (-1)) hx hb dX3_who_65 (by decide) ?_
        exact wr_iret hx hb hr hP hS (congrArg some (rO (by rw [mwhC, if_pos ⟨c_1, c_2⟩, nI_clamp (show x1 < 2 ^ 31 by omega), nI_clamp (show y1 < 2 ^ 31 by omega), hi, show k = 0 by omega]; rfl))) rfl dX3_who_66 hlocks
      · skip
        have c_3 : ¬ (mTm w1 ≤ n) := fun hq9 => c_3 ((nI_leI (a := mTm w1) (b := n) (by omega) (by omega)).mpr hq9)
        refine lv_aload_n hx hb dX3_who_35 rfl (lv_at hl 0 rfl) ?_
        refine lv_iload_n hx hb dX3_who_36 rfl (lv_at hl 3 rfl) ?_
        refine lv_bipush (v := nI (16)) hx hb dX3_who_37 (by decide) ?_
        refine lv_iload_n hx hb dX3_who_39 rfl (lv_at hl 1 rfl) ?_
        refine lv_imul hx hb dX3_who_40 ?_
        refine rt_i (y := (nI ((16) * (x1)))) (nn_mul (16) (x1)) ?_
        refine lv_bipush (v := nI (8)) hx hb dX3_who_41 (by decide) ?_
        refine lv_iadd hx hb dX3_who_43 ?_
        refine rt_i (y := (nI ((16) * (x1) + 8))) (nn_add ((16) * (x1)) (8)) ?_
        refine lv_bipush (v := nI (16)) hx hb dX3_who_44 (by decide) ?_
        refine lv_iload_n hx hb dX3_who_46 rfl (lv_at hl 2 rfl) ?_
        refine lv_imul hx hb dX3_who_47 ?_
        refine rt_i (y := (nI ((16) * (y1)))) (nn_mul (16) (y1)) ?_
        refine lv_bipush (v := nI (8)) hx hb dX3_who_48 (by decide) ?_
        refine lv_iadd hx hb dX3_who_50 ?_
        refine rt_i (y := (nI ((16) * (y1) + 8))) (nn_add ((16) * (y1)) (8)) ?_
        refine ro_V (As := [.int (nI (n)), .int (nI ((16) * (x1) + 8)), .int (nI ((16) * (y1) + 8))]) (rest := []) (q0 := 0) (ci := 3) hx hb hml hown hts (c_X3_isCovered l dC dI cI cL cZ b w1 n ((16) * (x1) + 8) ((16) * (y1) + 8) hv (by omega) (by omega) (by omega)) (cwV 3 hts gX3_who_X3_isCovered rfl rfl rfl (by decide +kernel) ⟨Nat.le_of_ble_eq_true rfl, Nat.le_of_ble_eq_true rfl⟩) hK hP rfl rfl rfl hl.1 rfl (Nat.le_of_ble_eq_true rfl) dX3_who_51 ⟨Nat.zero_le _, Nat.zero_le _⟩ ?_
        refine rt_i (y := (bI (mth w1 (nI n) && cov w1.1 n x1 y1))) rfl ?_
        refine lv_if_eq (tgt := 59) hx hb dX3_who_54 (by decide) (fun c_4 => ?_) (fun c_4 => ?_)
        · skip
          have c_4 : (mth w1 (nI n) && cov w1.1 n x1 y1) = false := bI_f c_4
          refine lv_iinc (v := nI (n + 1)) (lv' := [(3, .int (nI (n + 1))), (0, .ref (b 0)), (1, .int (nI (x1))), (2, .int (nI (y1)))]) hx hb dX3_who_59 hl (k := 3) rfl (nI_1 (n)) (by decide) rfl (fun ls hl => ?_)
          refine lv_goto (tgt := 27) hx hb dX3_who_62 (by decide) ?_
          exact ih_k (k - 1) (n + 1) ls _ _ (by omega) ⟨by omega, hi.trans (fnd_miss (by omega) (by assumption))⟩ (lv_sub hl [1, 2, 3, 0] rfl) hP hD hS
        · skip
          have c_4 : (mth w1 (nI n) && cov w1.1 n x1 y1) = true := bI_t c_4
          refine lv_iload_n hx hb dX3_who_57 rfl (lv_at hl 3 rfl) ?_
          exact wr_iret hx hb hr hP hS (congrArg some (rO (by rw [mwhC, if_pos ⟨c_1, c_2⟩, nI_clamp (show x1 < 2 ^ 31 by omega), nI_clamp (show y1 < 2 ^ 31 by omega), hi, fnd_hit (by omega) (by assumption)]; rfl))) rfl dX3_who_58 hlocks
    · skip
      have c_2 : (inB y 32) = false := bI_f c_2
      refine lv_iconst (v := iI (-1)) hx hb dX3_who_23 (by decide) ?_
      exact wr_iret hx hb hr hP hS (congrArg some (rO (by rw [mwhC, if_neg (by simp [c_1, c_2])]; rfl))) rfl dX3_who_24 hlocks
set_option maxHeartbeats 4000000 in
set_option maxRecDepth 100000 in
theorem c_X3_locate (l : Launch) (dC : Nat → ClassId) (dI : Nat → Nat → Nat) (cI cL cZ : ClassId) (b : Nat → Nat) (w : MV) (x y : Int32) (hv : okM w) : Met l yX3_locate wsX3_locate ({ frames := 4, cells := 0, slots := 0, locals := 96 }) (va_Pc [.ref (b 0), .int (x), .int (y)] (wr_B (dC, dI) vwCl (wM cI cZ b w) (tyS cI cL cZ))) (wr_Q (some (.int (oI (mloC (mThx w (nI 0)) x y)))) (dC, dI) vwCl (wM cI cZ b w) (wM cI cZ b (mThx w (nI 0)))) 0 0 (inW (wM cI cZ b w)) := by
  refine wr_Met (cc := cX3_locate) (maxL := 4) (ret := (some .int)) (by decide) rfl (Nat.le_of_ble_eq_true rfl) ?_
  intro pr en s m below meth co ls hx hb hml hr hlocks hown hts hP hK hD hS hl
  have hl : lv_has ls 4 [(0, .ref (b 0)), (1, .int (x)), (2, .int (y))] := hl
  have hown : s.vm.findClass RX3 = some m.cls := hown
  have hvp : mPn w ≤ 60 ∧ mTm w ≤ 200 ∧ mTn w ≤ 60 := ⟨hv.2.1, hv.2.2.1, hv.2.2.2.1⟩
  refine lv_aload_n hx hb dX3_locate_0 rfl (lv_at hl 0 rfl) ?_
  refine lv_iconst (v := nI (0)) hx hb dX3_locate_1 (by decide) ?_
  refine va_put (D := (dC, dI)) (ci := 3) (v := .int (nI (0))) (ty := .int) (C := RX3) (T := TX3) (N := 11) hx hb hts (by decide +kernel) tyX3 tyX3_ok nmX3 hown hK hP hD hS 0 rfl rfl 0 (by decide) (hts (.fieldLink RX3 33 "TriangleSheetModel" "thrown" "I") (by decide +kernel)) (fun _ h9 => h9) rfl (by decide +kernel) rfl rfl (Nat.le_of_ble_eq_true rfl) dX3_locate_2 (fun H locs hP hD hS => ?_)
  have hP : va_P (dC, dI) vwCl (wM cI cZ b (((w.1.1, w.1.2.1, w.1.2.2), nI (0), mPn w, mTm w, mTn w, mIs w, mFi w, mSe w, mMk w))) H := hP
  have hD : va_D (inW (wM cI cZ b w)) (wM cI cZ b (((w.1.1, w.1.2.1, w.1.2.2), nI (0), mPn w, mTm w, mTn w, mIs w, mFi w, mSe w, mMk w))) := hD
  have hP : va_P (dC, dI) vwCl (wM cI cZ b (mThx w (nI 0))) H := hP
  have hD : va_D (inW (wM cI cZ b w)) (wM cI cZ b (mThx w (nI 0))) := hD
  have hv : okM (mThx w (nI 0)) := hv
  generalize mThx w (nI 0) = w1 at hP hD hv ⊢
  have hvp : mPn w1 ≤ 60 ∧ mTm w1 ≤ 200 ∧ mTn w1 ≤ 60 := ⟨hv.2.1, hv.2.2.1, hv.2.2.2.1⟩
  refine lv_iconst (v := nI (0)) hx hb dX3_locate_5 (by decide) ?_
  refine lv_istore_n (lv' := [(3, .int (nI (0))), (0, .ref (b 0)), (1, .int (x)), (2, .int (y))]) hx hb dX3_locate_6 rfl hl (by decide) rfl (fun ls hl => ?_)
  refine lpW (σ := Nat) (LV := fun n => [(0, .ref (b 0)), (1, .int (x)), (2, .int (y)), (3, .int (nI (n)))]) (WS := fun n => wM cI cZ b w1) (I := fun k n => n + k = mTm w1 ∧ mloC w1 x y = fnd (fun t => mIs w1 t && (rgt w1.1 t && has w1.1 t x.toInt y.toInt)) k n) (fun k n ls H locs hI_k hl hP hD hS ih_k => ?_) (mTm w1) (0) ls _ _ ⟨by omega, rfl⟩ (lv_sub hl [1, 2, 3, 0] rfl) hP hD hS
  obtain ⟨hk, hi⟩ := hI_k
  have hP : va_P (dC, dI) vwCl (wM cI cZ b w1) H := hP
  have hD : va_D (inW (wM cI cZ b w)) (wM cI cZ b w1) := hD
  refine lv_iload_n hx hb dX3_locate_7 rfl (lv_at hl 3 rfl) ?_
  refine lv_aload_n hx hb dX3_locate_8 rfl (lv_at hl 0 rfl) ?_
  refine va_get (D := (dC, dI)) (ci := 3) (v := .int (nI (mTm w1))) (C := RX3) (T := TX3) (N := 11) hx hb hts (by decide +kernel) hown hK hP 0 rfl rfl 2 (by decide) (hts (.fieldLink RX3 43 "TriangleSheetModel" "came" "I") (by decide +kernel)) (fun _ h9 => h9) rfl dX3_locate_9 ?_
  refine lv_icmp_ge (tgt := 52) hx hb dX3_locate_12 (by decide) (fun c_1 => ?_) (fun c_1 => ?_)
  · skip
    have c_1 : mTm w1 ≤ n := (nI_leI (a := mTm w1) (b := n) (by omega) (by omega)).mp c_1
    refine lv_iconst (v := iI (-1)) hx hb dX3_locate_52 (by decide) ?_
    exact wr_iret hx hb hr hP hS (congrArg some (rO (by rw [hi, show k = 0 by omega]; rfl))) rfl dX3_locate_53 hlocks
  · skip
    have c_1 : ¬ (mTm w1 ≤ n) := fun hq9 => c_1 ((nI_leI (a := mTm w1) (b := n) (by omega) (by omega)).mpr hq9)
    refine lv_aload_n hx hb dX3_locate_15 rfl (lv_at hl 0 rfl) ?_
    refine va_get (D := (dC, dI)) (ci := 3) (v := .ref (b 3)) (C := RX3) (T := TX3) (N := 11) hx hb hts (by decide +kernel) hown hK hP 0 rfl rfl 6 (by decide) (hts (.fieldLink RX3 16 "TriangleSheetModel" "is" "[Z") (by decide +kernel)) (fun _ h9 => h9) rfl dX3_locate_16 ?_
    refine lv_iload_n hx hb dX3_locate_19 rfl (lv_at hl 3 rfl) ?_
    refine za_ld (k := n) hx hb hK hP 3 2 rfl rfl (by omega) (by decide) dX3_locate_20 ?_
    refine W.eq (g2 := F0 m 21 ls [.int (bI ((mIs w1) (n)))]) rfl ?_
    refine lv_if_eq (tgt := 46) hx hb dX3_locate_21 (by decide) (fun c_2 => ?_) (fun c_2 => ?_)
    · skip
      have c_2 : ((mIs w1) (n)) = false := bI_f c_2
      refine lv_iinc (v := nI (n + 1)) (lv' := [(3, .int (nI (n + 1))), (0, .ref (b 0)), (1, .int (x)), (2, .int (y))]) hx hb dX3_locate_46 hl (k := 3) rfl (nI_1 (n)) (by decide) rfl (fun ls hl => ?_)
      refine lv_goto (tgt := 7) hx hb dX3_locate_49 (by decide) ?_
      exact ih_k (k - 1) (n + 1) ls _ _ (by omega) ⟨by omega, hi.trans (fnd_miss (by omega) (by simp [c_1, c_2]))⟩ (lv_sub hl [1, 2, 3, 0] rfl) hP hD hS
    · skip
      have c_2 : ((mIs w1) (n)) = true := bI_t c_2
      refine lv_aload_n hx hb dX3_locate_24 rfl (lv_at hl 0 rfl) ?_
      refine lv_iload_n hx hb dX3_locate_25 rfl (lv_at hl 3 rfl) ?_
      refine ro_V (As := [.int (nI (n))]) (rest := []) (q0 := 0) (ci := 3) hx hb hml hown hts (c_X3_isRight l dC dI cI cL cZ b w1 n hv (by omega)) (cwV 1 hts gX3_locate_X3_isRight rfl rfl rfl (by decide +kernel) ⟨Nat.le_of_ble_eq_true rfl, Nat.le_of_ble_eq_true rfl⟩) hK hP rfl rfl rfl hl.1 rfl (Nat.le_of_ble_eq_true rfl) dX3_locate_26 ⟨Nat.zero_le _, Nat.zero_le _⟩ ?_
      refine lv_if_eq (tgt := 46) hx hb dX3_locate_29 (by decide) (fun c_3 => ?_) (fun c_3 => ?_)
      · skip
        have c_3 : (rgt w1.1 n) = false := bI_f c_3
        refine lv_iinc (v := nI (n + 1)) (lv' := [(3, .int (nI (n + 1))), (0, .ref (b 0)), (1, .int (x)), (2, .int (y))]) hx hb dX3_locate_46 hl (k := 3) rfl (nI_1 (n)) (by decide) rfl (fun ls hl => ?_)
        refine lv_goto (tgt := 7) hx hb dX3_locate_49 (by decide) ?_
        exact ih_k (k - 1) (n + 1) ls _ _ (by omega) ⟨by omega, hi.trans (fnd_miss (by omega) (by simp [c_1, c_2, c_3]))⟩ (lv_sub hl [1, 2, 3, 0] rfl) hP hD hS
      · skip
        have c_3 : (rgt w1.1 n) = true := bI_t c_3
        refine lv_aload_n hx hb dX3_locate_32 rfl (lv_at hl 0 rfl) ?_
        refine lv_iload_n hx hb dX3_locate_33 rfl (lv_at hl 3 rfl) ?_
        refine lv_iload_n hx hb dX3_locate_34 rfl (lv_at hl 1 rfl) ?_
        refine lv_i2l (v := lI (x.toInt)) hx hb dX3_locate_35 (toInt_l x) ?_
        refine lv_iload_n hx hb dX3_locate_36 rfl (lv_at hl 2 rfl) ?_
        refine lv_i2l (v := lI (y.toInt)) hx hb dX3_locate_37 (toInt_l y) ?_
        refine ro_V (As := [.int (nI (n)), .long (lI (x.toInt)), .long (lI (y.toInt))]) (rest := []) (q0 := 0) (ci := 3) hx hb hml hown hts (c_X3_hasPlace l dC dI cI cL cZ b w1 n (x.toInt) (y.toInt) hv (by omega) (toInt_ok x) (toInt_ok y)) (cwV 3 hts gX3_locate_X3_hasPlace rfl rfl rfl (by decide +kernel) ⟨Nat.le_of_ble_eq_true rfl, Nat.le_of_ble_eq_true rfl⟩) hK hP rfl rfl rfl hl.1 rfl (Nat.le_of_ble_eq_true rfl) dX3_locate_38 ⟨Nat.zero_le _, Nat.zero_le _⟩ ?_
        refine lv_if_eq (tgt := 46) hx hb dX3_locate_41 (by decide) (fun c_4 => ?_) (fun c_4 => ?_)
        · skip
          have c_4 : (has w1.1 n (x.toInt) (y.toInt)) = false := bI_f c_4
          refine lv_iinc (v := nI (n + 1)) (lv' := [(3, .int (nI (n + 1))), (0, .ref (b 0)), (1, .int (x)), (2, .int (y))]) hx hb dX3_locate_46 hl (k := 3) rfl (nI_1 (n)) (by decide) rfl (fun ls hl => ?_)
          refine lv_goto (tgt := 7) hx hb dX3_locate_49 (by decide) ?_
          exact ih_k (k - 1) (n + 1) ls _ _ (by omega) ⟨by omega, hi.trans (fnd_miss (by omega) (by simp [c_1, c_2, c_3, c_4]))⟩ (lv_sub hl [1, 2, 3, 0] rfl) hP hD hS
        · skip
          have c_4 : (has w1.1 n (x.toInt) (y.toInt)) = true := bI_t c_4
          refine lv_iload_n hx hb dX3_locate_44 rfl (lv_at hl 3 rfl) ?_
          exact wr_iret hx hb hr hP hS (congrArg some (rO (by rw [hi, fnd_hit (by omega) (by simp [c_1, c_2, c_3, c_4])]; rfl))) rfl dX3_locate_45 hlocks
set_option maxHeartbeats 4000000 in
set_option maxRecDepth 100000 in
theorem c_X3_beside (l : Launch) (dC : Nat → ClassId) (dI : Nat → Nat → Nat) (cI cL cZ : ClassId) (b : Nat → Nat) (w : MV) (t j : Int32) (hv : okM w) : Met l yX3_beside wsX3_beside ({ frames := 2, cells := 0, slots := 0, locals := 46 }) (va_Pc [.ref (b 0), .int (t), .int (j)] (wr_B (dC, dI) vwCl (wM cI cZ b w) (tyS cI cL cZ))) (wr_Q (some (.int (oI (mbeC (mThx w (nI 0)) t j)))) (dC, dI) vwCl (wM cI cZ b w) (wM cI cZ b (mThx w (nI 0)))) 0 0 (inW (wM cI cZ b w)) := by
  refine wr_Met (cc := cX3_beside) (maxL := 3) (ret := (some .int)) (by decide) rfl (Nat.le_of_ble_eq_true rfl) ?_
  intro pr en s m below meth co ls hx hb hml hr hlocks hown hts hP hK hD hS hl
  have hl : lv_has ls 3 [(0, .ref (b 0)), (1, .int (t)), (2, .int (j))] := hl
  have hown : s.vm.findClass RX3 = some m.cls := hown
  have hvp : mPn w ≤ 60 ∧ mTm w ≤ 200 ∧ mTn w ≤ 60 := ⟨hv.2.1, hv.2.2.1, hv.2.2.2.1⟩
  refine lv_aload_n hx hb dX3_beside_0 rfl (lv_at hl 0 rfl) ?_
  refine lv_iconst (v := nI (0)) hx hb dX3_beside_1 (by decide) ?_
  refine va_put (D := (dC, dI)) (ci := 3) (v := .int (nI (0))) (ty := .int) (C := RX3) (T := TX3) (N := 11) hx hb hts (by decide +kernel) tyX3 tyX3_ok nmX3 hown hK hP hD hS 0 rfl rfl 0 (by decide) (hts (.fieldLink RX3 33 "TriangleSheetModel" "thrown" "I") (by decide +kernel)) (fun _ h9 => h9) rfl (by decide +kernel) rfl rfl (Nat.le_of_ble_eq_true rfl) dX3_beside_2 (fun H locs hP hD hS => ?_)
  have hP : va_P (dC, dI) vwCl (wM cI cZ b (((w.1.1, w.1.2.1, w.1.2.2), nI (0), mPn w, mTm w, mTn w, mIs w, mFi w, mSe w, mMk w))) H := hP
  have hD : va_D (inW (wM cI cZ b w)) (wM cI cZ b (((w.1.1, w.1.2.1, w.1.2.2), nI (0), mPn w, mTm w, mTn w, mIs w, mFi w, mSe w, mMk w))) := hD
  have hP : va_P (dC, dI) vwCl (wM cI cZ b (mThx w (nI 0))) H := hP
  have hD : va_D (inW (wM cI cZ b w)) (wM cI cZ b (mThx w (nI 0))) := hD
  have hv : okM (mThx w (nI 0)) := hv
  generalize mThx w (nI 0) = w1 at hP hD hv ⊢
  have hvp : mPn w1 ≤ 60 ∧ mTm w1 ≤ 200 ∧ mTn w1 ≤ 60 := ⟨hv.2.1, hv.2.2.1, hv.2.2.2.1⟩
  refine lv_aload_n hx hb dX3_beside_5 rfl (lv_at hl 0 rfl) ?_
  refine lv_iload_n hx hb dX3_beside_6 rfl (lv_at hl 1 rfl) ?_
  refine ro_V (As := [.int (t)]) (rest := []) (q0 := 0) (ci := 3) hx hb hml hown hts (c_X3_isThere l dC dI cI cL cZ b w1 t hv) (cwV 1 hts gX3_beside_X3_isThere rfl rfl rfl (by decide +kernel) ⟨Nat.le_of_ble_eq_true rfl, Nat.le_of_ble_eq_true rfl⟩) hK hP rfl rfl rfl hl.1 rfl (Nat.le_of_ble_eq_true rfl) dX3_beside_7 ⟨Nat.zero_le _, Nat.zero_le _⟩ ?_
  refine lv_if_eq (tgt := 30) hx hb dX3_beside_10 (by decide) (fun c_1 => ?_) (fun c_1 => ?_)
  · skip
    have c_1 : (mth w1 t) = false := bI_f c_1
    refine lv_iconst (v := iI (-1)) hx hb dX3_beside_30 (by decide) ?_
    exact wr_iret hx hb hr hP hS (congrArg some (rO (by rw [mbeC, if_neg (by simp [c_1])]; rfl))) rfl dX3_beside_31 hlocks
  · skip
    have c_1 : (mth w1 t) = true := bI_t c_1
    refine lv_iload_n hx hb dX3_beside_13 rfl (lv_at hl 2 rfl) ?_
    refine lv_iconst (v := nI (3)) hx hb dX3_beside_14 (by decide) ?_
    refine ro_S (As := [.int (j), .int (nI (3))]) (rest := []) hx hb hml hown hts (c_X3_in l dC dI  j 3 (by omega)) (va_cwS 2 hts gX3_beside_X3_in rfl rfl rfl (by decide +kernel) ⟨Nat.le_of_ble_eq_true rfl, Nat.le_of_ble_eq_true rfl⟩) (hK.sub [] rfl) (hP.sub [] rfl) rfl hl.1 rfl (Nat.le_of_ble_eq_true rfl) dX3_beside_15 ⟨Nat.zero_le _, Nat.zero_le _⟩ ?_
    refine lv_if_eq (tgt := 30) hx hb dX3_beside_18 (by decide) (fun c_2 => ?_) (fun c_2 => ?_)
    · skip
      have c_2 : (inB j 3) = false := bI_f c_2
      refine lv_iconst (v := iI (-1)) hx hb dX3_beside_30 (by decide) ?_
      exact wr_iret hx hb hr hP hS (congrArg some (rO (by rw [mbeC, if_neg (by simp [c_1, c_2])]; rfl))) rfl dX3_beside_31 hlocks
    · skip
      have c_2 : (inB j 3) = true := bI_t c_2
      obtain ⟨t1, ht1, rfl, hit1⟩ := mth_of (by omega) c_1
      obtain ⟨j1, hj1, rfl⟩ := inB_of (by decide) c_2
      refine lv_aload_n hx hb dX3_beside_21 rfl (lv_at hl 0 rfl) ?_
      refine lv_iload_n hx hb dX3_beside_22 rfl (lv_at hl 1 rfl) ?_
      refine lv_iload_n hx hb dX3_beside_23 rfl (lv_at hl 2 rfl) ?_
      refine ro_V (As := [.int (nI (t1)), .int (nI (j1))]) (rest := []) (q0 := 0) (ci := 3) hx hb hml hown hts (c_X3_neighbour l dC dI cI cL cZ b w1 t1 j1 hv (by omega) (by omega)) (cwV 2 hts gX3_beside_X3_neighbour rfl rfl rfl (by decide +kernel) ⟨Nat.le_of_ble_eq_true rfl, Nat.le_of_ble_eq_true rfl⟩) hK hP rfl rfl rfl hl.1 rfl (Nat.le_of_ble_eq_true rfl) dX3_beside_24 ⟨Nat.zero_le _, Nat.zero_le _⟩ ?_
      have ps_3 : ∀ k, mnb w1 t1 j1 = some k → k < 2 ^ 31 := fun k h => by have := (mnb_lt h).1; omega
      refine lv_goto (tgt := 31) hx hb dX3_beside_27 (by decide) ?_
      exact wr_iret hx hb hr hP hS (congrArg some (rO (by rw [mbeC, if_pos ⟨c_1, c_2⟩, nI_clamp (show t1 < 2 ^ 31 by omega), nI_clamp (show j1 < 2 ^ 31 by omega)]))) rfl dX3_beside_31 hlocks
set_option maxHeartbeats 4000000 in
set_option maxRecDepth 100000 in
theorem c_X3_isGood (l : Launch) (dC : Nat → ClassId) (dI : Nat → Nat → Nat) (cI cL cZ : ClassId) (b : Nat → Nat) (w : MV) (t j : Int32) (hv : okM w) : Met l yX3_isGood wsX3_isGood ({ frames := 3, cells := 0, slots := 0, locals := 82 }) (va_Pc [.ref (b 0), .int (t), .int (j)] (wr_B (dC, dI) vwCl (wM cI cZ b w) (tyS cI cL cZ))) (wr_Q (some (.int (bI (mgoC (mThx w (nI 0)) t j)))) (dC, dI) vwCl (wM cI cZ b w) (wM cI cZ b (mThx w (nI 0)))) 0 0 (inW (wM cI cZ b w)) := by
  refine wr_Met (cc := cX3_isGood) (maxL := 3) (ret := (some .boolean)) (by decide) rfl (Nat.le_of_ble_eq_true rfl) ?_
  intro pr en s m below meth co ls hx hb hml hr hlocks hown hts hP hK hD hS hl
  have hl : lv_has ls 3 [(0, .ref (b 0)), (1, .int (t)), (2, .int (j))] := hl
  have hown : s.vm.findClass RX3 = some m.cls := hown
  have hvp : mPn w ≤ 60 ∧ mTm w ≤ 200 ∧ mTn w ≤ 60 := ⟨hv.2.1, hv.2.2.1, hv.2.2.2.1⟩
  refine lv_aload_n hx hb dX3_isGood_0 rfl (lv_at hl 0 rfl) ?_
  refine lv_iconst (v := nI (0)) hx hb dX3_isGood_1 (by decide) ?_
  refine va_put (D := (dC, dI)) (ci := 3) (v := .int (nI (0))) (ty := .int) (C := RX3) (T := TX3) (N := 11) hx hb hts (by decide +kernel) tyX3 tyX3_ok nmX3 hown hK hP hD hS 0 rfl rfl 0 (by decide) (hts (.fieldLink RX3 33 "TriangleSheetModel" "thrown" "I") (by decide +kernel)) (fun _ h9 => h9) rfl (by decide +kernel) rfl rfl (Nat.le_of_ble_eq_true rfl) dX3_isGood_2 (fun H locs hP hD hS => ?_)
  have hP : va_P (dC, dI) vwCl (wM cI cZ b (((w.1.1, w.1.2.1, w.1.2.2), nI (0), mPn w, mTm w, mTn w, mIs w, mFi w, mSe w, mMk w))) H := hP
  have hD : va_D (inW (wM cI cZ b w)) (wM cI cZ b (((w.1.1, w.1.2.1, w.1.2.2), nI (0), mPn w, mTm w, mTn w, mIs w, mFi w, mSe w, mMk w))) := hD
  have hP : va_P (dC, dI) vwCl (wM cI cZ b (mThx w (nI 0))) H := hP
  have hD : va_D (inW (wM cI cZ b w)) (wM cI cZ b (mThx w (nI 0))) := hD
  have hv : okM (mThx w (nI 0)) := hv
  generalize mThx w (nI 0) = w1 at hP hD hv ⊢
  have hvp : mPn w1 ≤ 60 ∧ mTm w1 ≤ 200 ∧ mTn w1 ≤ 60 := ⟨hv.2.1, hv.2.2.1, hv.2.2.2.1⟩
  refine lv_aload_n hx hb dX3_isGood_5 rfl (lv_at hl 0 rfl) ?_
  refine lv_iload_n hx hb dX3_isGood_6 rfl (lv_at hl 1 rfl) ?_
  refine ro_V (As := [.int (t)]) (rest := []) (q0 := 0) (ci := 3) hx hb hml hown hts (c_X3_isThere l dC dI cI cL cZ b w1 t hv) (cwV 1 hts gX3_isGood_X3_isThere rfl rfl rfl (by decide +kernel) ⟨Nat.le_of_ble_eq_true rfl, Nat.le_of_ble_eq_true rfl⟩) hK hP rfl rfl rfl hl.1 rfl (Nat.le_of_ble_eq_true rfl) dX3_isGood_7 ⟨Nat.zero_le _, Nat.zero_le _⟩ ?_
  refine lv_if_eq (tgt := 34) hx hb dX3_isGood_10 (by decide) (fun c_1 => ?_) (fun c_1 => ?_)
  · skip
    have c_1 : (mth w1 t) = false := bI_f c_1
    refine lv_iconst (v := nI (0)) hx hb dX3_isGood_34 (by decide) ?_
    exact wr_zret hx hb hr (by decide) hP hS (congrArg some (rb_0 (by first | (simp [mgoC, c_1]; done) | (rw [mgoC, nI_clamp (show t1 < 2 ^ 31 by omega), nI_clamp (show j1 < 2 ^ 31 by omega)]; simp [c_1])))) rfl dX3_isGood_35 hlocks
  · skip
    have c_1 : (mth w1 t) = true := bI_t c_1
    refine lv_iload_n hx hb dX3_isGood_13 rfl (lv_at hl 2 rfl) ?_
    refine lv_iconst (v := nI (3)) hx hb dX3_isGood_14 (by decide) ?_
    refine ro_S (As := [.int (j), .int (nI (3))]) (rest := []) hx hb hml hown hts (c_X3_in l dC dI  j 3 (by omega)) (va_cwS 2 hts gX3_isGood_X3_in rfl rfl rfl (by decide +kernel) ⟨Nat.le_of_ble_eq_true rfl, Nat.le_of_ble_eq_true rfl⟩) (hK.sub [] rfl) (hP.sub [] rfl) rfl hl.1 rfl (Nat.le_of_ble_eq_true rfl) dX3_isGood_15 ⟨Nat.zero_le _, Nat.zero_le _⟩ ?_
    refine lv_if_eq (tgt := 34) hx hb dX3_isGood_18 (by decide) (fun c_2 => ?_) (fun c_2 => ?_)
    · skip
      have c_2 : (inB j 3) = false := bI_f c_2
      refine lv_iconst (v := nI (0)) hx hb dX3_isGood_34 (by decide) ?_
      exact wr_zret hx hb hr (by decide) hP hS (congrArg some (rb_0 (by first | (simp [mgoC, c_1, c_2]; done) | (rw [mgoC, nI_clamp (show t1 < 2 ^ 31 by omega), nI_clamp (show j1 < 2 ^ 31 by omega)]; simp [c_1, c_2])))) rfl dX3_isGood_35 hlocks
    · skip
      have c_2 : (inB j 3) = true := bI_t c_2
      obtain ⟨t1, ht1, rfl, hit1⟩ := mth_of (by omega) c_1
      obtain ⟨j1, hj1, rfl⟩ := inB_of (by decide) c_2
      refine lv_aload_n hx hb dX3_isGood_21 rfl (lv_at hl 0 rfl) ?_
      refine lv_iload_n hx hb dX3_isGood_22 rfl (lv_at hl 1 rfl) ?_
      refine lv_iload_n hx hb dX3_isGood_23 rfl (lv_at hl 2 rfl) ?_
      refine ro_V (As := [.int (nI (t1)), .int (nI (j1))]) (rest := []) (q0 := 0) (ci := 3) hx hb hml hown hts (c_X3_good l dC dI cI cL cZ b w1 t1 j1 hv (by omega) (by omega)) (cwV 2 hts gX3_isGood_X3_good rfl rfl rfl (by decide +kernel) ⟨Nat.le_of_ble_eq_true rfl, Nat.le_of_ble_eq_true rfl⟩) hK hP rfl rfl rfl hl.1 rfl (Nat.le_of_ble_eq_true rfl) dX3_isGood_24 ⟨Nat.zero_le _, Nat.zero_le _⟩ ?_
      refine lv_if_eq (tgt := 34) hx hb dX3_isGood_27 (by decide) (fun c_3 => ?_) (fun c_3 => ?_)
      · skip
        have c_3 : (god w1.1 t1 j1 (mnb w1 t1 j1) (bey w1.1 t1 j1)) = false := bI_f c_3
        refine lv_iconst (v := nI (0)) hx hb dX3_isGood_34 (by decide) ?_
        exact wr_zret hx hb hr (by decide) hP hS (congrArg some (rb_0 (by first | (simp [mgoC, c_1, c_2, c_3]; done) | (rw [mgoC, nI_clamp (show t1 < 2 ^ 31 by omega), nI_clamp (show j1 < 2 ^ 31 by omega)]; simp [c_1, c_2, c_3])))) rfl dX3_isGood_35 hlocks
      · skip
        have c_3 : (god w1.1 t1 j1 (mnb w1 t1 j1) (bey w1.1 t1 j1)) = true := bI_t c_3
        refine lv_iconst (v := nI (1)) hx hb dX3_isGood_30 (by decide) ?_
        refine lv_goto (tgt := 35) hx hb dX3_isGood_31 (by decide) ?_
        exact wr_zret hx hb hr (by decide) hP hS (congrArg some (rb_1 (by rw [mgoC, nI_clamp (show t1 < 2 ^ 31 by omega), nI_clamp (show j1 < 2 ^ 31 by omega)]; simp [c_1, c_2, c_3]))) rfl dX3_isGood_35 hlocks
set_option maxHeartbeats 4000000 in
set_option maxRecDepth 100000 in
theorem c_X3_corner (l : Launch) (dC : Nat → ClassId) (dI : Nat → Nat → Nat) (cI cL cZ : ClassId) (b : Nat → Nat) (w : MV) (t j : Int32) (hv : okM w) : Met l yX3_corner wsX3_corner ({ frames := 2, cells := 0, slots := 0, locals := 42 }) (va_Pc [.ref (b 0), .int (t), .int (j)] (wr_B (dC, dI) vwCl (wM cI cZ b w) (tyS cI cL cZ))) (wr_Q (some (.int (oI (mcrC (mThx w (nI 0)) t j)))) (dC, dI) vwCl (wM cI cZ b w) (wM cI cZ b (mThx w (nI 0)))) 0 0 (inW (wM cI cZ b w)) := by
  refine wr_Met (cc := cX3_corner) (maxL := 3) (ret := (some .int)) (by decide) rfl (Nat.le_of_ble_eq_true rfl) ?_
  intro pr en s m below meth co ls hx hb hml hr hlocks hown hts hP hK hD hS hl
  have hl : lv_has ls 3 [(0, .ref (b 0)), (1, .int (t)), (2, .int (j))] := hl
  have hown : s.vm.findClass RX3 = some m.cls := hown
  have hvp : mPn w ≤ 60 ∧ mTm w ≤ 200 ∧ mTn w ≤ 60 := ⟨hv.2.1, hv.2.2.1, hv.2.2.2.1⟩
  refine lv_aload_n hx hb dX3_corner_0 rfl (lv_at hl 0 rfl) ?_
  refine lv_iconst (v := nI (0)) hx hb dX3_corner_1 (by decide) ?_
  refine va_put (D := (dC, dI)) (ci := 3) (v := .int (nI (0))) (ty := .int) (C := RX3) (T := TX3) (N := 11) hx hb hts (by decide +kernel) tyX3 tyX3_ok nmX3 hown hK hP hD hS 0 rfl rfl 0 (by decide) (hts (.fieldLink RX3 33 "TriangleSheetModel" "thrown" "I") (by decide +kernel)) (fun _ h9 => h9) rfl (by decide +kernel) rfl rfl (Nat.le_of_ble_eq_true rfl) dX3_corner_2 (fun H locs hP hD hS => ?_)
  have hP : va_P (dC, dI) vwCl (wM cI cZ b (((w.1.1, w.1.2.1, w.1.2.2), nI (0), mPn w, mTm w, mTn w, mIs w, mFi w, mSe w, mMk w))) H := hP
  have hD : va_D (inW (wM cI cZ b w)) (wM cI cZ b (((w.1.1, w.1.2.1, w.1.2.2), nI (0), mPn w, mTm w, mTn w, mIs w, mFi w, mSe w, mMk w))) := hD
  have hP : va_P (dC, dI) vwCl (wM cI cZ b (mThx w (nI 0))) H := hP
  have hD : va_D (inW (wM cI cZ b w)) (wM cI cZ b (mThx w (nI 0))) := hD
  have hv : okM (mThx w (nI 0)) := hv
  generalize mThx w (nI 0) = w1 at hP hD hv ⊢
  have hvp : mPn w1 ≤ 60 ∧ mTm w1 ≤ 200 ∧ mTn w1 ≤ 60 := ⟨hv.2.1, hv.2.2.1, hv.2.2.2.1⟩
  refine lv_aload_n hx hb dX3_corner_5 rfl (lv_at hl 0 rfl) ?_
  refine lv_iload_n hx hb dX3_corner_6 rfl (lv_at hl 1 rfl) ?_
  refine ro_V (As := [.int (t)]) (rest := []) (q0 := 0) (ci := 3) hx hb hml hown hts (c_X3_isThere l dC dI cI cL cZ b w1 t hv) (cwV 1 hts gX3_corner_X3_isThere rfl rfl rfl (by decide +kernel) ⟨Nat.le_of_ble_eq_true rfl, Nat.le_of_ble_eq_true rfl⟩) hK hP rfl rfl rfl hl.1 rfl (Nat.le_of_ble_eq_true rfl) dX3_corner_7 ⟨Nat.zero_le _, Nat.zero_le _⟩ ?_
  refine lv_if_eq (tgt := 30) hx hb dX3_corner_10 (by decide) (fun c_1 => ?_) (fun c_1 => ?_)
  · skip
    have c_1 : (mth w1 t) = false := bI_f c_1
    refine lv_iconst (v := iI (-1)) hx hb dX3_corner_30 (by decide) ?_
    exact wr_iret hx hb hr hP hS (congrArg some (rO (by rw [mcrC, if_neg (by simp [c_1])]; rfl))) rfl dX3_corner_31 hlocks
  · skip
    have c_1 : (mth w1 t) = true := bI_t c_1
    refine lv_iload_n hx hb dX3_corner_13 rfl (lv_at hl 2 rfl) ?_
    refine lv_iconst (v := nI (3)) hx hb dX3_corner_14 (by decide) ?_
    refine ro_S (As := [.int (j), .int (nI (3))]) (rest := []) hx hb hml hown hts (c_X3_in l dC dI  j 3 (by omega)) (va_cwS 2 hts gX3_corner_X3_in rfl rfl rfl (by decide +kernel) ⟨Nat.le_of_ble_eq_true rfl, Nat.le_of_ble_eq_true rfl⟩) (hK.sub [] rfl) (hP.sub [] rfl) rfl hl.1 rfl (Nat.le_of_ble_eq_true rfl) dX3_corner_15 ⟨Nat.zero_le _, Nat.zero_le _⟩ ?_
    refine lv_if_eq (tgt := 30) hx hb dX3_corner_18 (by decide) (fun c_2 => ?_) (fun c_2 => ?_)
    · skip
      have c_2 : (inB j 3) = false := bI_f c_2
      refine lv_iconst (v := iI (-1)) hx hb dX3_corner_30 (by decide) ?_
      exact wr_iret hx hb hr hP hS (congrArg some (rO (by rw [mcrC, if_neg (by simp [c_1, c_2])]; rfl))) rfl dX3_corner_31 hlocks
    · skip
      have c_2 : (inB j 3) = true := bI_t c_2
      obtain ⟨t1, ht1, rfl, hit1⟩ := mth_of (by omega) c_1
      obtain ⟨j1, hj1, rfl⟩ := inB_of (by decide) c_2
      refine lv_aload_n hx hb dX3_corner_21 rfl (lv_at hl 0 rfl) ?_
      refine lv_iload_n hx hb dX3_corner_22 rfl (lv_at hl 1 rfl) ?_
      refine lv_iload_n hx hb dX3_corner_23 rfl (lv_at hl 2 rfl) ?_
      refine ro_V (As := [.int (nI (t1)), .int (nI (j1))]) (rest := []) (q0 := 0) (ci := 3) hx hb hml hown hts (c_X3_at l dC dI cI cL cZ b w1 t1 j1 (by omega) (by omega)) (cwV 2 hts gX3_corner_X3_at rfl rfl rfl (by decide +kernel) ⟨Nat.le_of_ble_eq_true rfl, Nat.le_of_ble_eq_true rfl⟩) hK hP rfl rfl rfl hl.1 rfl (Nat.le_of_ble_eq_true rfl) dX3_corner_24 ⟨Nat.zero_le _, Nat.zero_le _⟩ ?_
      refine lv_goto (tgt := 31) hx hb dX3_corner_27 (by decide) ?_
      exact wr_iret hx hb hr hP hS (congrArg some (rO (by rw [mcrC, if_pos ⟨c_1, c_2⟩, nI_clamp (show t1 < 2 ^ 31 by omega), nI_clamp (show j1 < 2 ^ 31 by omega)]; rfl))) rfl dX3_corner_31 hlocks
