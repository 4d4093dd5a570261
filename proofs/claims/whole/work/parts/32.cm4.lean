set_option maxHeartbeats 4000000 in
set_option maxRecDepth 100000 in
theorem c_X3_painted_b (l : Launch) (dC : Nat → ClassId) (dI : Nat → Nat → Nat) (cI cL cZ : ClassId) (b : Nat → Nat) (w : MV) (x : Int32) (hx9 : x.toInt < 0 ∨ 3 < x.toInt) : Met l yX3_painted wsX3_painted ({ frames := 0, cells := 0, slots := 0, locals := 0 }) (va_Pc [.ref (b 0), .int (x)] (wr_B (dC, dI) vwCl (wM cI cZ b w) (tyS cI cL cZ))) (wr_Q (some (.long (lI (-1)))) (dC, dI) vwCl (wM cI cZ b w) (wM cI cZ b (mThx w (nI 0)))) 0 0 (inW (wM cI cZ b w)) := by
  refine wr_Met (cc := cX3_painted) (maxL := 7) (ret := (some .long)) (by decide) rfl (Nat.le_of_ble_eq_true rfl) ?_
  intro pr en s m below meth co ls hx hb hml hr hlocks hown hts hP hK hD hS hl
  have hl : lv_has ls 7 [(0, .ref (b 0)), (1, .int (x))] := hl
  have hown : s.vm.findClass RX3 = some m.cls := hown
  refine lv_aload_n hx hb dX3_painted_0 rfl (lv_at hl 0 rfl) ?_
  refine lv_iconst (v := nI (0)) hx hb dX3_painted_1 (by decide) ?_
  refine va_put (D := (dC, dI)) (ci := 3) (v := .int (nI (0))) (ty := .int) (C := RX3) (T := TX3) (N := 11) hx hb hts (by decide +kernel) tyX3 tyX3_ok nmX3 hown hK hP hD hS 0 rfl rfl 0 (by decide) (hts (.fieldLink RX3 33 "TriangleSheetModel" "thrown" "I") (by decide +kernel)) (fun _ h9 => h9) rfl (by decide +kernel) rfl rfl (Nat.le_of_ble_eq_true rfl) dX3_painted_2 (fun H locs hP hD hS => ?_)
  have hP : va_P (dC, dI) vwCl (wM cI cZ b (((w.1.1, w.1.2.1, w.1.2.2), nI (0), mPn w, mTm w, mTn w, mIs w, mFi w, mSe w, mMk w))) H := hP
  have hD : va_D (inW (wM cI cZ b w)) (wM cI cZ b (((w.1.1, w.1.2.1, w.1.2.2), nI (0), mPn w, mTm w, mTn w, mIs w, mFi w, mSe w, mMk w))) := hD
  refine lv_iload_n hx hb dX3_painted_5 rfl (lv_at hl 1 rfl) ?_
  refine lv_if_lt (tgt := 14) hx hb dX3_painted_6 (by decide) (fun c_1 => ?_) (fun c_1 => ?_)
  · skip
    refine lv_ldc2 (v := (-1)) hx hb hown (hts (.constantLong RX3 140 (-1)) (by decide +kernel)) dX3_painted_14 ?_
    refine rt_l (y := (lI (-1))) rfl ?_
    exact wr_lret hx hb hr hP hS rfl rfl dX3_painted_17 hlocks
  · skip
    refine lv_iload_n hx hb dX3_painted_9 rfl (lv_at hl 1 rfl) ?_
    refine lv_iconst (v := nI (3)) hx hb dX3_painted_10 (by decide) ?_
    refine lv_icmp_le (tgt := 18) hx hb dX3_painted_11 (by decide) (fun c_2 => ?_) (fun c_2 => ?_)
    · skip
      exact absurd hx9 (by rw [Int32.lt_iff_toInt_lt, Int32.toInt_zero] at c_1; rw [Int32.le_iff_toInt_le] at c_2; have e3 : (nI 3).toInt = 3 := (by decide); omega)
    · skip
      refine lv_ldc2 (v := (-1)) hx hb hown (hts (.constantLong RX3 140 (-1)) (by decide +kernel)) dX3_painted_14 ?_
      refine rt_l (y := (lI (-1))) rfl ?_
      exact wr_lret hx hb hr hP hS rfl rfl dX3_painted_17 hlocks
set_option maxHeartbeats 4000000 in
set_option maxRecDepth 100000 in
theorem c_X3_painted_3 (l : Launch) (dC : Nat → ClassId) (dI : Nat → Nat → Nat) (cI cL cZ : ClassId) (b : Nat → Nat) (w : MV)  (hv : okM w) : Met l yX3_painted wsX3_painted ({ frames := 4, cells := 0, slots := 0, locals := 96 }) (va_Pc [.ref (b 0), .int (nI (3))] (wr_B (dC, dI) vwCl (wM cI cZ b w) (tyS cI cL cZ))) (wr_Q (some (.long (lI (mp3 (mThx w (nI 0)))))) (dC, dI) vwCl (wM cI cZ b w) (wM cI cZ b (mThx w (nI 0)))) 0 0 (inW (wM cI cZ b w)) := by
  refine wr_Met (cc := cX3_painted) (maxL := 7) (ret := (some .long)) (by decide) rfl (Nat.le_of_ble_eq_true rfl) ?_
  intro pr en s m below meth co ls hx hb hml hr hlocks hown hts hP hK hD hS hl
  have hl : lv_has ls 7 [(0, .ref (b 0)), (1, .int (nI (3)))] := hl
  have hown : s.vm.findClass RX3 = some m.cls := hown
  have hvp : mPn w ≤ 60 ∧ mTm w ≤ 200 ∧ mTn w ≤ 60 := ⟨hv.2.1, hv.2.2.1, hv.2.2.2.1⟩
  refine lv_aload_n hx hb dX3_painted_0 rfl (lv_at hl 0 rfl) ?_
  refine lv_iconst (v := nI (0)) hx hb dX3_painted_1 (by decide) ?_
  refine va_put (D := (dC, dI)) (ci := 3) (v := .int (nI (0))) (ty := .int) (C := RX3) (T := TX3) (N := 11) hx hb hts (by decide +kernel) tyX3 tyX3_ok nmX3 hown hK hP hD hS 0 rfl rfl 0 (by decide) (hts (.fieldLink RX3 33 "TriangleSheetModel" "thrown" "I") (by decide +kernel)) (fun _ h9 => h9) rfl (by decide +kernel) rfl rfl (Nat.le_of_ble_eq_true rfl) dX3_painted_2 (fun H locs hP hD hS => ?_)
  have hP : va_P (dC, dI) vwCl (wM cI cZ b (((w.1.1, w.1.2.1, w.1.2.2), nI (0), mPn w, mTm w, mTn w, mIs w, mFi w, mSe w, mMk w))) H := hP
  have hD : va_D (inW (wM cI cZ b w)) (wM cI cZ b (((w.1.1, w.1.2.1, w.1.2.2), nI (0), mPn w, mTm w, mTn w, mIs w, mFi w, mSe w, mMk w))) := hD
  have hP : va_P (dC, dI) vwCl (wM cI cZ b (mThx w (nI 0))) H := hP
  have hD : va_D (inW (wM cI cZ b w)) (wM cI cZ b (mThx w (nI 0))) := hD
  have hv : okM (mThx w (nI 0)) := hv
  generalize mThx w (nI 0) = w1 at hP hD hv ⊢
  have hvp : mPn w1 ≤ 60 ∧ mTm w1 ≤ 200 ∧ mTn w1 ≤ 60 := ⟨hv.2.1, hv.2.2.1, hv.2.2.2.1⟩
  refine lv_iload_n hx hb dX3_painted_5 rfl (lv_at hl 1 rfl) ?_
  refine lv_if_lt (tgt := 14) hx hb dX3_painted_6 (by decide) (fun c_1 => absurd c_1 (by decide)) (fun c_1 => ?_)
  refine lv_iload_n hx hb dX3_painted_9 rfl (lv_at hl 1 rfl) ?_
  refine lv_iconst (v := nI (3)) hx hb dX3_painted_10 (by decide) ?_
  refine lv_icmp_le (tgt := 18) hx hb dX3_painted_11 (by decide) (fun c_2 => ?_) (fun c_2 => absurd (by decide) c_2)
  refine lv_lconst (v := lI 0) hx hb dX3_painted_18 (by decide) ?_
  refine lv_lstore_n (lv' := [(2, .long (lI (0))), (0, .ref (b 0)), (1, .int (nI (3)))]) hx hb dX3_painted_19 rfl hl (by decide) rfl (fun ls hl => ?_)
  refine lv_iconst (v := nI (0)) hx hb dX3_painted_20 (by decide) ?_
  refine lv_istore (lv' := [(4, .int (nI (0))), (2, .long (lI (0))), (0, .ref (b 0)), (1, .int (nI (3)))]) hx hb dX3_painted_21 hl (by decide) rfl (fun ls hl => ?_)
  refine lpW (σ := Nat × Int) (LV := fun (n, sm) => [(0, .ref (b 0)), (1, .int (nI (3))), (2, .long (lI (sm))), (4, .int (nI (n)))]) (WS := fun (n, sm) => wM cI cZ b w1) (I := fun k (n, sm) => n + k = mTm w1 ∧ mp3 w1 = sm + smZ (fun t => if (mIs w1 t && rgt w1.1 t) = true then twi w1.1 t else 0) k n) (fun k (n, sm) ls H locs hI_k hl hP hD hS ih_k => ?_) (mTm w1) (0, 0) ls _ _ ⟨by omega, by simp [mp3]⟩ (lv_sub hl [2, 3, 1, 0] rfl) hP hD hS
  obtain ⟨hk, hi⟩ := hI_k
  have hP : va_P (dC, dI) vwCl (wM cI cZ b w1) H := hP
  have hD : va_D (inW (wM cI cZ b w)) (wM cI cZ b w1) := hD
  refine lv_iload hx hb dX3_painted_23 (lv_at hl 3 rfl) ?_
  refine lv_aload_n hx hb dX3_painted_25 rfl (lv_at hl 0 rfl) ?_
  refine va_get (D := (dC, dI)) (ci := 3) (v := .int (nI (mTm w1))) (C := RX3) (T := TX3) (N := 11) hx hb hts (by decide +kernel) hown hK hP 0 rfl rfl 2 (by decide) (hts (.fieldLink RX3 43 "TriangleSheetModel" "came" "I") (by decide +kernel)) (fun _ h9 => h9) rfl dX3_painted_26 ?_
  refine lv_icmp_ge (tgt := 75) hx hb dX3_painted_29 (by decide) (fun c_3 => ?_) (fun c_3 => ?_)
  · skip
    have c_3 : mTm w1 ≤ n := (nI_leI (a := mTm w1) (b := n) (by omega) (by omega)).mp c_3
    refine lv_iconst (v := nI (0)) hx hb dX3_painted_75 (by decide) ?_
    refine lv_istore (lv' := [(4, .int (nI (0))), (0, .ref (b 0)), (1, .int (nI (3))), (2, .long (lI (sm)))]) hx hb dX3_painted_76 hl (by decide) rfl (fun ls hl => ?_)
    refine lv_iload hx hb dX3_painted_78 (lv_at hl 0 rfl) ?_
    refine lv_bipush (v := nI (32)) hx hb dX3_painted_80 (by decide) ?_
    refine lv_icmp_ge (tgt := 147) hx hb dX3_painted_82 (by decide) (fun c_4 => absurd c_4 (by decide)) (fun c_4 => ?_)
    refine lv_iload_n hx hb dX3_painted_85 rfl (lv_at hl 2 rfl) ?_
    refine lv_iconst (v := nI (3)) hx hb dX3_painted_86 (by decide) ?_
    refine lv_icmp_ge (tgt := 147) hx hb dX3_painted_87 (by decide) (fun c_5 => ?_) (fun c_5 => absurd (by decide) c_5)
    refine lv_lload_n hx hb dX3_painted_147 rfl (lv_at hl 3 rfl) ?_
    exact wr_lret hx hb hr hP hS (congrArg some (congrArg (fun q => Value.long (lI q)) (by rw [hi, show k = 0 by omega]; simp [smZ]))) rfl dX3_painted_148 hlocks
  · skip
    have c_3 : ¬ (mTm w1 ≤ n) := fun hq9 => c_3 ((nI_leI (a := mTm w1) (b := n) (by omega) (by omega)).mpr hq9)
    refine lv_iload_n hx hb dX3_painted_32 rfl (lv_at hl 1 rfl) ?_
    refine lv_iconst (v := nI (3)) hx hb dX3_painted_33 (by decide) ?_
    refine lv_icmp_ne (tgt := 75) hx hb dX3_painted_34 (by decide) (fun c_6 => absurd (by decide) c_6) (fun c_6 => ?_)
    refine lv_lload_n hx hb dX3_painted_37 rfl (lv_at hl 2 rfl) ?_
    refine lv_aload_n hx hb dX3_painted_38 rfl (lv_at hl 0 rfl) ?_
    refine va_get (D := (dC, dI)) (ci := 3) (v := .ref (b 3)) (C := RX3) (T := TX3) (N := 11) hx hb hts (by decide +kernel) hown hK hP 0 rfl rfl 6 (by decide) (hts (.fieldLink RX3 16 "TriangleSheetModel" "is" "[Z") (by decide +kernel)) (fun _ h9 => h9) rfl dX3_painted_39 ?_
    refine lv_iload hx hb dX3_painted_42 (lv_at hl 3 rfl) ?_
    refine za_ld (k := n) hx hb hK hP 3 2 rfl rfl (by omega) (by decide) dX3_painted_44 ?_
    refine W.eq (g2 := F0 m 45 ls [.int (bI ((mIs w1) (n))), .long (lI (sm))]) rfl ?_
    have hj_7 : W pr l en ({ frames := 4, cells := 0, slots := 0, locals := 96 }) s m [.ref (b 0), .int (nI (3))].toArray below meth co H locs 0 0 (MQ below (wr_Q (some (.long (lI (mp3 (w1))))) (dC, dI) vwCl (wM cI cZ b w) (wM cI cZ b (w1))) [.ref (b 0), .int (nI (3))].toArray s 0 0 (inW (wM cI cZ b w))) (F0 m 67 ls [.long (lI (if (mIs w1 (n) && rgt w1.1 (n)) = true then twi w1.1 (n) else 0)), .long (lI (sm))]) := by
      refine lv_ladd hx hb dX3_painted_67 ?_
      refine rt_l (y := (lI ((sm) + (if (mIs w1 (n) && rgt w1.1 (n)) = true then twi w1.1 (n) else 0)))) (lI_add (sm) (if (mIs w1 (n) && rgt w1.1 (n)) = true then twi w1.1 (n) else 0)) ?_
      refine lv_lstore_n (lv' := [(2, .long (lI ((sm) + (if (mIs w1 (n) && rgt w1.1 (n)) = true then twi w1.1 (n) else 0)))), (0, .ref (b 0)), (1, .int (nI (3))), (4, .int (nI (n)))]) hx hb dX3_painted_68 rfl hl (by decide) rfl (fun ls hl => ?_)
      refine lv_iinc (v := nI (n + 1)) (lv' := [(4, .int (nI (n + 1))), (2, .long (lI ((sm) + (if (mIs w1 (n) && rgt w1.1 (n)) = true then twi w1.1 (n) else 0)))), (0, .ref (b 0)), (1, .int (nI (3)))]) hx hb dX3_painted_69 hl (k := 3) rfl (nI_1 (n)) (by decide) rfl (fun ls hl => ?_)
      refine lv_goto (tgt := 23) hx hb dX3_painted_72 (by decide) ?_
      exact ih_k (k - 1) (n + 1, (sm) + (if (mIs w1 (n) && rgt w1.1 (n)) = true then twi w1.1 (n) else 0)) ls _ _ (by omega) ⟨by omega, by rw [hi, smZ_s (by omega)]; omega⟩ (lv_sub hl [2, 3, 1, 0] rfl) hP hD hS
    refine lv_if_eq (tgt := 66) hx hb dX3_painted_45 (by decide) (fun c_8 => ?_) (fun c_8 => ?_)
    · skip
      have c_8 : ((mIs w1) (n)) = false := bI_f c_8
      refine lv_lconst (v := lI 0) hx hb dX3_painted_66 (by decide) ?_
      refine rt_l (y := (lI (if (mIs w1 (n) && rgt w1.1 (n)) = true then twi w1.1 (n) else 0))) (congrArg lI (by simp [c_3, c_8])) ?_
      exact hj_7
    · skip
      have c_8 : ((mIs w1) (n)) = true := bI_t c_8
      refine lv_aload_n hx hb dX3_painted_48 rfl (lv_at hl 0 rfl) ?_
      refine lv_iload hx hb dX3_painted_49 (lv_at hl 3 rfl) ?_
      refine ro_V (As := [.int (nI (n))]) (rest := [.long (lI (sm))]) (q0 := 0) (ci := 3) hx hb hml hown hts (c_X3_isRight l dC dI cI cL cZ b w1 n hv (by omega)) (cwV 1 hts gX3_painted_X3_isRight rfl rfl rfl (by decide +kernel) ⟨Nat.le_of_ble_eq_true rfl, Nat.le_of_ble_eq_true rfl⟩) hK hP rfl rfl rfl hl.1 rfl (Nat.le_of_ble_eq_true rfl) dX3_painted_51 ⟨Nat.zero_le _, Nat.zero_le _⟩ ?_
      refine lv_if_eq (tgt := 66) hx hb dX3_painted_54 (by decide) (fun c_9 => ?_) (fun c_9 => ?_)
      · skip
        have c_9 : (rgt w1.1 n) = false := bI_f c_9
        refine lv_lconst (v := lI 0) hx hb dX3_painted_66 (by decide) ?_
        refine rt_l (y := (lI (if (mIs w1 (n) && rgt w1.1 (n)) = true then twi w1.1 (n) else 0))) (congrArg lI (by simp [c_3, c_8, c_9])) ?_
        exact hj_7
      · skip
        have c_9 : (rgt w1.1 n) = true := bI_t c_9
        refine lv_aload_n hx hb dX3_painted_57 rfl (lv_at hl 0 rfl) ?_
        refine lv_iload hx hb dX3_painted_58 (lv_at hl 3 rfl) ?_
        refine ro_V (As := [.int (nI (n))]) (rest := [.long (lI (sm))]) (q0 := 0) (ci := 3) hx hb hml hown hts (c_X3_twice l dC dI cI cL cZ b w1 n hv (by omega)) (cwV 1 hts gX3_painted_X3_twice rfl rfl rfl (by decide +kernel) ⟨Nat.le_of_ble_eq_true rfl, Nat.le_of_ble_eq_true rfl⟩) hK hP rfl rfl rfl hl.1 rfl (Nat.le_of_ble_eq_true rfl) dX3_painted_60 ⟨Nat.zero_le _, Nat.zero_le _⟩ ?_
        have ps_10 : lOk (twi w1.1 n) := (tof_ok hv.1).l
        refine lv_goto (tgt := 67) hx hb dX3_painted_63 (by decide) ?_
        refine rt_l (y := (lI (if (mIs w1 (n) && rgt w1.1 (n)) = true then twi w1.1 (n) else 0))) (congrArg lI (by simp [c_3, c_8, c_9])) ?_
        exact hj_7
set_option maxHeartbeats 4000000 in
set_option maxRecDepth 100000 in
theorem c_X3_painted_0 (l : Launch) (dC : Nat → ClassId) (dI : Nat → Nat → Nat) (cI cL cZ : ClassId) (b : Nat → Nat) (w : MV)  (hv : okM w) : Met l yX3_painted wsX3_painted ({ frames := 6, cells := 0, slots := 0, locals := 149 }) (va_Pc [.ref (b 0), .int (nI (0))] (wr_B (dC, dI) vwCl (wM cI cZ b w) (tyS cI cL cZ))) (wr_Q (some (.long (lI (mpx (mThx w (nI 0)) 0)))) (dC, dI) vwCl (wM cI cZ b w) (wM cI cZ b (mThx w (nI 0)))) 0 0 (inW (wM cI cZ b w)) := by
  refine wr_Met (cc := cX3_painted) (maxL := 7) (ret := (some .long)) (by decide) rfl (Nat.le_of_ble_eq_true rfl) ?_
  intro pr en s m below meth co ls hx hb hml hr hlocks hown hts hP hK hD hS hl
  have hl : lv_has ls 7 [(0, .ref (b 0)), (1, .int (nI (0)))] := hl
  have hown : s.vm.findClass RX3 = some m.cls := hown
  have hvp : mPn w ≤ 60 ∧ mTm w ≤ 200 ∧ mTn w ≤ 60 := ⟨hv.2.1, hv.2.2.1, hv.2.2.2.1⟩
  refine lv_aload_n hx hb dX3_painted_0 rfl (lv_at hl 0 rfl) ?_
  refine lv_iconst (v := nI (0)) hx hb dX3_painted_1 (by decide) ?_
  refine va_put (D := (dC, dI)) (ci := 3) (v := .int (nI (0))) (ty := .int) (C := RX3) (T := TX3) (N := 11) hx hb hts (by decide +kernel) tyX3 tyX3_ok nmX3 hown hK hP hD hS 0 rfl rfl 0 (by decide) (hts (.fieldLink RX3 33 "TriangleSheetModel" "thrown" "I") (by decide +kernel)) (fun _ h9 => h9) rfl (by decide +kernel) rfl rfl (Nat.le_of_ble_eq_true rfl) dX3_painted_2 (fun H locs hP hD hS => ?_)
  have hP : va_P (dC, dI) vwCl (wM cI cZ b (((w.1.1, w.1.2.1, w.1.2.2), nI (0), mPn w, mTm w, mTn w, mIs w, mFi w, mSe w, mMk w))) H := hP
  have hD : va_D (inW (wM cI cZ b w)) (wM cI cZ b (((w.1.1, w.1.2.1, w.1.2.2), nI (0), mPn w, mTm w, mTn w, mIs w, mFi w, mSe w, mMk w))) := hD
  have hP : va_P (dC, dI) vwCl (wM cI cZ b (mThx w (nI 0))) H := hP
  have hD : va_D (inW (wM cI cZ b w)) (wM cI cZ b (mThx w (nI 0))) := hD
  have hv : okM (mThx w (nI 0)) := hv
  generalize mThx w (nI 0) = w1 at hP hD hv ⊢
  have hvp : mPn w1 ≤ 60 ∧ mTm w1 ≤ 200 ∧ mTn w1 ≤ 60 := ⟨hv.2.1, hv.2.2.1, hv.2.2.2.1⟩
  refine lv_iload_n hx hb dX3_painted_5 rfl (lv_at hl 1 rfl) ?_
  refine lv_if_lt (tgt := 14) hx hb dX3_painted_6 (by decide) (fun c_1 => absurd c_1 (by decide)) (fun c_1 => ?_)
  refine lv_iload_n hx hb dX3_painted_9 rfl (lv_at hl 1 rfl) ?_
  refine lv_iconst (v := nI (3)) hx hb dX3_painted_10 (by decide) ?_
  refine lv_icmp_le (tgt := 18) hx hb dX3_painted_11 (by decide) (fun c_2 => ?_) (fun c_2 => absurd (by decide) c_2)
  refine lv_lconst (v := lI 0) hx hb dX3_painted_18 (by decide) ?_
  refine lv_lstore_n (lv' := [(2, .long (lI (0))), (0, .ref (b 0)), (1, .int (nI (0)))]) hx hb dX3_painted_19 rfl hl (by decide) rfl (fun ls hl => ?_)
  refine lv_iconst (v := nI (0)) hx hb dX3_painted_20 (by decide) ?_
  refine lv_istore (lv' := [(4, .int (nI (0))), (2, .long (lI (0))), (0, .ref (b 0)), (1, .int (nI (0)))]) hx hb dX3_painted_21 hl (by decide) rfl (fun ls hl => ?_)
  have hj_3 : W pr l en ({ frames := 6, cells := 0, slots := 0, locals := 149 }) s m [.ref (b 0), .int (nI (0))].toArray below meth co H locs 0 0 (MQ below (wr_Q (some (.long (lI (mpx (w1) 0)))) (dC, dI) vwCl (wM cI cZ b w) (wM cI cZ b (w1))) [.ref (b 0), .int (nI (0))].toArray s 0 0 (inW (wM cI cZ b w))) (F0 m 75 ls []) := by
    refine lv_iconst (v := nI (0)) hx hb dX3_painted_75 (by decide) ?_
    refine lv_istore (lv' := [(4, .int (nI (0))), (2, .long (lI (0))), (0, .ref (b 0)), (1, .int (nI (0)))]) hx hb dX3_painted_76 hl (by decide) rfl (fun ls hl => ?_)
    refine lpW (σ := Nat × Int) (LV := fun (n, sm) => [(0, .ref (b 0)), (1, .int (nI (0))), (2, .long (lI (sm))), (4, .int (nI (n)))]) (WS := fun (n, sm) => wM cI cZ b w1) (I := fun k (n, sm) => n + k = 32 ∧ mpx w1 0 = sm + smZ (fun i => smZ (fun j => if 0 = 2 then ((hmC w1 i j : Nat) : Int) else if 0 < hmC w1 i j then 1 else 0) 32 0) k n) (fun k (n, sm) ls H locs hI_k hl hP hD hS ih_k => ?_) (32) (0, 0) ls _ _ ⟨by omega, by simp [mpx]⟩ (lv_sub hl [2, 3, 1, 0] rfl) hP hD hS
    obtain ⟨hk, hi⟩ := hI_k
    have hP : va_P (dC, dI) vwCl (wM cI cZ b w1) H := hP
    have hD : va_D (inW (wM cI cZ b w)) (wM cI cZ b w1) := hD
    refine lv_iload hx hb dX3_painted_78 (lv_at hl 3 rfl) ?_
    refine lv_bipush (v := nI (32)) hx hb dX3_painted_80 (by decide) ?_
    refine lv_icmp_ge (tgt := 147) hx hb dX3_painted_82 (by decide) (fun c_4 => ?_) (fun c_4 => ?_)
    · skip
      have c_4 : 32 ≤ n := (nI_leI (a := 32) (b := n) (by omega) (by omega)).mp c_4
      refine lv_lload_n hx hb dX3_painted_147 rfl (lv_at hl 2 rfl) ?_
      exact wr_lret hx hb hr hP hS (congrArg some (congrArg (fun q => Value.long (lI q)) (by rw [hi, show k = 0 by omega]; simp [smZ]))) rfl dX3_painted_148 hlocks
    · skip
      have c_4 : ¬ (32 ≤ n) := fun hq9 => c_4 ((nI_leI (a := 32) (b := n) (by omega) (by omega)).mpr hq9)
      refine lv_iload_n hx hb dX3_painted_85 rfl (lv_at hl 1 rfl) ?_
      refine lv_iconst (v := nI (3)) hx hb dX3_painted_86 (by decide) ?_
      refine lv_icmp_ge (tgt := 147) hx hb dX3_painted_87 (by decide) (fun c_5 => absurd c_5 (by decide)) (fun c_5 => ?_)
      refine lv_iconst (v := nI (0)) hx hb dX3_painted_90 (by decide) ?_
      refine lv_istore (lv' := [(5, .int (nI (0))), (0, .ref (b 0)), (1, .int (nI (0))), (2, .long (lI (sm))), (4, .int (nI (n)))]) hx hb dX3_painted_91 hl (by decide) rfl (fun ls hl => ?_)
      refine lpW (σ := Nat × Int) (LV := fun (m2, s2) => [(0, .ref (b 0)), (1, .int (nI (0))), (2, .long (lI (s2))), (4, .int (nI (n))), (5, .int (nI (m2)))]) (WS := fun (m2, s2) => wM cI cZ b w1) (I := fun k2 (m2, s2) => m2 + k2 = 32 ∧ sm + smZ (fun j => if 0 = 2 then ((hmC w1 n j : Nat) : Int) else if 0 < hmC w1 n j then 1 else 0) 32 0 = s2 + smZ (fun j => if 0 = 2 then ((hmC w1 n j : Nat) : Int) else if 0 < hmC w1 n j then 1 else 0) k2 m2) (fun k2 (m2, s2) ls H locs hI_k2 hl hP hD hS ih_k2 => ?_) (32) (0, sm) ls _ _ ⟨by omega, rfl⟩ (lv_sub hl [1, 2, 3, 4, 0] rfl) hP hD hS
      obtain ⟨hk2, hi2⟩ := hI_k2
      have hP : va_P (dC, dI) vwCl (wM cI cZ b w1) H := hP
      have hD : va_D (inW (wM cI cZ b w)) (wM cI cZ b w1) := hD
      refine lv_iload hx hb dX3_painted_93 (lv_at hl 4 rfl) ?_
      refine lv_bipush (v := nI (32)) hx hb dX3_painted_95 (by decide) ?_
      refine lv_icmp_ge (tgt := 141) hx hb dX3_painted_97 (by decide) (fun c_6 => ?_) (fun c_6 => ?_)
      · skip
        have c_6 : 32 ≤ m2 := (nI_leI (a := 32) (b := m2) (by omega) (by omega)).mp c_6
        refine lv_iinc (v := nI (n + 1)) (lv' := [(4, .int (nI (n + 1))), (0, .ref (b 0)), (1, .int (nI (0))), (2, .long (lI (s2))), (5, .int (nI (m2)))]) hx hb dX3_painted_141 hl (k := 3) rfl (nI_1 (n)) (by decide) rfl (fun ls hl => ?_)
        refine lv_goto (tgt := 78) hx hb dX3_painted_144 (by decide) ?_
        exact ih_k (k - 1) (n + 1, s2) ls _ _ (by omega) ⟨by omega, by rw [hi, smZ_s (by omega)]; rw [show k2 = 0 by omega, smZ_0] at hi2; omega⟩ (lv_sub hl [1, 2, 3, 0] rfl) hP hD hS
      · skip
        have c_6 : ¬ (32 ≤ m2) := fun hq9 => c_6 ((nI_leI (a := 32) (b := m2) (by omega) (by omega)).mpr hq9)
        refine lv_aload_n hx hb dX3_painted_100 rfl (lv_at hl 0 rfl) ?_
        refine lv_iload hx hb dX3_painted_101 (lv_at hl 3 rfl) ?_
        refine lv_iload hx hb dX3_painted_103 (lv_at hl 4 rfl) ?_
        refine ro_V (As := [.int (nI (n)), .int (nI (m2))]) (rest := []) (q0 := 0) (ci := 3) hx hb hml hown hts (c_X3_howMany l dC dI cI cL cZ b w1 n m2 hv (by omega) (by omega)) (cwV 2 hts gX3_painted_X3_howMany rfl rfl rfl (by decide +kernel) ⟨Nat.le_of_ble_eq_true rfl, Nat.le_of_ble_eq_true rfl⟩) hK hP rfl rfl rfl hl.1 rfl (Nat.le_of_ble_eq_true rfl) dX3_painted_105 ⟨Nat.zero_le _, Nat.zero_le _⟩ ?_
        refine rt_i (y := (nI (hmC w1 (n) (m2)))) rfl ?_
        have hle9 := hmC_le (w := w1) (i := n) (j := m2)
        refine lv_istore (lv' := [(6, .int (nI (hmC w1 (n) (m2)))), (0, .ref (b 0)), (1, .int (nI (0))), (2, .long (lI (s2))), (4, .int (nI (n))), (5, .int (nI (m2)))]) hx hb dX3_painted_108 hl (by decide) rfl (fun ls hl => ?_)
        refine lv_lload_n hx hb dX3_painted_110 rfl (lv_at hl 3 rfl) ?_
        refine lv_iload_n hx hb dX3_painted_111 rfl (lv_at hl 2 rfl) ?_
        refine lv_iconst (v := nI (2)) hx hb dX3_painted_112 (by decide) ?_
        refine lv_icmp_ne (tgt := 122) hx hb dX3_painted_113 (by decide) (fun c_7 => ?_) (fun c_7 => absurd c_7 (by decide))
        refine lv_iload hx hb dX3_painted_122 (lv_at hl 0 rfl) ?_
        refine lv_iload_n hx hb dX3_painted_124 rfl (lv_at hl 2 rfl) ?_
        refine lv_icmp_le (tgt := 132) hx hb dX3_painted_125 (by decide) (fun c_8 => ?_) (fun c_8 => ?_)
        · skip
          have c_8 : hmC w1 (n) (m2) ≤ 0 := (nI_leI (a := hmC w1 (n) (m2)) (b := 0) (by omega) (by omega)).mp c_8
          refine lv_lconst (v := lI 0) hx hb dX3_painted_132 (by decide) ?_
          refine lv_ladd hx hb dX3_painted_133 ?_
          refine rt_l (y := (lI ((s2) + (0)))) (lI_add (s2) (0)) ?_
          refine lv_lstore_n (lv' := [(2, .long (lI ((s2) + (0)))), (6, .int (nI (hmC w1 (n) (m2)))), (0, .ref (b 0)), (1, .int (nI (0))), (4, .int (nI (n))), (5, .int (nI (m2)))]) hx hb dX3_painted_134 rfl hl (by decide) rfl (fun ls hl => ?_)
          refine lv_iinc (v := nI (m2 + 1)) (lv' := [(5, .int (nI (m2 + 1))), (2, .long (lI ((s2) + (0)))), (6, .int (nI (hmC w1 (n) (m2)))), (0, .ref (b 0)), (1, .int (nI (0))), (4, .int (nI (n)))]) hx hb dX3_painted_135 hl (k := 5) rfl (nI_1 (m2)) (by decide) rfl (fun ls hl => ?_)
          refine lv_goto (tgt := 93) hx hb dX3_painted_138 (by decide) ?_
          exact ih_k2 (k2 - 1) (m2 + 1, (s2) + (0)) ls _ _ (by omega) ⟨by omega, by rw [hi2, smZ_s (by omega)]; simp [c_4, c_6, c_8]; try omega⟩ (lv_sub hl [3, 4, 1, 5, 0] rfl) hP hD hS
        · skip
          have c_8 : ¬ (hmC w1 (n) (m2) ≤ 0) := fun hq9 => c_8 ((nI_leI (a := hmC w1 (n) (m2)) (b := 0) (by omega) (by omega)).mpr hq9)
          refine lv_lconst (v := lI 1) hx hb dX3_painted_128 (by decide) ?_
          refine lv_goto (tgt := 133) hx hb dX3_painted_129 (by decide) ?_
          refine lv_ladd hx hb dX3_painted_133 ?_
          refine rt_l (y := (lI ((s2) + (1)))) (lI_add (s2) (1)) ?_
          refine lv_lstore_n (lv' := [(2, .long (lI ((s2) + (1)))), (6, .int (nI (hmC w1 (n) (m2)))), (0, .ref (b 0)), (1, .int (nI (0))), (4, .int (nI (n))), (5, .int (nI (m2)))]) hx hb dX3_painted_134 rfl hl (by decide) rfl (fun ls hl => ?_)
          refine lv_iinc (v := nI (m2 + 1)) (lv' := [(5, .int (nI (m2 + 1))), (2, .long (lI ((s2) + (1)))), (6, .int (nI (hmC w1 (n) (m2)))), (0, .ref (b 0)), (1, .int (nI (0))), (4, .int (nI (n)))]) hx hb dX3_painted_135 hl (k := 5) rfl (nI_1 (m2)) (by decide) rfl (fun ls hl => ?_)
          refine lv_goto (tgt := 93) hx hb dX3_painted_138 (by decide) ?_
          exact ih_k2 (k2 - 1) (m2 + 1, (s2) + (1)) ls _ _ (by omega) ⟨by omega, by rw [hi2, smZ_s (by omega)]; simp [c_4, c_6, c_8]; try omega⟩ (lv_sub hl [3, 4, 1, 5, 0] rfl) hP hD hS
  refine lv_iload hx hb dX3_painted_23 (lv_at hl 0 rfl) ?_
  refine lv_aload_n hx hb dX3_painted_25 rfl (lv_at hl 2 rfl) ?_
  refine va_get (D := (dC, dI)) (ci := 3) (v := .int (nI (mTm w1))) (C := RX3) (T := TX3) (N := 11) hx hb hts (by decide +kernel) hown hK hP 0 rfl rfl 2 (by decide) (hts (.fieldLink RX3 43 "TriangleSheetModel" "came" "I") (by decide +kernel)) (fun _ h9 => h9) rfl dX3_painted_26 ?_
  refine lv_icmp_ge (tgt := 75) hx hb dX3_painted_29 (by decide) (fun c_9 => ?_) (fun c_9 => ?_)
  · skip
    have c_9 : mTm w1 ≤ 0 := (nI_leI (a := mTm w1) (b := 0) (by omega) (by omega)).mp c_9
    exact hj_3
  · skip
    have c_9 : ¬ (mTm w1 ≤ 0) := fun hq9 => c_9 ((nI_leI (a := mTm w1) (b := 0) (by omega) (by omega)).mpr hq9)
    refine lv_iload_n hx hb dX3_painted_32 rfl (lv_at hl 3 rfl) ?_
    refine lv_iconst (v := nI (3)) hx hb dX3_painted_33 (by decide) ?_
    refine lv_icmp_ne (tgt := 75) hx hb dX3_painted_34 (by decide) (fun c_10 => ?_) (fun c_10 => absurd c_10 (by decide))
    exact hj_3
set_option maxHeartbeats 4000000 in
set_option maxRecDepth 100000 in
theorem c_X3_painted_1 (l : Launch) (dC : Nat → ClassId) (dI : Nat → Nat → Nat) (cI cL cZ : ClassId) (b : Nat → Nat) (w : MV)  (hv : okM w) : Met l yX3_painted wsX3_painted ({ frames := 6, cells := 0, slots := 0, locals := 149 }) (va_Pc [.ref (b 0), .int (nI (1))] (wr_B (dC, dI) vwCl (wM cI cZ b w) (tyS cI cL cZ))) (wr_Q (some (.long (lI (mpx (mThx w (nI 0)) 1)))) (dC, dI) vwCl (wM cI cZ b w) (wM cI cZ b (mThx w (nI 0)))) 0 0 (inW (wM cI cZ b w)) := by
  refine wr_Met (cc := cX3_painted) (maxL := 7) (ret := (some .long)) (by decide) rfl (Nat.le_of_ble_eq_true rfl) ?_
  intro pr en s m below meth co ls hx hb hml hr hlocks hown hts hP hK hD hS hl
  have hl : lv_has ls 7 [(0, .ref (b 0)), (1, .int (nI (1)))] := hl
  have hown : s.vm.findClass RX3 = some m.cls := hown
  have hvp : mPn w ≤ 60 ∧ mTm w ≤ 200 ∧ mTn w ≤ 60 := ⟨hv.2.1, hv.2.2.1, hv.2.2.2.1⟩
  refine lv_aload_n hx hb dX3_painted_0 rfl (lv_at hl 0 rfl) ?_
  refine lv_iconst (v := nI (0)) hx hb dX3_painted_1 (by decide) ?_
  refine va_put (D := (dC, dI)) (ci := 3) (v := .int (nI (0))) (ty := .int) (C := RX3) (T := TX3) (N := 11) hx hb hts (by decide +kernel) tyX3 tyX3_ok nmX3 hown hK hP hD hS 0 rfl rfl 0 (by decide) (hts (.fieldLink RX3 33 "TriangleSheetModel" "thrown" "I") (by decide +kernel)) (fun _ h9 => h9) rfl (by decide +kernel) rfl rfl (Nat.le_of_ble_eq_true rfl) dX3_painted_2 (fun H locs hP hD hS => ?_)
  have hP : va_P (dC, dI) vwCl (wM cI cZ b (((w.1.1, w.1.2.1, w.1.2.2), nI (0), mPn w, mTm w, mTn w, mIs w, mFi w, mSe w, mMk w))) H := hP
  have hD : va_D (inW (wM cI cZ b w)) (wM cI cZ b (((w.1.1, w.1.2.1, w.1.2.2), nI (0), mPn w, mTm w, mTn w, mIs w, mFi w, mSe w, mMk w))) := hD
  have hP : va_P (dC, dI) vwCl (wM cI cZ b (mThx w (nI 0))) H := hP
  have hD : va_D (inW (wM cI cZ b w)) (wM cI cZ b (mThx w (nI 0))) := hD
  have hv : okM (mThx w (nI 0)) := hv
  generalize mThx w (nI 0) = w1 at hP hD hv ⊢
  have hvp : mPn w1 ≤ 60 ∧ mTm w1 ≤ 200 ∧ mTn w1 ≤ 60 := ⟨hv.2.1, hv.2.2.1, hv.2.2.2.1⟩
  refine lv_iload_n hx hb dX3_painted_5 rfl (lv_at hl 1 rfl) ?_
  refine lv_if_lt (tgt := 14) hx hb dX3_painted_6 (by decide) (fun c_1 => absurd c_1 (by decide)) (fun c_1 => ?_)
  refine lv_iload_n hx hb dX3_painted_9 rfl (lv_at hl 1 rfl) ?_
  refine lv_iconst (v := nI (3)) hx hb dX3_painted_10 (by decide) ?_
  refine lv_icmp_le (tgt := 18) hx hb dX3_painted_11 (by decide) (fun c_2 => ?_) (fun c_2 => absurd (by decide) c_2)
  refine lv_lconst (v := lI 0) hx hb dX3_painted_18 (by decide) ?_
  refine lv_lstore_n (lv' := [(2, .long (lI (0))), (0, .ref (b 0)), (1, .int (nI (1)))]) hx hb dX3_painted_19 rfl hl (by decide) rfl (fun ls hl => ?_)
  refine lv_iconst (v := nI (0)) hx hb dX3_painted_20 (by decide) ?_
  refine lv_istore (lv' := [(4, .int (nI (0))), (2, .long (lI (0))), (0, .ref (b 0)), (1, .int (nI (1)))]) hx hb dX3_painted_21 hl (by decide) rfl (fun ls hl => ?_)
  have hj_3 : W pr l en ({ frames := 6, cells := 0, slots := 0, locals := 149 }) s m [.ref (b 0), .int (nI (1))].toArray below meth co H locs 0 0 (MQ below (wr_Q (some (.long (lI (mpx (w1) 1)))) (dC, dI) vwCl (wM cI cZ b w) (wM cI cZ b (w1))) [.ref (b 0), .int (nI (1))].toArray s 0 0 (inW (wM cI cZ b w))) (F0 m 75 ls []) := by
    refine lv_iconst (v := nI (0)) hx hb dX3_painted_75 (by decide) ?_
    refine lv_istore (lv' := [(4, .int (nI (0))), (2, .long (lI (0))), (0, .ref (b 0)), (1, .int (nI (1)))]) hx hb dX3_painted_76 hl (by decide) rfl (fun ls hl => ?_)
    refine lpW (σ := Nat × Int) (LV := fun (n, sm) => [(0, .ref (b 0)), (1, .int (nI (1))), (2, .long (lI (sm))), (4, .int (nI (n)))]) (WS := fun (n, sm) => wM cI cZ b w1) (I := fun k (n, sm) => n + k = 32 ∧ mpx w1 1 = sm + smZ (fun i => smZ (fun j => if 1 = 2 then ((hmC w1 i j : Nat) : Int) else if 1 < hmC w1 i j then 1 else 0) 32 0) k n) (fun k (n, sm) ls H locs hI_k hl hP hD hS ih_k => ?_) (32) (0, 0) ls _ _ ⟨by omega, by simp [mpx]⟩ (lv_sub hl [2, 3, 1, 0] rfl) hP hD hS
    obtain ⟨hk, hi⟩ := hI_k
    have hP : va_P (dC, dI) vwCl (wM cI cZ b w1) H := hP
    have hD : va_D (inW (wM cI cZ b w)) (wM cI cZ b w1) := hD
    refine lv_iload hx hb dX3_painted_78 (lv_at hl 3 rfl) ?_
    refine lv_bipush (v := nI (32)) hx hb dX3_painted_80 (by decide) ?_
    refine lv_icmp_ge (tgt := 147) hx hb dX3_painted_82 (by decide) (fun c_4 => ?_) (fun c_4 => ?_)
    · skip
      have c_4 : 32 ≤ n := (nI_leI (a := 32) (b := n) (by omega) (by omega)).mp c_4
      refine lv_lload_n hx hb dX3_painted_147 rfl (lv_at hl 2 rfl) ?_
      exact wr_lret hx hb hr hP hS (congrArg some (congrArg (fun q => Value.long (lI q)) (by rw [hi, show k = 0 by omega]; simp [smZ]))) rfl dX3_painted_148 hlocks
    · skip
      have c_4 : ¬ (32 ≤ n) := fun hq9 => c_4 ((nI_leI (a := 32) (b := n) (by omega) (by omega)).mpr hq9)
      refine lv_iload_n hx hb dX3_painted_85 rfl (lv_at hl 1 rfl) ?_
      refine lv_iconst (v := nI (3)) hx hb dX3_painted_86 (by decide) ?_
      refine lv_icmp_ge (tgt := 147) hx hb dX3_painted_87 (by decide) (fun c_5 => absurd c_5 (by decide)) (fun c_5 => ?_)
      refine lv_iconst (v := nI (0)) hx hb dX3_painted_90 (by decide) ?_
      refine lv_istore (lv' := [(5, .int (nI (0))), (0, .ref (b 0)), (1, .int (nI (1))), (2, .long (lI (sm))), (4, .int (nI (n)))]) hx hb dX3_painted_91 hl (by decide) rfl (fun ls hl => ?_)
      refine lpW (σ := Nat × Int) (LV := fun (m2, s2) => [(0, .ref (b 0)), (1, .int (nI (1))), (2, .long (lI (s2))), (4, .int (nI (n))), (5, .int (nI (m2)))]) (WS := fun (m2, s2) => wM cI cZ b w1) (I := fun k2 (m2, s2) => m2 + k2 = 32 ∧ sm + smZ (fun j => if 1 = 2 then ((hmC w1 n j : Nat) : Int) else if 1 < hmC w1 n j then 1 else 0) 32 0 = s2 + smZ (fun j => if 1 = 2 then ((hmC w1 n j : Nat) : Int) else if 1 < hmC w1 n j then 1 else 0) k2 m2) (fun k2 (m2, s2) ls H locs hI_k2 hl hP hD hS ih_k2 => ?_) (32) (0, sm) ls _ _ ⟨by omega, rfl⟩ (lv_sub hl [1, 2, 3, 4, 0] rfl) hP hD hS
      obtain ⟨hk2, hi2⟩ := hI_k2
      have hP : va_P (dC, dI) vwCl (wM cI cZ b w1) H := hP
      have hD : va_D (inW (wM cI cZ b w)) (wM cI cZ b w1) := hD
      refine lv_iload hx hb dX3_painted_93 (lv_at hl 4 rfl) ?_
      refine lv_bipush (v := nI (32)) hx hb dX3_painted_95 (by decide) ?_
      refine lv_icmp_ge (tgt := 141) hx hb dX3_painted_97 (by decide) (fun c_6 => ?_) (fun c_6 => ?_)
      · skip
        have c_6 : 32 ≤ m2 := (nI_leI (a := 32) (b := m2) (by omega) (by omega)).mp c_6
        refine lv_iinc (v := nI (n + 1)) (lv' := [(4, .int (nI (n + 1))), (0, .ref (b 0)), (1, .int (nI (1))), (2, .long (lI (s2))), (5, .int (nI (m2)))]) hx hb dX3_painted_141 hl (k := 3) rfl (nI_1 (n)) (by decide) rfl (fun ls hl => ?_)
        refine lv_goto (tgt := 78) hx hb dX3_painted_144 (by decide) ?_
        exact ih_k (k - 1) (n + 1, s2) ls _ _ (by omega) ⟨by omega, by rw [hi, smZ_s (by omega)]; rw [show k2 = 0 by omega, smZ_0] at hi2; omega⟩ (lv_sub hl [1, 2, 3, 0] rfl) hP hD hS
      · skip
        have c_6 : ¬ (32 ≤ m2) := fun hq9 => c_6 ((nI_leI (a := 32) (b := m2) (by omega) (by omega)).mpr hq9)
        refine lv_aload_n hx hb dX3_painted_100 rfl (lv_at hl 0 rfl) ?_
        refine lv_iload hx hb dX3_painted_101 (lv_at hl 3 rfl) ?_
        refine lv_iload hx hb dX3_painted_103 (lv_at hl 4 rfl) ?_
        refine ro_V (As := [.int (nI (n)), .int (nI (m2))]) (rest := []) (q0 := 0) (ci := 3) hx hb hml hown hts (c_X3_howMany l dC dI cI cL cZ b w1 n m2 hv (by omega) (by omega)) (cwV 2 hts gX3_painted_X3_howMany rfl rfl rfl (by decide +kernel) ⟨Nat.le_of_ble_eq_true rfl, Nat.le_of_ble_eq_true rfl⟩) hK hP rfl rfl rfl hl.1 rfl (Nat.le_of_ble_eq_true rfl) dX3_painted_105 ⟨Nat.zero_le _, Nat.zero_le _⟩ ?_
        refine rt_i (y := (nI (hmC w1 (n) (m2)))) rfl ?_
        have hle9 := hmC_le (w := w1) (i := n) (j := m2)
        refine lv_istore (lv' := [(6, .int (nI (hmC w1 (n) (m2)))), (0, .ref (b 0)), (1, .int (nI (1))), (2, .long (lI (s2))), (4, .int (nI (n))), (5, .int (nI (m2)))]) hx hb dX3_painted_108 hl (by decide) rfl (fun ls hl => ?_)
        refine lv_lload_n hx hb dX3_painted_110 rfl (lv_at hl 3 rfl) ?_
        refine lv_iload_n hx hb dX3_painted_111 rfl (lv_at hl 2 rfl) ?_
        refine lv_iconst (v := nI (2)) hx hb dX3_painted_112 (by decide) ?_
        refine lv_icmp_ne (tgt := 122) hx hb dX3_painted_113 (by decide) (fun c_7 => ?_) (fun c_7 => absurd c_7 (by decide))
        refine lv_iload hx hb dX3_painted_122 (lv_at hl 0 rfl) ?_
        refine lv_iload_n hx hb dX3_painted_124 rfl (lv_at hl 2 rfl) ?_
        refine lv_icmp_le (tgt := 132) hx hb dX3_painted_125 (by decide) (fun c_8 => ?_) (fun c_8 => ?_)
        · skip
          have c_8 : hmC w1 (n) (m2) ≤ 1 := (nI_leI (a := hmC w1 (n) (m2)) (b := 1) (by omega) (by omega)).mp c_8
          refine lv_lconst (v := lI 0) hx hb dX3_painted_132 (by decide) ?_
          refine lv_ladd hx hb dX3_painted_133 ?_
          refine rt_l (y := (lI ((s2) + (0)))) (lI_add (s2) (0)) ?_
          refine lv_lstore_n (lv' := [(2, .long (lI ((s2) + (0)))), (6, .int (nI (hmC w1 (n) (m2)))), (0, .ref (b 0)), (1, .int (nI (1))), (4, .int (nI (n))), (5, .int (nI (m2)))]) hx hb dX3_painted_134 rfl hl (by decide) rfl (fun ls hl => ?_)
          refine lv_iinc (v := nI (m2 + 1)) (lv' := [(5, .int (nI (m2 + 1))), (2, .long (lI ((s2) + (0)))), (6, .int (nI (hmC w1 (n) (m2)))), (0, .ref (b 0)), (1, .int (nI (1))), (4, .int (nI (n)))]) hx hb dX3_painted_135 hl (k := 5) rfl (nI_1 (m2)) (by decide) rfl (fun ls hl => ?_)
          refine lv_goto (tgt := 93) hx hb dX3_painted_138 (by decide) ?_
          exact ih_k2 (k2 - 1) (m2 + 1, (s2) + (0)) ls _ _ (by omega) ⟨by omega, by rw [hi2, smZ_s (by omega)]; simp [c_4, c_6, c_8]; try omega⟩ (lv_sub hl [3, 4, 1, 5, 0] rfl) hP hD hS
        · skip
          have c_8 : ¬ (hmC w1 (n) (m2) ≤ 1) := fun hq9 => c_8 ((nI_leI (a := hmC w1 (n) (m2)) (b := 1) (by omega) (by omega)).mpr hq9)
          refine lv_lconst (v := lI 1) hx hb dX3_painted_128 (by decide) ?_
          refine lv_goto (tgt := 133) hx hb dX3_painted_129 (by decide) ?_
          refine lv_ladd hx hb dX3_painted_133 ?_
          refine rt_l (y := (lI ((s2) + (1)))) (lI_add (s2) (1)) ?_
          refine lv_lstore_n (lv' := [(2, .long (lI ((s2) + (1)))), (6, .int (nI (hmC w1 (n) (m2)))), (0, .ref (b 0)), (1, .int (nI (1))), (4, .int (nI (n))), (5, .int (nI (m2)))]) hx hb dX3_painted_134 rfl hl (by decide) rfl (fun ls hl => ?_)
          refine lv_iinc (v := nI (m2 + 1)) (lv' := [(5, .int (nI (m2 + 1))), (2, .long (lI ((s2) + (1)))), (6, .int (nI (hmC w1 (n) (m2)))), (0, .ref (b 0)), (1, .int (nI (1))), (4, .int (nI (n)))]) hx hb dX3_painted_135 hl (k := 5) rfl (nI_1 (m2)) (by decide) rfl (fun ls hl => ?_)
          refine lv_goto (tgt := 93) hx hb dX3_painted_138 (by decide) ?_
          exact ih_k2 (k2 - 1) (m2 + 1, (s2) + (1)) ls _ _ (by omega) ⟨by omega, by rw [hi2, smZ_s (by omega)]; simp [c_4, c_6, c_8]; try omega⟩ (lv_sub hl [3, 4, 1, 5, 0] rfl) hP hD hS
  refine lv_iload hx hb dX3_painted_23 (lv_at hl 0 rfl) ?_
  refine lv_aload_n hx hb dX3_painted_25 rfl (lv_at hl 2 rfl) ?_
  refine va_get (D := (dC, dI)) (ci := 3) (v := .int (nI (mTm w1))) (C := RX3) (T := TX3) (N := 11) hx hb hts (by decide +kernel) hown hK hP 0 rfl rfl 2 (by decide) (hts (.fieldLink RX3 43 "TriangleSheetModel" "came" "I") (by decide +kernel)) (fun _ h9 => h9) rfl dX3_painted_26 ?_
  refine lv_icmp_ge (tgt := 75) hx hb dX3_painted_29 (by decide) (fun c_9 => ?_) (fun c_9 => ?_)
  · skip
    have c_9 : mTm w1 ≤ 0 := (nI_leI (a := mTm w1) (b := 0) (by omega) (by omega)).mp c_9
    exact hj_3
  · skip
    have c_9 : ¬ (mTm w1 ≤ 0) := fun hq9 => c_9 ((nI_leI (a := mTm w1) (b := 0) (by omega) (by omega)).mpr hq9)
    refine lv_iload_n hx hb dX3_painted_32 rfl (lv_at hl 3 rfl) ?_
    refine lv_iconst (v := nI (3)) hx hb dX3_painted_33 (by decide) ?_
    refine lv_icmp_ne (tgt := 75) hx hb dX3_painted_34 (by decide) (fun c_10 => ?_) (fun c_10 => absurd c_10 (by decide))
    exact hj_3
set_option maxHeartbeats 4000000 in
set_option maxRecDepth 100000 in
theorem c_X3_painted_2 (l : Launch) (dC : Nat → ClassId) (dI : Nat → Nat → Nat) (cI cL cZ : ClassId) (b : Nat → Nat) (w : MV)  (hv : okM w) : Met l yX3_painted wsX3_painted ({ frames := 6, cells := 0, slots := 0, locals := 149 }) (va_Pc [.ref (b 0), .int (nI (2))] (wr_B (dC, dI) vwCl (wM cI cZ b w) (tyS cI cL cZ))) (wr_Q (some (.long (lI (mpx (mThx w (nI 0)) 2)))) (dC, dI) vwCl (wM cI cZ b w) (wM cI cZ b (mThx w (nI 0)))) 0 0 (inW (wM cI cZ b w)) := by
  refine wr_Met (cc := cX3_painted) (maxL := 7) (ret := (some .long)) (by decide) rfl (Nat.le_of_ble_eq_true rfl) ?_
  intro pr en s m below meth co ls hx hb hml hr hlocks hown hts hP hK hD hS hl
  have hl : lv_has ls 7 [(0, .ref (b 0)), (1, .int (nI (2)))] := hl
  have hown : s.vm.findClass RX3 = some m.cls := hown
  have hvp : mPn w ≤ 60 ∧ mTm w ≤ 200 ∧ mTn w ≤ 60 := ⟨hv.2.1, hv.2.2.1, hv.2.2.2.1⟩
  refine lv_aload_n hx hb dX3_painted_0 rfl (lv_at hl 0 rfl) ?_
  refine lv_iconst (v := nI (0)) hx hb dX3_painted_1 (by decide) ?_
  refine va_put (D := (dC, dI)) (ci := 3) (v := .int (nI (0))) (ty := .int) (C := RX3) (T := TX3) (N := 11) hx hb hts (by decide +kernel) tyX3 tyX3_ok nmX3 hown hK hP hD hS 0 rfl rfl 0 (by decide) (hts (.fieldLink RX3 33 "TriangleSheetModel" "thrown" "I") (by decide +kernel)) (fun _ h9 => h9) rfl (by decide +kernel) rfl rfl (Nat.le_of_ble_eq_true rfl) dX3_painted_2 (fun H locs hP hD hS => ?_)
  have hP : va_P (dC, dI) vwCl (wM cI cZ b (((w.1.1, w.1.2.1, w.1.2.2), nI (0), mPn w, mTm w, mTn w, mIs w, mFi w, mSe w, mMk w))) H := hP
  have hD : va_D (inW (wM cI cZ b w)) (wM cI cZ b (((w.1.1, w.1.2.1, w.1.2.2), nI (0), mPn w, mTm w, mTn w, mIs w, mFi w, mSe w, mMk w))) := hD
  have hP : va_P (dC, dI) vwCl (wM cI cZ b (mThx w (nI 0))) H := hP
  have hD : va_D (inW (wM cI cZ b w)) (wM cI cZ b (mThx w (nI 0))) := hD
  have hv : okM (mThx w (nI 0)) := hv
  generalize mThx w (nI 0) = w1 at hP hD hv ⊢
  have hvp : mPn w1 ≤ 60 ∧ mTm w1 ≤ 200 ∧ mTn w1 ≤ 60 := ⟨hv.2.1, hv.2.2.1, hv.2.2.2.1⟩
  refine lv_iload_n hx hb dX3_painted_5 rfl (lv_at hl 1 rfl) ?_
  refine lv_if_lt (tgt := 14) hx hb dX3_painted_6 (by decide) (fun c_1 => absurd c_1 (by decide)) (fun c_1 => ?_)
  refine lv_iload_n hx hb dX3_painted_9 rfl (lv_at hl 1 rfl) ?_
  refine lv_iconst (v := nI (3)) hx hb dX3_painted_10 (by decide) ?_
  refine lv_icmp_le (tgt := 18) hx hb dX3_painted_11 (by decide) (fun c_2 => ?_) (fun c_2 => absurd (by decide) c_2)
  refine lv_lconst (v := lI 0) hx hb dX3_painted_18 (by decide) ?_
  refine lv_lstore_n (lv' := [(2, .long (lI (0))), (0, .ref (b 0)), (1, .int (nI (2)))]) hx hb dX3_painted_19 rfl hl (by decide) rfl (fun ls hl => ?_)
  refine lv_iconst (v := nI (0)) hx hb dX3_painted_20 (by decide) ?_
  refine lv_istore (lv' := [(4, .int (nI (0))), (2, .long (lI (0))), (0, .ref (b 0)), (1, .int (nI (2)))]) hx hb dX3_painted_21 hl (by decide) rfl (fun ls hl => ?_)
  have hj_3 : W pr l en ({ frames := 6, cells := 0, slots := 0, locals := 149 }) s m [.ref (b 0), .int (nI (2))].toArray below meth co H locs 0 0 (MQ below (wr_Q (some (.long (lI (mpx (w1) 2)))) (dC, dI) vwCl (wM cI cZ b w) (wM cI cZ b (w1))) [.ref (b 0), .int (nI (2))].toArray s 0 0 (inW (wM cI cZ b w))) (F0 m 75 ls []) := by
    refine lv_iconst (v := nI (0)) hx hb dX3_painted_75 (by decide) ?_
    refine lv_istore (lv' := [(4, .int (nI (0))), (2, .long (lI (0))), (0, .ref (b 0)), (1, .int (nI (2)))]) hx hb dX3_painted_76 hl (by decide) rfl (fun ls hl => ?_)
    refine lpW (σ := Nat × Int) (LV := fun (n, sm) => [(0, .ref (b 0)), (1, .int (nI (2))), (2, .long (lI (sm))), (4, .int (nI (n)))]) (WS := fun (n, sm) => wM cI cZ b w1) (I := fun k (n, sm) => n + k = 32 ∧ mpx w1 2 = sm + smZ (fun i => smZ (fun j => if 2 = 2 then ((hmC w1 i j : Nat) : Int) else if 2 < hmC w1 i j then 1 else 0) 32 0) k n) (fun k (n, sm) ls H locs hI_k hl hP hD hS ih_k => ?_) (32) (0, 0) ls _ _ ⟨by omega, by simp [mpx]⟩ (lv_sub hl [2, 3, 1, 0] rfl) hP hD hS
    obtain ⟨hk, hi⟩ := hI_k
    have hP : va_P (dC, dI) vwCl (wM cI cZ b w1) H := hP
    have hD : va_D (inW (wM cI cZ b w)) (wM cI cZ b w1) := hD
    refine lv_iload hx hb dX3_painted_78 (lv_at hl 3 rfl) ?_
    refine lv_bipush (v := nI (32)) hx hb dX3_painted_80 (by decide) ?_
    refine lv_icmp_ge (tgt := 147) hx hb dX3_painted_82 (by decide) (fun c_4 => ?_) (fun c_4 => ?_)
    · skip
      have c_4 : 32 ≤ n := (nI_leI (a := 32) (b := n) (by omega) (by omega)).mp c_4
      refine lv_lload_n hx hb dX3_painted_147 rfl (lv_at hl 2 rfl) ?_
      exact wr_lret hx hb hr hP hS (congrArg some (congrArg (fun q => Value.long (lI q)) (by rw [hi, show k = 0 by omega]; simp [smZ]))) rfl dX3_painted_148 hlocks
    · skip
      have c_4 : ¬ (32 ≤ n) := fun hq9 => c_4 ((nI_leI (a := 32) (b := n) (by omega) (by omega)).mpr hq9)
      refine lv_iload_n hx hb dX3_painted_85 rfl (lv_at hl 1 rfl) ?_
      refine lv_iconst (v := nI (3)) hx hb dX3_painted_86 (by decide) ?_
      refine lv_icmp_ge (tgt := 147) hx hb dX3_painted_87 (by decide) (fun c_5 => absurd c_5 (by decide)) (fun c_5 => ?_)
      refine lv_iconst (v := nI (0)) hx hb dX3_painted_90 (by decide) ?_
      refine lv_istore (lv' := [(5, .int (nI (0))), (0, .ref (b 0)), (1, .int (nI (2))), (2, .long (lI (sm))), (4, .int (nI (n)))]) hx hb dX3_painted_91 hl (by decide) rfl (fun ls hl => ?_)
      refine lpW (σ := Nat × Int) (LV := fun (m2, s2) => [(0, .ref (b 0)), (1, .int (nI (2))), (2, .long (lI (s2))), (4, .int (nI (n))), (5, .int (nI (m2)))]) (WS := fun (m2, s2) => wM cI cZ b w1) (I := fun k2 (m2, s2) => m2 + k2 = 32 ∧ sm + smZ (fun j => if 2 = 2 then ((hmC w1 n j : Nat) : Int) else if 2 < hmC w1 n j then 1 else 0) 32 0 = s2 + smZ (fun j => if 2 = 2 then ((hmC w1 n j : Nat) : Int) else if 2 < hmC w1 n j then 1 else 0) k2 m2) (fun k2 (m2, s2) ls H locs hI_k2 hl hP hD hS ih_k2 => ?_) (32) (0, sm) ls _ _ ⟨by omega, rfl⟩ (lv_sub hl [1, 2, 3, 4, 0] rfl) hP hD hS
      obtain ⟨hk2, hi2⟩ := hI_k2
      have hP : va_P (dC, dI) vwCl (wM cI cZ b w1) H := hP
      have hD : va_D (inW (wM cI cZ b w)) (wM cI cZ b w1) := hD
      refine lv_iload hx hb dX3_painted_93 (lv_at hl 4 rfl) ?_
      refine lv_bipush (v := nI (32)) hx hb dX3_painted_95 (by decide) ?_
      refine lv_icmp_ge (tgt := 141) hx hb dX3_painted_97 (by decide) (fun c_6 => ?_) (fun c_6 => ?_)
      · skip
        have c_6 : 32 ≤ m2 := (nI_leI (a := 32) (b := m2) (by omega) (by omega)).mp c_6
        refine lv_iinc (v := nI (n + 1)) (lv' := [(4, .int (nI (n + 1))), (0, .ref (b 0)), (1, .int (nI (2))), (2, .long (lI (s2))), (5, .int (nI (m2)))]) hx hb dX3_painted_141 hl (k := 3) rfl (nI_1 (n)) (by decide) rfl (fun ls hl => ?_)
        refine lv_goto (tgt := 78) hx hb dX3_painted_144 (by decide) ?_
        exact ih_k (k - 1) (n + 1, s2) ls _ _ (by omega) ⟨by omega, by rw [hi, smZ_s (by omega)]; rw [show k2 = 0 by omega, smZ_0] at hi2; omega⟩ (lv_sub hl [1, 2, 3, 0] rfl) hP hD hS
      · skip
        have c_6 : ¬ (32 ≤ m2) := fun hq9 => c_6 ((nI_leI (a := 32) (b := m2) (by omega) (by omega)).mpr hq9)
        refine lv_aload_n hx hb dX3_painted_100 rfl (lv_at hl 0 rfl) ?_
        refine lv_iload hx hb dX3_painted_101 (lv_at hl 3 rfl) ?_
        refine lv_iload hx hb dX3_painted_103 (lv_at hl 4 rfl) ?_
        refine ro_V (As := [.int (nI (n)), .int (nI (m2))]) (rest := []) (q0 := 0) (ci := 3) hx hb hml hown hts (c_X3_howMany l dC dI cI cL cZ b w1 n m2 hv (by omega) (by omega)) (cwV 2 hts gX3_painted_X3_howMany rfl rfl rfl (by decide +kernel) ⟨Nat.le_of_ble_eq_true rfl, Nat.le_of_ble_eq_true rfl⟩) hK hP rfl rfl rfl hl.1 rfl (Nat.le_of_ble_eq_true rfl) dX3_painted_105 ⟨Nat.zero_le _, Nat.zero_le _⟩ ?_
        refine rt_i (y := (nI (hmC w1 (n) (m2)))) rfl ?_
        have hle9 := hmC_le (w := w1) (i := n) (j := m2)
        refine lv_istore (lv' := [(6, .int (nI (hmC w1 (n) (m2)))), (0, .ref (b 0)), (1, .int (nI (2))), (2, .long (lI (s2))), (4, .int (nI (n))), (5, .int (nI (m2)))]) hx hb dX3_painted_108 hl (by decide) rfl (fun ls hl => ?_)
        refine lv_lload_n hx hb dX3_painted_110 rfl (lv_at hl 3 rfl) ?_
        refine lv_iload_n hx hb dX3_painted_111 rfl (lv_at hl 2 rfl) ?_
        refine lv_iconst (v := nI (2)) hx hb dX3_painted_112 (by decide) ?_
        refine lv_icmp_ne (tgt := 122) hx hb dX3_painted_113 (by decide) (fun c_7 => absurd (by decide) c_7) (fun c_7 => ?_)
        refine lv_iload hx hb dX3_painted_116 (lv_at hl 0 rfl) ?_
        refine lv_i2l (v := lI (((hmC w1 (n) (m2) : Nat) : Int))) hx hb dX3_painted_118 (nzI_l (by omega)) ?_
        refine lv_goto (tgt := 133) hx hb dX3_painted_119 (by decide) ?_
        refine lv_ladd hx hb dX3_painted_133 ?_
        refine rt_l (y := (lI ((s2) + (((hmC w1 (n) (m2) : Nat) : Int))))) (lI_add (s2) (((hmC w1 (n) (m2) : Nat) : Int))) ?_
        refine lv_lstore_n (lv' := [(2, .long (lI ((s2) + (((hmC w1 (n) (m2) : Nat) : Int))))), (6, .int (nI (hmC w1 (n) (m2)))), (0, .ref (b 0)), (1, .int (nI (2))), (4, .int (nI (n))), (5, .int (nI (m2)))]) hx hb dX3_painted_134 rfl hl (by decide) rfl (fun ls hl => ?_)
        refine lv_iinc (v := nI (m2 + 1)) (lv' := [(5, .int (nI (m2 + 1))), (2, .long (lI ((s2) + (((hmC w1 (n) (m2) : Nat) : Int))))), (6, .int (nI (hmC w1 (n) (m2)))), (0, .ref (b 0)), (1, .int (nI (2))), (4, .int (nI (n)))]) hx hb dX3_painted_135 hl (k := 5) rfl (nI_1 (m2)) (by decide) rfl (fun ls hl => ?_)
        refine lv_goto (tgt := 93) hx hb dX3_painted_138 (by decide) ?_
        exact ih_k2 (k2 - 1) (m2 + 1, (s2) + (((hmC w1 (n) (m2) : Nat) : Int))) ls _ _ (by omega) ⟨by omega, by rw [hi2, smZ_s (by omega)]; simp [c_4, c_6]; try omega⟩ (lv_sub hl [3, 4, 1, 5, 0] rfl) hP hD hS
  refine lv_iload hx hb dX3_painted_23 (lv_at hl 0 rfl) ?_
  refine lv_aload_n hx hb dX3_painted_25 rfl (lv_at hl 2 rfl) ?_
  refine va_get (D := (dC, dI)) (ci := 3) (v := .int (nI (mTm w1))) (C := RX3) (T := TX3) (N := 11) hx hb hts (by decide +kernel) hown hK hP 0 rfl rfl 2 (by decide) (hts (.fieldLink RX3 43 "TriangleSheetModel" "came" "I") (by decide +kernel)) (fun _ h9 => h9) rfl dX3_painted_26 ?_
  refine lv_icmp_ge (tgt := 75) hx hb dX3_painted_29 (by decide) (fun c_8 => ?_) (fun c_8 => ?_)
  · skip
    have c_8 : mTm w1 ≤ 0 := (nI_leI (a := mTm w1) (b := 0) (by omega) (by omega)).mp c_8
    exact hj_3
  · skip
    have c_8 : ¬ (mTm w1 ≤ 0) := fun hq9 => c_8 ((nI_leI (a := mTm w1) (b := 0) (by omega) (by omega)).mpr hq9)
    refine lv_iload_n hx hb dX3_painted_32 rfl (lv_at hl 3 rfl) ?_
    refine lv_iconst (v := nI (3)) hx hb dX3_painted_33 (by decide) ?_
    refine lv_icmp_ne (tgt := 75) hx hb dX3_painted_34 (by decide) (fun c_9 => ?_) (fun c_9 => absurd c_9 (by decide))
    exact hj_3
