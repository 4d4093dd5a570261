set_option maxHeartbeats 4000000 in
set_option maxRecDepth 100000 in
theorem c_X2_renamePiece (l : Launch) (dC : Nat → ClassId) (dI : Nat → Nat → Nat) (cI cL cZ : ClassId) (a : Nat → Nat) (v : SV) (x y : Nat) (hv : okS v) (hx9 : x < 200) (hy9 : y < 200) : Met l yX2_renamePiece wsX2_renamePiece ({ frames := 1, cells := 0, slots := 0, locals := 21 }) (va_Pc [.ref (a 0), .int (nI (x)), .int (nI (y))] (wr_B (dC, dI) vwCl (wS cI cL a v) (tyS cI cL cZ))) (wr_Q none (dC, dI) vwCl (wS cI cL a v) (wS cI cL a (sPiX v (ren (sTh v) x y (sTn v) 0 (sPi v))))) 0 0 (inW (wS cI cL a v)) := by
  refine wr_Met (cc := cX2_renamePiece) (maxL := 5) (ret := none) (by decide) rfl (Nat.le_of_ble_eq_true rfl) ?_
  intro pr en s m below meth co ls hx hb hml hr hlocks hown hts hP hK hD hS hl
  have hl : lv_has ls 5 [(0, .ref (a 0)), (1, .int (nI (x))), (2, .int (nI (y)))] := hl
  have hown : s.vm.findClass RX2 = some m.cls := hown
  have hvp : sPn v ≤ 60 ∧ sTn v ≤ 60 ∧ sTm v ≤ 200 := ⟨hv.2.1, hv.2.2.2.1, hv.2.2.2.2.1⟩
  refine lv_iconst (v := nI (0)) hx hb dX2_renamePiece_0 (by decide) ?_
  refine lv_istore_n (lv' := [(3, .int (nI (0))), (0, .ref (a 0)), (1, .int (nI (x))), (2, .int (nI (y)))]) hx hb dX2_renamePiece_1 rfl hl (by decide) rfl (fun ls hl => ?_)
  refine lpW (σ := Nat × (Nat → Nat)) (LV := fun (n, f) => [(0, .ref (a 0)), (1, .int (nI (x))), (2, .int (nI (y))), (3, .int (nI (n)))]) (WS := fun (n, f) => wS cI cL a (((v.1.1, v.1.2.1, v.1.2.2), sPn v, sTh v, sTn v, sTm v, sJo v, f, sFa v, sFb v))) (I := fun k (n, f) => n + k = sTn v ∧ (∀ j, f j < 200) ∧ ren (sTh v) x y (sTn v) 0 (sPi v) = ren (sTh v) x y k n f) (fun k (n, f) ls H locs hI_k hl hP hD hS ih_k => ?_) (sTn v) (0, sPi v) ls _ _ ⟨by omega, hv.2.2.2.2.2, rfl⟩ (lv_sub hl [1, 2, 3, 0] rfl) hP hD hS
  obtain ⟨hk, hf, hi⟩ := hI_k
  have hP : va_P (dC, dI) vwCl (wS cI cL a (((v.1.1, v.1.2.1, v.1.2.2), sPn v, sTh v, sTn v, sTm v, sJo v, f, sFa v, sFb v))) H := hP
  have hD : va_D (inW (wS cI cL a v)) (wS cI cL a (((v.1.1, v.1.2.1, v.1.2.2), sPn v, sTh v, sTn v, sTm v, sJo v, f, sFa v, sFb v))) := hD
  have hfn := hf (sTh v n)
  have hth := hv.2.2.1 n
  refine lv_iload_n hx hb dX2_renamePiece_2 rfl (lv_at hl 3 rfl) ?_
  refine lv_aload_n hx hb dX2_renamePiece_3 rfl (lv_at hl 0 rfl) ?_
  refine va_get (D := (dC, dI)) (ci := 2) (v := .ref (a 4)) (C := RX2) (T := TX2) (N := 6) hx hb hts (by decide +kernel) hown hK hP 0 rfl rfl 1 (by decide) (hts (.fieldLink RX2 19 "TriangleSheet" "triangles" "LTriangleSheet$Triangles;") (by decide +kernel)) (fun _ h9 => h9) rfl dX2_renamePiece_4 ?_
  refine ro_V (As := []) (rest := [.int (nI (n))]) (q0 := 4) (ci := 1) hx hb hml hown hts (c_X1_thereCount l dC dI cI cL cZ a (((v.1.1, v.1.2.1, v.1.2.2), sPn v, sTh v, sTn v, sTm v, sJo v, f, sFa v, sFb v))  ) (cwV 0 hts gX2_renamePiece_X1_thereCount rfl rfl rfl (by decide +kernel) ⟨Nat.le_of_ble_eq_true rfl, Nat.le_of_ble_eq_true rfl⟩) hK hP rfl rfl rfl hl.1 rfl (Nat.le_of_ble_eq_true rfl) dX2_renamePiece_7 ⟨Nat.zero_le _, Nat.zero_le _⟩ ?_
  refine W.eq (g2 := F0 m 10 ls [.int (nI (sTn v)), .int (nI (n))]) rfl ?_
  refine lv_icmp_ge (tgt := 48) hx hb dX2_renamePiece_10 (by decide) (fun c_1 => ?_) (fun c_1 => ?_)
  · skip
    have c_1 : sTn v ≤ n := (nI_leI (a := sTn v) (b := n) (by omega) (by omega)).mp c_1
    exact wr_vret hx hb hr hP hS rfl (congrArg (wS cI cL a) (by show sPiX v f = _; rw [hi, show k = 0 by omega]; rfl)) dX2_renamePiece_48 hlocks
  · skip
    have c_1 : ¬ (sTn v ≤ n) := fun hq9 => c_1 ((nI_leI (a := sTn v) (b := n) (by omega) (by omega)).mpr hq9)
    refine lv_aload_n hx hb dX2_renamePiece_13 rfl (lv_at hl 0 rfl) ?_
    refine va_get (D := (dC, dI)) (ci := 2) (v := .ref (a 4)) (C := RX2) (T := TX2) (N := 6) hx hb hts (by decide +kernel) hown hK hP 0 rfl rfl 1 (by decide) (hts (.fieldLink RX2 19 "TriangleSheet" "triangles" "LTriangleSheet$Triangles;") (by decide +kernel)) (fun _ h9 => h9) rfl dX2_renamePiece_14 ?_
    refine lv_iload_n hx hb dX2_renamePiece_17 rfl (lv_at hl 3 rfl) ?_
    refine ro_V (As := [.int (nI (n))]) (rest := []) (q0 := 4) (ci := 1) hx hb hml hown hts (c_X1_numberAt l dC dI cI cL cZ a (((v.1.1, v.1.2.1, v.1.2.2), sPn v, sTh v, sTn v, sTm v, sJo v, f, sFa v, sFb v)) n (by omega)) (cwV 1 hts gX2_renamePiece_X1_numberAt rfl rfl rfl (by decide +kernel) ⟨Nat.le_of_ble_eq_true rfl, Nat.le_of_ble_eq_true rfl⟩) hK hP rfl rfl rfl hl.1 rfl (Nat.le_of_ble_eq_true rfl) dX2_renamePiece_18 ⟨Nat.zero_le _, Nat.zero_le _⟩ ?_
    refine W.eq (g2 := F0 m 21 ls [.int (nI (sTh v n))]) rfl ?_
    refine lv_istore (lv' := [(4, .int (nI (sTh v n))), (0, .ref (a 0)), (1, .int (nI (x))), (2, .int (nI (y))), (3, .int (nI (n)))]) hx hb dX2_renamePiece_21 hl (by decide) rfl (fun ls hl => ?_)
    refine lv_aload_n hx hb dX2_renamePiece_23 rfl (lv_at hl 1 rfl) ?_
    refine va_get (D := (dC, dI)) (ci := 2) (v := .ref (a 8)) (C := RX2) (T := TX2) (N := 6) hx hb hts (by decide +kernel) hown hK hP 0 rfl rfl 3 (by decide) (hts (.fieldLink RX2 27 "TriangleSheet" "pieceOf" "[I") (by decide +kernel)) (fun _ h9 => h9) rfl dX2_renamePiece_24 ?_
    refine lv_iload hx hb dX2_renamePiece_27 (lv_at hl 0 rfl) ?_
    refine ia_ld (k := sTh v n) hx hb hK hP 8 0 rfl rfl (by omega) (by decide) dX2_renamePiece_29 ?_
    refine W.eq (g2 := F0 m 30 ls [.int (nI (f (sTh v n)))]) rfl ?_
    refine lv_iload_n hx hb dX2_renamePiece_30 rfl (lv_at hl 2 rfl) ?_
    refine lv_icmp_ne (tgt := 42) hx hb dX2_renamePiece_31 (by decide) (fun c_2 => ?_) (fun c_2 => ?_)
    · skip
      have c_2 : ¬ (f (sTh v n) = x) := fun hq9 => c_2 ((nI_eq (a := f (sTh v n)) (b := x) (by omega) (by omega)).mpr hq9)
      refine lv_iinc (v := nI (n + 1)) (lv' := [(3, .int (nI (n + 1))), (4, .int (nI (sTh v n))), (0, .ref (a 0)), (1, .int (nI (x))), (2, .int (nI (y)))]) hx hb dX2_renamePiece_42 hl (k := 4) rfl (nI_1 (n)) (by decide) rfl (fun ls hl => ?_)
      refine lv_goto (tgt := 2) hx hb dX2_renamePiece_45 (by decide) ?_
      exact ih_k (k - 1) (n + 1, f) ls _ _ (by omega) ⟨by omega, (by first | exact hf | exact up_lt hf hy9), hi.trans (by first | exact ren_t (by omega) (by assumption) | exact ren_f (by omega) (by assumption))⟩ (lv_sub hl [2, 3, 4, 0] rfl) hP hD hS
    · skip
      have c_2 : f (sTh v n) = x := (nI_eq (a := f (sTh v n)) (b := x) (by omega) (by omega)).mp c_2
      refine lv_aload_n hx hb dX2_renamePiece_34 rfl (lv_at hl 1 rfl) ?_
      refine va_get (D := (dC, dI)) (ci := 2) (v := .ref (a 8)) (C := RX2) (T := TX2) (N := 6) hx hb hts (by decide +kernel) hown hK hP 0 rfl rfl 3 (by decide) (hts (.fieldLink RX2 27 "TriangleSheet" "pieceOf" "[I") (by decide +kernel)) (fun _ h9 => h9) rfl dX2_renamePiece_35 ?_
      refine lv_iload hx hb dX2_renamePiece_38 (lv_at hl 0 rfl) ?_
      refine lv_iload_n hx hb dX2_renamePiece_40 rfl (lv_at hl 3 rfl) ?_
      refine ia_st (k := sTh v n) hx hb hK hP hD hS 8 0 rfl rfl (by omega) (by decide) (upd_n (f) (sTh v n) (y)) dX2_renamePiece_41 (fun H locs hP hD hS => ?_)
      have hP : va_P (dC, dI) vwCl (wS cI cL a (((v.1.1, v.1.2.1, v.1.2.2), sPn v, sTh v, sTn v, sTm v, sJo v, va_up f (sTh v n) (y), sFa v, sFb v))) H := hP
      have hD : va_D (inW (wS cI cL a v)) (wS cI cL a (((v.1.1, v.1.2.1, v.1.2.2), sPn v, sTh v, sTn v, sTm v, sJo v, va_up f (sTh v n) (y), sFa v, sFb v))) := hD
      refine lv_iinc (v := nI (n + 1)) (lv' := [(3, .int (nI (n + 1))), (4, .int (nI (sTh v n))), (0, .ref (a 0)), (1, .int (nI (x))), (2, .int (nI (y)))]) hx hb dX2_renamePiece_42 hl (k := 4) rfl (nI_1 (n)) (by decide) rfl (fun ls hl => ?_)
      refine lv_goto (tgt := 2) hx hb dX2_renamePiece_45 (by decide) ?_
      exact ih_k (k - 1) (n + 1, va_up f (sTh v n) (y)) ls _ _ (by omega) ⟨by omega, (by first | exact hf | exact up_lt hf hy9), hi.trans (by first | exact ren_t (by omega) (by assumption) | exact ren_f (by omega) (by assumption))⟩ (lv_sub hl [2, 3, 4, 0] rfl) hP hD hS
set_option maxHeartbeats 4000000 in
set_option maxRecDepth 100000 in
theorem c_X2_countPieces (l : Launch) (dC : Nat → ClassId) (dI : Nat → Nat → Nat) (cI cL cZ : ClassId) (a : Nat → Nat) (v : SV)  (hv : okS v) : Met l yX2_countPieces wsX2_countPieces ({ frames := 2, cells := 0, slots := 0, locals := 51 }) (va_Pc [.ref (a 0)] (wr_B (dC, dI) vwCl (wS cI cL a v) (tyS cI cL cZ))) (wr_Q (some (.int (iI ((pcs v).2)))) (dC, dI) vwCl (wS cI cL a v) (wS cI cL a (sPiX v (pcs v).1))) 0 0 (inW (wS cI cL a v)) := by
  refine wr_Met (cc := cX2_countPieces) (maxL := 6) (ret := (some .int)) (by decide) rfl (Nat.le_of_ble_eq_true rfl) ?_
  intro pr en s m below meth co ls hx hb hml hr hlocks hown hts hP hK hD hS hl
  have hl : lv_has ls 6 [(0, .ref (a 0))] := hl
  have hown : s.vm.findClass RX2 = some m.cls := hown
  have hvp : sPn v ≤ 60 ∧ sTn v ≤ 60 ∧ sTm v ≤ 200 := ⟨hv.2.1, hv.2.2.2.1, hv.2.2.2.2.1⟩
  refine lv_iconst (v := nI (0)) hx hb dX2_countPieces_0 (by decide) ?_
  refine lv_istore_n (lv' := [(1, .int (nI (0))), (0, .ref (a 0))]) hx hb dX2_countPieces_1 rfl hl (by decide) rfl (fun ls hl => ?_)
  refine lpW (σ := Nat × (Nat → Nat)) (LV := fun (n, f) => [(0, .ref (a 0)), (1, .int (nI (n)))]) (WS := fun (n, f) => wS cI cL a (((v.1.1, v.1.2.1, v.1.2.2), sPn v, sTh v, sTn v, sTm v, sJo v, f, sFa v, sFb v))) (I := fun k (n, f) => n + k = sTn v ∧ (∀ j, f j < 200) ∧ ini (sTh v) (sTn v) 0 (sPi v) = ini (sTh v) k n f) (fun k (n, f) ls H locs hI_k hl hP hD hS ih_k => ?_) (sTn v) (0, sPi v) ls _ _ ⟨by omega, hv.2.2.2.2.2, rfl⟩ (lv_sub hl [1, 0] rfl) hP hD hS
  obtain ⟨hk, hf, hi⟩ := hI_k
  have hP : va_P (dC, dI) vwCl (wS cI cL a (((v.1.1, v.1.2.1, v.1.2.2), sPn v, sTh v, sTn v, sTm v, sJo v, f, sFa v, sFb v))) H := hP
  have hD : va_D (inW (wS cI cL a v)) (wS cI cL a (((v.1.1, v.1.2.1, v.1.2.2), sPn v, sTh v, sTn v, sTm v, sJo v, f, sFa v, sFb v))) := hD
  have hth := hv.2.2.1 n
  refine lv_iload_n hx hb dX2_countPieces_2 rfl (lv_at hl 1 rfl) ?_
  refine lv_aload_n hx hb dX2_countPieces_3 rfl (lv_at hl 0 rfl) ?_
  refine va_get (D := (dC, dI)) (ci := 2) (v := .ref (a 4)) (C := RX2) (T := TX2) (N := 6) hx hb hts (by decide +kernel) hown hK hP 0 rfl rfl 1 (by decide) (hts (.fieldLink RX2 19 "TriangleSheet" "triangles" "LTriangleSheet$Triangles;") (by decide +kernel)) (fun _ h9 => h9) rfl dX2_countPieces_4 ?_
  refine ro_V (As := []) (rest := [.int (nI (n))]) (q0 := 4) (ci := 1) hx hb hml hown hts (c_X1_thereCount l dC dI cI cL cZ a (((v.1.1, v.1.2.1, v.1.2.2), sPn v, sTh v, sTn v, sTm v, sJo v, f, sFa v, sFb v))  ) (cwV 0 hts gX2_countPieces_X1_thereCount rfl rfl rfl (by decide +kernel) ⟨Nat.le_of_ble_eq_true rfl, Nat.le_of_ble_eq_true rfl⟩) hK hP rfl rfl rfl hl.1 rfl (Nat.le_of_ble_eq_true rfl) dX2_countPieces_7 ⟨Nat.zero_le _, Nat.zero_le _⟩ ?_
  refine W.eq (g2 := F0 m 10 ls [.int (nI (sTn v)), .int (nI (n))]) rfl ?_
  refine lv_icmp_ge (tgt := 35) hx hb dX2_countPieces_10 (by decide) (fun c_1 => ?_) (fun c_1 => ?_)
  · skip
    have c_1 : sTn v ≤ n := (nI_leI (a := sTn v) (b := n) (by omega) (by omega)).mp c_1
    have ef : ini (sTh v) (sTn v) 0 (sPi v) = f := hi.trans (by rw [show k = 0 by omega]; rfl)
    have hf0 : ∀ j, ini (sTh v) (sTn v) 0 (sPi v) j < 200 := by { rw [ef]; exact hf }
    rw [← ef] at hP hD
    refine lv_aload_n hx hb dX2_countPieces_35 rfl (lv_at hl 0 rfl) ?_
    refine va_get (D := (dC, dI)) (ci := 2) (v := .ref (a 4)) (C := RX2) (T := TX2) (N := 6) hx hb hts (by decide +kernel) hown hK hP 0 rfl rfl 1 (by decide) (hts (.fieldLink RX2 19 "TriangleSheet" "triangles" "LTriangleSheet$Triangles;") (by decide +kernel)) (fun _ h9 => h9) rfl dX2_countPieces_36 ?_
    refine ro_V (As := []) (rest := []) (q0 := 4) (ci := 1) hx hb hml hown hts (c_X1_thereCount l dC dI cI cL cZ a (((v.1.1, v.1.2.1, v.1.2.2), sPn v, sTh v, sTn v, sTm v, sJo v, (ini (sTh v) (sTn v) 0 (sPi v)), sFa v, sFb v))  ) (cwV 0 hts gX2_countPieces_X1_thereCount rfl rfl rfl (by decide +kernel) ⟨Nat.le_of_ble_eq_true rfl, Nat.le_of_ble_eq_true rfl⟩) hK hP rfl rfl rfl hl.1 rfl (Nat.le_of_ble_eq_true rfl) dX2_countPieces_39 ⟨Nat.zero_le _, Nat.zero_le _⟩ ?_
    refine W.eq (g2 := F0 m 42 ls [.int (nI (sTn v))]) rfl ?_
    refine rt_i (nI_z (sTn v)) ?_
    refine lv_istore_n (lv' := [(1, .int (iI ((sTn v : Int)))), (0, .ref (a 0))]) hx hb dX2_countPieces_42 rfl hl (by decide) rfl (fun ls hl => ?_)
    refine lv_iconst (v := nI (0)) hx hb dX2_countPieces_43 (by decide) ?_
    refine lv_istore_n (lv' := [(2, .int (nI (0))), (1, .int (iI ((sTn v : Int)))), (0, .ref (a 0))]) hx hb dX2_countPieces_44 rfl hl (by decide) rfl (fun ls hl => ?_)
    refine lpW (σ := Nat × (Nat → Nat) × Int) (LV := fun (n, f, c) => [(0, .ref (a 0)), (1, .int (iI (c))), (2, .int (nI (n)))]) (WS := fun (n, f, c) => wS cI cL a (((v.1.1, v.1.2.1, v.1.2.2), sPn v, sTh v, sTn v, sTm v, sJo v, f, sFa v, sFb v))) (I := fun k3 (n, f, c) => n + k3 = sTn v ∧ (∀ j, f j < 200) ∧ pcs v = pkt v.1 (sTh v) (sTn v) k3 n f c) (fun k3 (n, f, c) ls H locs hI_k3 hl hP hD hS ih_k3 => ?_) (sTn v) (0, ini (sTh v) (sTn v) 0 (sPi v), (sTn v : Int)) ls _ _ ⟨by omega, hf0, rfl⟩ (lv_sub hl [2, 1, 0] rfl) hP hD hS
    obtain ⟨hk3, hf, hi3⟩ := hI_k3
    have hP : va_P (dC, dI) vwCl (wS cI cL a (((v.1.1, v.1.2.1, v.1.2.2), sPn v, sTh v, sTn v, sTm v, sJo v, f, sFa v, sFb v))) H := hP
    have hD : va_D (inW (wS cI cL a v)) (wS cI cL a (((v.1.1, v.1.2.1, v.1.2.2), sPn v, sTh v, sTn v, sTm v, sJo v, f, sFa v, sFb v))) := hD
    refine lv_iload_n hx hb dX2_countPieces_45 rfl (lv_at hl 2 rfl) ?_
    refine lv_aload_n hx hb dX2_countPieces_46 rfl (lv_at hl 0 rfl) ?_
    refine va_get (D := (dC, dI)) (ci := 2) (v := .ref (a 4)) (C := RX2) (T := TX2) (N := 6) hx hb hts (by decide +kernel) hown hK hP 0 rfl rfl 1 (by decide) (hts (.fieldLink RX2 19 "TriangleSheet" "triangles" "LTriangleSheet$Triangles;") (by decide +kernel)) (fun _ h9 => h9) rfl dX2_countPieces_47 ?_
    refine ro_V (As := []) (rest := [.int (nI (n))]) (q0 := 4) (ci := 1) hx hb hml hown hts (c_X1_thereCount l dC dI cI cL cZ a (((v.1.1, v.1.2.1, v.1.2.2), sPn v, sTh v, sTn v, sTm v, sJo v, f, sFa v, sFb v))  ) (cwV 0 hts gX2_countPieces_X1_thereCount rfl rfl rfl (by decide +kernel) ⟨Nat.le_of_ble_eq_true rfl, Nat.le_of_ble_eq_true rfl⟩) hK hP rfl rfl rfl hl.1 rfl (Nat.le_of_ble_eq_true rfl) dX2_countPieces_50 ⟨Nat.zero_le _, Nat.zero_le _⟩ ?_
    refine W.eq (g2 := F0 m 53 ls [.int (nI (sTn v)), .int (nI (n))]) rfl ?_
    refine lv_icmp_ge (tgt := 140) hx hb dX2_countPieces_53 (by decide) (fun c_2 => ?_) (fun c_2 => ?_)
    · skip
      have c_2 : sTn v ≤ n := (nI_leI (a := sTn v) (b := n) (by omega) (by omega)).mp c_2
      refine lv_iload_n hx hb dX2_countPieces_140 rfl (lv_at hl 1 rfl) ?_
      exact wr_iret hx hb hr hP hS (congrArg some (rz (by rw [hi3, show k3 = 0 by omega]; rfl))) (congrArg (wS cI cL a) (by show sPiX v f = _; rw [hi3, show k3 = 0 by omega]; rfl)) dX2_countPieces_141 hlocks
    · skip
      have c_2 : ¬ (sTn v ≤ n) := fun hq9 => c_2 ((nI_leI (a := sTn v) (b := n) (by omega) (by omega)).mpr hq9)
      refine lv_aload_n hx hb dX2_countPieces_56 rfl (lv_at hl 0 rfl) ?_
      refine va_get (D := (dC, dI)) (ci := 2) (v := .ref (a 4)) (C := RX2) (T := TX2) (N := 6) hx hb hts (by decide +kernel) hown hK hP 0 rfl rfl 1 (by decide) (hts (.fieldLink RX2 19 "TriangleSheet" "triangles" "LTriangleSheet$Triangles;") (by decide +kernel)) (fun _ h9 => h9) rfl dX2_countPieces_57 ?_
      refine lv_iload_n hx hb dX2_countPieces_60 rfl (lv_at hl 2 rfl) ?_
      refine ro_V (As := [.int (nI (n))]) (rest := []) (q0 := 4) (ci := 1) hx hb hml hown hts (c_X1_numberAt l dC dI cI cL cZ a (((v.1.1, v.1.2.1, v.1.2.2), sPn v, sTh v, sTn v, sTm v, sJo v, f, sFa v, sFb v)) n (by omega)) (cwV 1 hts gX2_countPieces_X1_numberAt rfl rfl rfl (by decide +kernel) ⟨Nat.le_of_ble_eq_true rfl, Nat.le_of_ble_eq_true rfl⟩) hK hP rfl rfl rfl hl.1 rfl (Nat.le_of_ble_eq_true rfl) dX2_countPieces_61 ⟨Nat.zero_le _, Nat.zero_le _⟩ ?_
      refine W.eq (g2 := F0 m 64 ls [.int (nI (sTh v n))]) rfl ?_
      refine lv_istore_n (lv' := [(3, .int (nI (sTh v n))), (0, .ref (a 0)), (1, .int (iI (c))), (2, .int (nI (n)))]) hx hb dX2_countPieces_64 rfl hl (by decide) rfl (fun ls hl => ?_)
      refine lv_iconst (v := nI (0)) hx hb dX2_countPieces_65 (by decide) ?_
      refine lv_istore (lv' := [(4, .int (nI (0))), (3, .int (nI (sTh v n))), (0, .ref (a 0)), (1, .int (iI (c))), (2, .int (nI (n)))]) hx hb dX2_countPieces_66 hl (by decide) rfl (fun ls hl => ?_)
      refine lpW (σ := Nat × (Nat → Nat) × Int) (LV := fun (m2, f2, c2) => [(0, .ref (a 0)), (1, .int (iI (c2))), (2, .int (nI (n))), (3, .int (nI (sTh v n))), (4, .int (nI (m2)))]) (WS := fun (m2, f2, c2) => wS cI cL a (((v.1.1, v.1.2.1, v.1.2.2), sPn v, sTh v, sTn v, sTm v, sJo v, f2, sFa v, sFb v))) (I := fun k4 (m2, f2, c2) => m2 + k4 = 3 ∧ (∀ j, f2 j < 200) ∧ pkk v.1 (sTh v) (sTn v) (sTh v n) 3 0 f c = pkk v.1 (sTh v) (sTn v) (sTh v n) k4 m2 f2 c2) (fun k4 (m2, f2, c2) ls H locs hI_k4 hl hP hD hS ih_k4 => ?_) (3) (0, f, c) ls _ _ ⟨by omega, hf, rfl⟩ (lv_sub hl [2, 3, 4, 1, 0] rfl) hP hD hS
      obtain ⟨hk4, hf2, hi4⟩ := hI_k4
      have hP : va_P (dC, dI) vwCl (wS cI cL a (((v.1.1, v.1.2.1, v.1.2.2), sPn v, sTh v, sTn v, sTm v, sJo v, f2, sFa v, sFb v))) H := hP
      have hD : va_D (inW (wS cI cL a v)) (wS cI cL a (((v.1.1, v.1.2.1, v.1.2.2), sPn v, sTh v, sTn v, sTm v, sJo v, f2, sFa v, sFb v))) := hD
      have hth := hv.2.2.1 n
      have hf2t := hf2 (sTh v n)
      refine lv_iload hx hb dX2_countPieces_68 (lv_at hl 4 rfl) ?_
      refine lv_iconst (v := nI (3)) hx hb dX2_countPieces_70 (by decide) ?_
      refine lv_icmp_ge (tgt := 134) hx hb dX2_countPieces_71 (by decide) (fun c_3 => ?_) (fun c_3 => ?_)
      · skip
        have c_3 : 3 ≤ m2 := (nI_leI (a := 3) (b := m2) (by omega) (by omega)).mp c_3
        refine lv_iinc (v := nI (n + 1)) (lv' := [(2, .int (nI (n + 1))), (0, .ref (a 0)), (1, .int (iI (c2))), (3, .int (nI (sTh v n))), (4, .int (nI (m2)))]) hx hb dX2_countPieces_134 hl (k := 2) rfl (nI_1 (n)) (by decide) rfl (fun ls hl => ?_)
        refine lv_goto (tgt := 45) hx hb dX2_countPieces_137 (by decide) ?_
        exact ih_k3 (k3 - 1) (n + 1, f2, c2) ls _ _ (by omega) ⟨by omega, hf2, hi3.trans (pkt_s (by omega) (by rw [hi4, show k4 = 0 by omega]; rfl))⟩ (lv_sub hl [1, 2, 0] rfl) hP hD hS
      · skip
        have c_3 : ¬ (3 ≤ m2) := fun hq9 => c_3 ((nI_leI (a := 3) (b := m2) (by omega) (by omega)).mpr hq9)
        refine lv_aload_n hx hb dX2_countPieces_74 rfl (lv_at hl 0 rfl) ?_
        refine va_get (D := (dC, dI)) (ci := 2) (v := .ref (a 4)) (C := RX2) (T := TX2) (N := 6) hx hb hts (by decide +kernel) hown hK hP 0 rfl rfl 1 (by decide) (hts (.fieldLink RX2 19 "TriangleSheet" "triangles" "LTriangleSheet$Triangles;") (by decide +kernel)) (fun _ h9 => h9) rfl dX2_countPieces_75 ?_
        refine lv_iload_n hx hb dX2_countPieces_78 rfl (lv_at hl 3 rfl) ?_
        refine lv_iload hx hb dX2_countPieces_79 (lv_at hl 4 rfl) ?_
        refine ro_V (As := [.int (nI (sTh v n)), .int (nI (m2))]) (rest := []) (q0 := 4) (ci := 1) hx hb hml hown hts (c_X1_neighbour l dC dI cI cL cZ a (((v.1.1, v.1.2.1, v.1.2.2), sPn v, sTh v, sTn v, sTm v, sJo v, f2, sFa v, sFb v)) (sTh v n) m2 (⟨hv.1, hv.2.1, hv.2.2.1, hv.2.2.2.1, hv.2.2.2.2.1, hf2⟩) (hv.2.2.1 _) (by omega)) (cwV 2 hts gX2_countPieces_X1_neighbour rfl rfl rfl (by decide +kernel) ⟨Nat.le_of_ble_eq_true rfl, Nat.le_of_ble_eq_true rfl⟩) hK hP rfl rfl rfl hl.1 rfl (Nat.le_of_ble_eq_true rfl) dX2_countPieces_81 ⟨Nat.zero_le _, Nat.zero_le _⟩ ?_
        have ps_4 : ∀ k, nbr v.1 (sTh v) (sTn v) (sTh v n) m2 = some k → k < 2 ^ 31 := fun k h => by have := nbr_lt hv h; omega
        refine W.eq (g2 := F0 m 84 ls [.int (oI (nbr v.1 (sTh v) (sTn v) (sTh v n) m2))]) rfl ?_
        refine ocase (x := nbr v.1 (sTh v) (sTn v) (sTh v n) m2) (fun ho_u => ?_) (fun u ho_u => ?_)
        · skip
          refine lv_istore (lv' := [(5, .int (iI (-1))), (0, .ref (a 0)), (1, .int (iI (c2))), (2, .int (nI (n))), (3, .int (nI (sTh v n))), (4, .int (nI (m2)))]) hx hb dX2_countPieces_84 hl (by decide) rfl (fun ls hl => ?_)
          refine lv_iload hx hb dX2_countPieces_86 (lv_at hl 0 rfl) ?_
          refine lv_iconst (v := iI (-1)) hx hb dX2_countPieces_88 (by decide) ?_
          refine lv_icmp_eq (tgt := 128) hx hb dX2_countPieces_89 (by decide) (fun c_5 => ?_) (fun c_5 => absurd rfl c_5)
          refine lv_iinc (v := nI (m2 + 1)) (lv' := [(4, .int (nI (m2 + 1))), (5, .int (iI (-1))), (0, .ref (a 0)), (1, .int (iI (c2))), (2, .int (nI (n))), (3, .int (nI (sTh v n)))]) hx hb dX2_countPieces_128 hl (k := 5) rfl (nI_1 (m2)) (by decide) rfl (fun ls hl => ?_)
          refine lv_goto (tgt := 68) hx hb dX2_countPieces_131 (by decide) ?_
          exact ih_k4 (k4 - 1) (m2 + 1, f2, c2) ls _ _ (by omega) ⟨by omega, (by first | exact hf2 | exact ren_lt (hf2 _) hf2), hi4.trans (pkk_s (by omega) (by rw [pk1, ho_u] <;> first | rfl | (simp only; first | rw [if_pos (by assumption)] | rw [if_neg (by assumption)])))⟩ (lv_sub hl [2, 3, 4, 5, 0] rfl) hP hD hS
        · skip
          have hu9 := nbr_lt hv ho_u
          have hfu := hf2 u
          refine lv_istore (lv' := [(5, .int (nI (u))), (0, .ref (a 0)), (1, .int (iI (c2))), (2, .int (nI (n))), (3, .int (nI (sTh v n))), (4, .int (nI (m2)))]) hx hb dX2_countPieces_84 hl (by decide) rfl (fun ls hl => ?_)
          refine lv_iload hx hb dX2_countPieces_86 (lv_at hl 0 rfl) ?_
          refine lv_iconst (v := iI (-1)) hx hb dX2_countPieces_88 (by decide) ?_
          refine lv_icmp_eq (tgt := 128) hx hb dX2_countPieces_89 (by decide) (fun c_6 => absurd c_6 (ne_m1 (by omega))) (fun c_6 => ?_)
          refine lv_aload_n hx hb dX2_countPieces_92 rfl (lv_at hl 1 rfl) ?_
          refine va_get (D := (dC, dI)) (ci := 2) (v := .ref (a 8)) (C := RX2) (T := TX2) (N := 6) hx hb hts (by decide +kernel) hown hK hP 0 rfl rfl 3 (by decide) (hts (.fieldLink RX2 27 "TriangleSheet" "pieceOf" "[I") (by decide +kernel)) (fun _ h9 => h9) rfl dX2_countPieces_93 ?_
          refine lv_iload hx hb dX2_countPieces_96 (lv_at hl 0 rfl) ?_
          refine ia_ld (k := u) hx hb hK hP 8 0 rfl rfl (by omega) (by decide) dX2_countPieces_98 ?_
          refine W.eq (g2 := F0 m 99 ls [.int (nI (f2 (u)))]) rfl ?_
          refine lv_aload_n hx hb dX2_countPieces_99 rfl (lv_at hl 1 rfl) ?_
          refine va_get (D := (dC, dI)) (ci := 2) (v := .ref (a 8)) (C := RX2) (T := TX2) (N := 6) hx hb hts (by decide +kernel) hown hK hP 0 rfl rfl 3 (by decide) (hts (.fieldLink RX2 27 "TriangleSheet" "pieceOf" "[I") (by decide +kernel)) (fun _ h9 => h9) rfl dX2_countPieces_100 ?_
          refine lv_iload_n hx hb dX2_countPieces_103 rfl (lv_at hl 4 rfl) ?_
          refine ia_ld (k := sTh v n) hx hb hK hP 8 0 rfl rfl (by omega) (by decide) dX2_countPieces_104 ?_
          refine W.eq (g2 := F0 m 105 ls [.int (nI (f2 (sTh v n))), .int (nI (f2 (u)))]) rfl ?_
          refine lv_icmp_eq (tgt := 128) hx hb dX2_countPieces_105 (by decide) (fun c_7 => ?_) (fun c_7 => ?_)
          · skip
            have c_7 : f2 (u) = f2 (sTh v n) := (nI_eq (a := f2 (u)) (b := f2 (sTh v n)) (by omega) (by omega)).mp c_7
            refine lv_iinc (v := nI (m2 + 1)) (lv' := [(4, .int (nI (m2 + 1))), (5, .int (nI (u))), (0, .ref (a 0)), (1, .int (iI (c2))), (2, .int (nI (n))), (3, .int (nI (sTh v n)))]) hx hb dX2_countPieces_128 hl (k := 5) rfl (nI_1 (m2)) (by decide) rfl (fun ls hl => ?_)
            refine lv_goto (tgt := 68) hx hb dX2_countPieces_131 (by decide) ?_
            exact ih_k4 (k4 - 1) (m2 + 1, f2, c2) ls _ _ (by omega) ⟨by omega, (by first | exact hf2 | exact ren_lt (hf2 _) hf2), hi4.trans (pkk_s (by omega) (by rw [pk1, ho_u] <;> first | rfl | (simp only; first | rw [if_pos (by assumption)] | rw [if_neg (by assumption)])))⟩ (lv_sub hl [2, 3, 4, 5, 0] rfl) hP hD hS
          · skip
            have c_7 : ¬ (f2 (u) = f2 (sTh v n)) := fun hq9 => c_7 ((nI_eq (a := f2 (u)) (b := f2 (sTh v n)) (by omega) (by omega)).mpr hq9)
            refine lv_aload_n hx hb dX2_countPieces_108 rfl (lv_at hl 1 rfl) ?_
            refine lv_aload_n hx hb dX2_countPieces_109 rfl (lv_at hl 1 rfl) ?_
            refine va_get (D := (dC, dI)) (ci := 2) (v := .ref (a 8)) (C := RX2) (T := TX2) (N := 6) hx hb hts (by decide +kernel) hown hK hP 0 rfl rfl 3 (by decide) (hts (.fieldLink RX2 27 "TriangleSheet" "pieceOf" "[I") (by decide +kernel)) (fun _ h9 => h9) rfl dX2_countPieces_110 ?_
            refine lv_iload hx hb dX2_countPieces_113 (lv_at hl 0 rfl) ?_
            refine ia_ld (k := u) hx hb hK hP 8 0 rfl rfl (by omega) (by decide) dX2_countPieces_115 ?_
            refine W.eq (g2 := F0 m 116 ls [.int (nI (f2 (u))), .ref (a 0)]) rfl ?_
            refine lv_aload_n hx hb dX2_countPieces_116 rfl (lv_at hl 1 rfl) ?_
            refine va_get (D := (dC, dI)) (ci := 2) (v := .ref (a 8)) (C := RX2) (T := TX2) (N := 6) hx hb hts (by decide +kernel) hown hK hP 0 rfl rfl 3 (by decide) (hts (.fieldLink RX2 27 "TriangleSheet" "pieceOf" "[I") (by decide +kernel)) (fun _ h9 => h9) rfl dX2_countPieces_117 ?_
            refine lv_iload_n hx hb dX2_countPieces_120 rfl (lv_at hl 4 rfl) ?_
            refine ia_ld (k := sTh v n) hx hb hK hP 8 0 rfl rfl (by omega) (by decide) dX2_countPieces_121 ?_
            refine W.eq (g2 := F0 m 122 ls [.int (nI (f2 (sTh v n))), .int (nI (f2 (u))), .ref (a 0)]) rfl ?_
            refine wr_V (As := [.int (nI (f2 (u))), .int (nI (f2 (sTh v n)))]) (rest := []) (q0 := 0) (ci := 2) hx hb hml hown hts (c_X2_renamePiece l dC dI cI cL cZ a (((v.1.1, v.1.2.1, v.1.2.2), sPn v, sTh v, sTn v, sTm v, sJo v, f2, sFa v, sFb v)) (f2 (u)) (f2 (sTh v n)) (⟨hv.1, hv.2.1, hv.2.2.1, hv.2.2.2.1, hv.2.2.2.2.1, hf2⟩) (hf2 u) (hf2 _)) (cwV 2 hts gX2_countPieces_X2_renamePiece rfl rfl rfl (by decide +kernel) ⟨Nat.le_of_ble_eq_true rfl, Nat.le_of_ble_eq_true rfl⟩) hK hP hD hS rfl rfl rfl rfl hl.1 rfl (Nat.le_of_ble_eq_true rfl) dX2_countPieces_122 ⟨Nat.zero_le _, Nat.zero_le _⟩ (fun H locs hP hD hS => ?_)
            have hP : va_P (dC, dI) vwCl (wS cI cL a (sPiX (((v.1.1, v.1.2.1, v.1.2.2), sPn v, sTh v, sTn v, sTm v, sJo v, f2, sFa v, sFb v)) (ren (sTh (((v.1.1, v.1.2.1, v.1.2.2), sPn v, sTh v, sTn v, sTm v, sJo v, f2, sFa v, sFb v))) (f2 (u)) (f2 (sTh v n)) (sTn (((v.1.1, v.1.2.1, v.1.2.2), sPn v, sTh v, sTn v, sTm v, sJo v, f2, sFa v, sFb v))) 0 (sPi (((v.1.1, v.1.2.1, v.1.2.2), sPn v, sTh v, sTn v, sTm v, sJo v, f2, sFa v, sFb v)))))) H := hP
            have hD : va_D (inW (wS cI cL a v)) (wS cI cL a (sPiX (((v.1.1, v.1.2.1, v.1.2.2), sPn v, sTh v, sTn v, sTm v, sJo v, f2, sFa v, sFb v)) (ren (sTh (((v.1.1, v.1.2.1, v.1.2.2), sPn v, sTh v, sTn v, sTm v, sJo v, f2, sFa v, sFb v))) (f2 (u)) (f2 (sTh v n)) (sTn (((v.1.1, v.1.2.1, v.1.2.2), sPn v, sTh v, sTn v, sTm v, sJo v, f2, sFa v, sFb v))) 0 (sPi (((v.1.1, v.1.2.1, v.1.2.2), sPn v, sTh v, sTn v, sTm v, sJo v, f2, sFa v, sFb v)))))) := hD
            refine W.eq (g2 := F0 m 125 ls []) rfl ?_
            refine lv_iinc (v := iI (c2 + (-1))) (lv' := [(1, .int (iI (c2 + (-1)))), (5, .int (nI (u))), (0, .ref (a 0)), (2, .int (nI (n))), (3, .int (nI (sTh v n))), (4, .int (nI (m2)))]) hx hb dX2_countPieces_125 hl (k := 2) rfl (iI_add (c2) (-1)) (by decide) rfl (fun ls hl => ?_)
            refine lv_iinc (v := nI (m2 + 1)) (lv' := [(4, .int (nI (m2 + 1))), (1, .int (iI (c2 + (-1)))), (5, .int (nI (u))), (0, .ref (a 0)), (2, .int (nI (n))), (3, .int (nI (sTh v n)))]) hx hb dX2_countPieces_128 hl (k := 5) rfl (nI_1 (m2)) (by decide) rfl (fun ls hl => ?_)
            refine lv_goto (tgt := 68) hx hb dX2_countPieces_131 (by decide) ?_
            exact ih_k4 (k4 - 1) (m2 + 1, sPi (sPiX (((v.1.1, v.1.2.1, v.1.2.2), sPn v, sTh v, sTn v, sTm v, sJo v, f2, sFa v, sFb v)) (ren (sTh (((v.1.1, v.1.2.1, v.1.2.2), sPn v, sTh v, sTn v, sTm v, sJo v, f2, sFa v, sFb v))) (f2 (u)) (f2 (sTh v n)) (sTn (((v.1.1, v.1.2.1, v.1.2.2), sPn v, sTh v, sTn v, sTm v, sJo v, f2, sFa v, sFb v))) 0 (sPi (((v.1.1, v.1.2.1, v.1.2.2), sPn v, sTh v, sTn v, sTm v, sJo v, f2, sFa v, sFb v))))), c2 + (-1)) ls _ _ (by omega) ⟨by omega, (by first | exact hf2 | exact ren_lt (hf2 _) hf2), hi4.trans (pkk_s (by omega) (by rw [pk1, ho_u] <;> first | rfl | (simp only; first | rw [if_pos (by assumption)] | rw [if_neg (by assumption)])))⟩ (lv_sub hl [3, 1, 4, 5, 0] rfl) hP hD hS
  · skip
    have c_1 : ¬ (sTn v ≤ n) := fun hq9 => c_1 ((nI_leI (a := sTn v) (b := n) (by omega) (by omega)).mpr hq9)
    refine lv_aload_n hx hb dX2_countPieces_13 rfl (lv_at hl 0 rfl) ?_
    refine va_get (D := (dC, dI)) (ci := 2) (v := .ref (a 4)) (C := RX2) (T := TX2) (N := 6) hx hb hts (by decide +kernel) hown hK hP 0 rfl rfl 1 (by decide) (hts (.fieldLink RX2 19 "TriangleSheet" "triangles" "LTriangleSheet$Triangles;") (by decide +kernel)) (fun _ h9 => h9) rfl dX2_countPieces_14 ?_
    refine lv_iload_n hx hb dX2_countPieces_17 rfl (lv_at hl 1 rfl) ?_
    refine ro_V (As := [.int (nI (n))]) (rest := []) (q0 := 4) (ci := 1) hx hb hml hown hts (c_X1_numberAt l dC dI cI cL cZ a (((v.1.1, v.1.2.1, v.1.2.2), sPn v, sTh v, sTn v, sTm v, sJo v, f, sFa v, sFb v)) n (by omega)) (cwV 1 hts gX2_countPieces_X1_numberAt rfl rfl rfl (by decide +kernel) ⟨Nat.le_of_ble_eq_true rfl, Nat.le_of_ble_eq_true rfl⟩) hK hP rfl rfl rfl hl.1 rfl (Nat.le_of_ble_eq_true rfl) dX2_countPieces_18 ⟨Nat.zero_le _, Nat.zero_le _⟩ ?_
    refine W.eq (g2 := F0 m 21 ls [.int (nI (sTh v n))]) rfl ?_
    refine lv_istore_n (lv' := [(2, .int (nI (sTh v n))), (0, .ref (a 0)), (1, .int (nI (n)))]) hx hb dX2_countPieces_21 rfl hl (by decide) rfl (fun ls hl => ?_)
    refine lv_aload_n hx hb dX2_countPieces_22 rfl (lv_at hl 1 rfl) ?_
    refine va_get (D := (dC, dI)) (ci := 2) (v := .ref (a 8)) (C := RX2) (T := TX2) (N := 6) hx hb hts (by decide +kernel) hown hK hP 0 rfl rfl 3 (by decide) (hts (.fieldLink RX2 27 "TriangleSheet" "pieceOf" "[I") (by decide +kernel)) (fun _ h9 => h9) rfl dX2_countPieces_23 ?_
    refine lv_iload_n hx hb dX2_countPieces_26 rfl (lv_at hl 0 rfl) ?_
    refine lv_iload_n hx hb dX2_countPieces_27 rfl (lv_at hl 0 rfl) ?_
    refine ia_st (k := sTh v n) hx hb hK hP hD hS 8 0 rfl rfl (by omega) (by decide) (upd_n (f) (sTh v n) (sTh v n)) dX2_countPieces_28 (fun H locs hP hD hS => ?_)
    have hP : va_P (dC, dI) vwCl (wS cI cL a (((v.1.1, v.1.2.1, v.1.2.2), sPn v, sTh v, sTn v, sTm v, sJo v, va_up f (sTh v n) (sTh v n), sFa v, sFb v))) H := hP
    have hD : va_D (inW (wS cI cL a v)) (wS cI cL a (((v.1.1, v.1.2.1, v.1.2.2), sPn v, sTh v, sTn v, sTm v, sJo v, va_up f (sTh v n) (sTh v n), sFa v, sFb v))) := hD
    refine lv_iinc (v := nI (n + 1)) (lv' := [(1, .int (nI (n + 1))), (2, .int (nI (sTh v n))), (0, .ref (a 0))]) hx hb dX2_countPieces_29 hl (k := 2) rfl (nI_1 (n)) (by decide) rfl (fun ls hl => ?_)
    refine lv_goto (tgt := 2) hx hb dX2_countPieces_32 (by decide) ?_
    exact ih_k (k - 1) (n + 1, va_up f (sTh v n) (sTh v n)) ls _ _ (by omega) ⟨by omega, up_lt hf (hv.2.2.1 n), hi.trans (ini_s (by omega))⟩ (lv_sub hl [2, 0] rfl) hP hD hS
set_option maxHeartbeats 4000000 in
set_option maxRecDepth 100000 in
theorem c_X3_pieces (l : Launch) (dC : Nat → ClassId) (dI : Nat → Nat → Nat) (cI cL cZ : ClassId) (b : Nat → Nat) (w : MV)  (hv : okM w) : Met l yX3_pieces wsX3_pieces ({ frames := 2, cells := 0, slots := 0, locals := 46 }) (va_Pc [.ref (b 0)] (wr_B (dC, dI) vwCl (wM cI cZ b w) (tyS cI cL cZ))) (wr_Q (some (.int (nI (mpcC w)))) (dC, dI) vwCl (wM cI cZ b w) (wM cI cZ b (mMkX w (mfin w)))) 0 0 (inW (wM cI cZ b w)) := by
  refine wr_Met (cc := cX3_pieces) (maxL := 6) (ret := (some .int)) (by decide) rfl (Nat.le_of_ble_eq_true rfl) ?_
  intro pr en s m below meth co ls hx hb hml hr hlocks hown hts hP hK hD hS hl
  have hl : lv_has ls 6 [(0, .ref (b 0))] := hl
  have hown : s.vm.findClass RX3 = some m.cls := hown
  have hvp : mPn w ≤ 60 ∧ mTm w ≤ 200 ∧ mTn w ≤ 60 := ⟨hv.2.1, hv.2.2.1, hv.2.2.2.1⟩
  refine lv_iconst (v := nI (0)) hx hb dX3_pieces_0 (by decide) ?_
  refine lv_istore_n (lv' := [(1, .int (nI (0))), (0, .ref (b 0))]) hx hb dX3_pieces_1 rfl hl (by decide) rfl (fun ls hl => ?_)
  refine lpW (σ := Nat × (Nat → Nat)) (LV := fun (n, f) => [(0, .ref (b 0)), (1, .int (nI (n)))]) (WS := fun (n, f) => wM cI cZ b (((w.1.1, w.1.2.1, w.1.2.2), mThr w, mPn w, mTm w, mTn w, mIs w, mFi w, mSe w, f))) (I := fun k (n, f) => n + k = mTm w ∧ (∀ j, f j < 200) ∧ mi0 (mTm w) 0 (mMk w) = mi0 k n f) (fun k (n, f) ls H locs hI_k hl hP hD hS ih_k => ?_) (mTm w) (0, mMk w) ls _ _ ⟨by omega, hv.2.2.2.2, rfl⟩ (lv_sub hl [1, 0] rfl) hP hD hS
  obtain ⟨hk, hf, hi⟩ := hI_k
  have hP : va_P (dC, dI) vwCl (wM cI cZ b (((w.1.1, w.1.2.1, w.1.2.2), mThr w, mPn w, mTm w, mTn w, mIs w, mFi w, mSe w, f))) H := hP
  have hD : va_D (inW (wM cI cZ b w)) (wM cI cZ b (((w.1.1, w.1.2.1, w.1.2.2), mThr w, mPn w, mTm w, mTn w, mIs w, mFi w, mSe w, f))) := hD
  refine lv_iload_n hx hb dX3_pieces_2 rfl (lv_at hl 1 rfl) ?_
  refine lv_aload_n hx hb dX3_pieces_3 rfl (lv_at hl 0 rfl) ?_
  refine va_get (D := (dC, dI)) (ci := 3) (v := .int (nI (mTm w))) (C := RX3) (T := TX3) (N := 11) hx hb hts (by decide +kernel) hown hK hP 0 rfl rfl 2 (by decide) (hts (.fieldLink RX3 43 "TriangleSheetModel" "came" "I") (by decide +kernel)) (fun _ h9 => h9) rfl dX3_pieces_4 ?_
  refine lv_icmp_ge (tgt := 23) hx hb dX3_pieces_7 (by decide) (fun c_1 => ?_) (fun c_1 => ?_)
  · skip
    have c_1 : mTm w ≤ n := (nI_leI (a := mTm w) (b := n) (by omega) (by omega)).mp c_1
    have ef : mi0 (mTm w) 0 (mMk w) = f := hi.trans (by rw [show k = 0 by omega]; rfl)
    have hf0 : ∀ j, mi0 (mTm w) 0 (mMk w) j < 200 := by { rw [ef]; exact hf }
    have hs0 : sumM (mi0 (mTm w) 0 (mMk w)) (mTm w) < 40001 := by { have e1 := smN_le hf0 (k := mTm w) (n := 0); have e2 : mTm w * 200 ≤ 200 * 200 := Nat.mul_le_mul_right 200 (by omega); unfold sumM; omega }
    rw [← ef] at hP hD
    refine lv_iconst (v := nI (1)) hx hb dX3_pieces_23 (by decide) ?_
    refine lv_istore_n (lv' := [(1, .int (nI (1))), (0, .ref (b 0))]) hx hb dX3_pieces_24 rfl hl (by decide) rfl (fun ls hl => ?_)
    refine lpW (σ := (Nat → Nat) × Bool) (LV := fun (f, mo) => [(0, .ref (b 0)), (1, .int (bI (mo)))]) (WS := fun (f, mo) => wM cI cZ b (((w.1.1, w.1.2.1, w.1.2.2), mThr w, mPn w, mTm w, mTn w, mIs w, mFi w, mSe w, f))) (I := fun k3 (f, mo) => k3 = sumM f (mTm w) + mo.toNat ∧ (∀ j, f j < 200) ∧ (mo = true → ∃ q, sumM f (mTm w) < q ∧ mfin w = itr w q f) ∧ (mo = false → mfin w = f)) (fun k3 (f, mo) ls H locs hI_k3 hl hP hD hS ih_k3 => ?_) (sumM (mi0 (mTm w) 0 (mMk w)) (mTm w) + 1) (mi0 (mTm w) 0 (mMk w), true) ls _ _ ⟨rfl, hf0, fun _ => ⟨40001, hs0, rfl⟩, fun h => nomatch h⟩ (lv_sub hl [1, 0] rfl) hP hD hS
    obtain ⟨hk3, hf, hq1, hq0⟩ := hI_k3
    have hP : va_P (dC, dI) vwCl (wM cI cZ b (((w.1.1, w.1.2.1, w.1.2.2), mThr w, mPn w, mTm w, mTn w, mIs w, mFi w, mSe w, f))) H := hP
    have hD : va_D (inW (wM cI cZ b w)) (wM cI cZ b (((w.1.1, w.1.2.1, w.1.2.2), mThr w, mPn w, mTm w, mTn w, mIs w, mFi w, mSe w, f))) := hD
    refine lv_iload_n hx hb dX3_pieces_25 rfl (lv_at hl 1 rfl) ?_
    refine lv_if_eq (tgt := 158) hx hb dX3_pieces_26 (by decide) (fun c_2 => ?_) (fun c_2 => ?_)
    · skip
      have c_2 : (mo) = false := bI_f c_2
      have efin : mfin w = f := hq0 (by assumption)
      refine lv_iconst (v := nI (0)) hx hb dX3_pieces_158 (by decide) ?_
      refine lv_istore_n (lv' := [(2, .int (nI (0))), (0, .ref (b 0)), (1, .int (bI (mo)))]) hx hb dX3_pieces_159 rfl hl (by decide) rfl (fun ls hl => ?_)
      refine lv_iconst (v := nI (0)) hx hb dX3_pieces_160 (by decide) ?_
      refine lv_istore_n (lv' := [(3, .int (nI (0))), (2, .int (nI (0))), (0, .ref (b 0)), (1, .int (bI (mo)))]) hx hb dX3_pieces_161 rfl hl (by decide) rfl (fun ls hl => ?_)
      refine lpW (σ := Nat × Nat) (LV := fun (n, sm) => [(0, .ref (b 0)), (1, .int (bI (mo))), (2, .int (nI (sm))), (3, .int (nI (n)))]) (WS := fun (n, sm) => wM cI cZ b (((w.1.1, w.1.2.1, w.1.2.2), mThr w, mPn w, mTm w, mTn w, mIs w, mFi w, mSe w, f))) (I := fun k4 (n, sm) => n + k4 = mTm w ∧ cnt (fun t => mIs w t && decide (f t = t)) (mTm w) 0 = sm + cnt (fun t => mIs w t && decide (f t = t)) k4 n) (fun k4 (n, sm) ls H locs hI_k4 hl hP hD hS ih_k4 => ?_) (mTm w) (0, 0) ls _ _ ⟨by omega, by omega⟩ (lv_sub hl [2, 3, 1, 0] rfl) hP hD hS
      obtain ⟨hk4, hi4⟩ := hI_k4
      have hP : va_P (dC, dI) vwCl (wM cI cZ b (((w.1.1, w.1.2.1, w.1.2.2), mThr w, mPn w, mTm w, mTn w, mIs w, mFi w, mSe w, f))) H := hP
      have hD : va_D (inW (wM cI cZ b w)) (wM cI cZ b (((w.1.1, w.1.2.1, w.1.2.2), mThr w, mPn w, mTm w, mTn w, mIs w, mFi w, mSe w, f))) := hD
      have hfn := hf n
      refine lv_iload_n hx hb dX3_pieces_162 rfl (lv_at hl 3 rfl) ?_
      refine lv_aload_n hx hb dX3_pieces_163 rfl (lv_at hl 0 rfl) ?_
      refine va_get (D := (dC, dI)) (ci := 3) (v := .int (nI (mTm w))) (C := RX3) (T := TX3) (N := 11) hx hb hts (by decide +kernel) hown hK hP 0 rfl rfl 2 (by decide) (hts (.fieldLink RX3 43 "TriangleSheetModel" "came" "I") (by decide +kernel)) (fun _ h9 => h9) rfl dX3_pieces_164 ?_
      refine lv_icmp_ge (tgt := 203) hx hb dX3_pieces_167 (by decide) (fun c_3 => ?_) (fun c_3 => ?_)
      · skip
        have c_3 : mTm w ≤ n := (nI_leI (a := mTm w) (b := n) (by omega) (by omega)).mp c_3
        refine lv_iload_n hx hb dX3_pieces_203 rfl (lv_at hl 2 rfl) ?_
        exact wr_iret hx hb hr hP hS (congrArg some (rn (by rw [mpcC, efin, hi4, show k4 = 0 by omega]; simp [cnt]))) (congrArg (wM cI cZ b) (by show mMkX w f = _; rw [efin])) dX3_pieces_204 hlocks
      · skip
        have c_3 : ¬ (mTm w ≤ n) := fun hq9 => c_3 ((nI_leI (a := mTm w) (b := n) (by omega) (by omega)).mpr hq9)
        refine lv_iload_n hx hb dX3_pieces_170 rfl (lv_at hl 2 rfl) ?_
        refine lv_aload_n hx hb dX3_pieces_171 rfl (lv_at hl 0 rfl) ?_
        refine va_get (D := (dC, dI)) (ci := 3) (v := .ref (b 3)) (C := RX3) (T := TX3) (N := 11) hx hb hts (by decide +kernel) hown hK hP 0 rfl rfl 6 (by decide) (hts (.fieldLink RX3 16 "TriangleSheetModel" "is" "[Z") (by decide +kernel)) (fun _ h9 => h9) rfl dX3_pieces_172 ?_
        refine lv_iload_n hx hb dX3_pieces_175 rfl (lv_at hl 3 rfl) ?_
        refine za_ld (k := n) hx hb hK hP 3 2 rfl rfl (by omega) (by decide) dX3_pieces_176 ?_
        refine W.eq (g2 := F0 m 177 ls [.int (bI (mIs w (n))), .int (nI (sm))]) rfl ?_
        have hj_4 : W pr l en ({ frames := 2, cells := 0, slots := 0, locals := 46 }) s m [.ref (b 0)].toArray below meth co H locs 0 0 (MQ below (wr_Q (some (.int (nI (mpcC w)))) (dC, dI) vwCl (wM cI cZ b w) (wM cI cZ b (mMkX w (mfin w)))) [.ref (b 0)].toArray s 0 0 (inW (wM cI cZ b w))) (F0 m 195 ls [.int (nI ((mIs w (n) && decide (f (n) = n)).toNat)), .int (nI (sm))]) := by
          refine lv_iadd hx hb dX3_pieces_195 ?_
          refine rt_i (y := (nI (sm + (mIs w (n) && decide (f (n) = n)).toNat))) (nn_add (sm) ((mIs w (n) && decide (f (n) = n)).toNat)) ?_
          refine lv_istore_n (lv' := [(2, .int (nI (sm + (mIs w (n) && decide (f (n) = n)).toNat))), (0, .ref (b 0)), (1, .int (bI (mo))), (3, .int (nI (n)))]) hx hb dX3_pieces_196 rfl hl (by decide) rfl (fun ls hl => ?_)
          refine lv_iinc (v := nI (n + 1)) (lv' := [(3, .int (nI (n + 1))), (2, .int (nI (sm + (mIs w (n) && decide (f (n) = n)).toNat))), (0, .ref (b 0)), (1, .int (bI (mo)))]) hx hb dX3_pieces_197 hl (k := 3) rfl (nI_1 (n)) (by decide) rfl (fun ls hl => ?_)
          refine lv_goto (tgt := 162) hx hb dX3_pieces_200 (by decide) ?_
          exact ih_k4 (k4 - 1) (n + 1, sm + (mIs w (n) && decide (f (n) = n)).toNat) ls _ _ (by omega) ⟨by omega, by rw [hi4, cnt_s (by omega)]; omega⟩ (lv_sub hl [2, 3, 1, 0] rfl) hP hD hS
        refine lv_if_eq (tgt := 194) hx hb dX3_pieces_177 (by decide) (fun c_5 => ?_) (fun c_5 => ?_)
        · skip
          have c_5 : (mIs w (n)) = false := bI_f c_5
          refine lv_iconst (v := nI (0)) hx hb dX3_pieces_194 (by decide) ?_
          refine rt_i (y := (nI ((mIs w (n) && decide (f (n) = n)).toNat))) (congrArg nI (by simp [c_1, c_2, c_3, c_5])) ?_
          exact hj_4
        · skip
          have c_5 : (mIs w (n)) = true := bI_t c_5
          refine lv_aload_n hx hb dX3_pieces_180 rfl (lv_at hl 0 rfl) ?_
          refine va_get (D := (dC, dI)) (ci := 3) (v := .ref (b 5)) (C := RX3) (T := TX3) (N := 11) hx hb hts (by decide +kernel) hown hK hP 0 rfl rfl 10 (by decide) (hts (.fieldLink RX3 30 "TriangleSheetModel" "marks" "[I") (by decide +kernel)) (fun _ h9 => h9) rfl dX3_pieces_181 ?_
          refine lv_iload_n hx hb dX3_pieces_184 rfl (lv_at hl 3 rfl) ?_
          refine ia_ld (k := n) hx hb hK hP 5 0 rfl rfl (by omega) (by decide) dX3_pieces_185 ?_
          refine W.eq (g2 := F0 m 186 ls [.int (nI (f (n))), .int (nI (sm))]) rfl ?_
          refine lv_iload_n hx hb dX3_pieces_186 rfl (lv_at hl 3 rfl) ?_
          refine lv_icmp_ne (tgt := 194) hx hb dX3_pieces_187 (by decide) (fun c_6 => ?_) (fun c_6 => ?_)
          · skip
            have c_6 : ¬ (f (n) = n) := fun hq9 => c_6 ((nI_eq (a := f (n)) (b := n) (by omega) (by omega)).mpr hq9)
            refine lv_iconst (v := nI (0)) hx hb dX3_pieces_194 (by decide) ?_
            refine rt_i (y := (nI ((mIs w (n) && decide (f (n) = n)).toNat))) (congrArg nI (by simp [c_1, c_2, c_3, c_5, c_6])) ?_
            exact hj_4
          · skip
            have c_6 : f (n) = n := (nI_eq (a := f (n)) (b := n) (by omega) (by omega)).mp c_6
            refine lv_iconst (v := nI (1)) hx hb dX3_pieces_190 (by decide) ?_
            refine lv_goto (tgt := 195) hx hb dX3_pieces_191 (by decide) ?_
            refine rt_i (y := (nI ((mIs w (n) && decide (f (n) = n)).toNat))) (congrArg nI (by simp [c_1, c_2, c_3, c_5, c_6])) ?_
            exact hj_4
    · skip
      have c_2 : (mo) = true := bI_t c_2
      refine lv_iconst (v := nI (0)) hx hb dX3_pieces_29 (by decide) ?_
      refine lv_istore_n (lv' := [(1, .int (nI (0))), (0, .ref (b 0))]) hx hb dX3_pieces_30 rfl hl (by decide) rfl (fun ls hl => ?_)
      refine lv_iconst (v := nI (0)) hx hb dX3_pieces_31 (by decide) ?_
      refine lv_istore_n (lv' := [(2, .int (nI (0))), (1, .int (nI (0))), (0, .ref (b 0))]) hx hb dX3_pieces_32 rfl hl (by decide) rfl (fun ls hl => ?_)
      refine lpW (σ := Nat × (Nat → Nat) × Bool) (LV := fun (n, f2, mo2) => [(0, .ref (b 0)), (1, .int (bI (mo2))), (2, .int (nI (n)))]) (WS := fun (n, f2, mo2) => wM cI cZ b (((w.1.1, w.1.2.1, w.1.2.2), mThr w, mPn w, mTm w, mTn w, mIs w, mFi w, mSe w, f2))) (I := fun k4 (n, f2, mo2) => n + k4 = mTm w ∧ (∀ j, f2 j < 200) ∧ swp w f = swt w k4 n f2 mo2) (fun k4 (n, f2, mo2) ls H locs hI_k4 hl hP hD hS ih_k4 => ?_) (mTm w) (0, f, false) ls _ _ ⟨by omega, hf, rfl⟩ (lv_sub hl [2, 1, 0] rfl) hP hD hS
      obtain ⟨hk4, hf2, hi4⟩ := hI_k4
      have hP : va_P (dC, dI) vwCl (wM cI cZ b (((w.1.1, w.1.2.1, w.1.2.2), mThr w, mPn w, mTm w, mTn w, mIs w, mFi w, mSe w, f2))) H := hP
      have hD : va_D (inW (wM cI cZ b w)) (wM cI cZ b (((w.1.1, w.1.2.1, w.1.2.2), mThr w, mPn w, mTm w, mTn w, mIs w, mFi w, mSe w, f2))) := hD
      refine lv_iload_n hx hb dX3_pieces_33 rfl (lv_at hl 2 rfl) ?_
      refine lv_aload_n hx hb dX3_pieces_34 rfl (lv_at hl 0 rfl) ?_
      refine va_get (D := (dC, dI)) (ci := 3) (v := .int (nI (mTm w))) (C := RX3) (T := TX3) (N := 11) hx hb hts (by decide +kernel) hown hK hP 0 rfl rfl 2 (by decide) (hts (.fieldLink RX3 43 "TriangleSheetModel" "came" "I") (by decide +kernel)) (fun _ h9 => h9) rfl dX3_pieces_35 ?_
      refine lv_icmp_ge (tgt := 155) hx hb dX3_pieces_38 (by decide) (fun c_7 => ?_) (fun c_7 => ?_)
      · skip
        have c_7 : mTm w ≤ n := (nI_leI (a := mTm w) (b := n) (by omega) (by omega)).mp c_7
        have e5 : swp w f = (f2, mo2) := hi4.trans (by rw [show k4 = 0 by omega]; rfl)
        refine lv_goto (tgt := 25) hx hb dX3_pieces_155 (by decide) ?_
        exact ih_k3 (sumM f2 (mTm w) + mo2.toNat) (f2, mo2) ls _ _ (by have e8 : mo = true := (by assumption); rw [e8] at hk3; cases hm2 : mo2 with | false => (rw [hm2] at e5; have e7 := swp_f (w := w) (f := f) (by rw [e5]); rw [e5] at e7; simp only at e7; rw [e7]; simp [Bool.toNat] at hk3 ⊢; omega) | true => (rw [hm2] at e5; have e7 := swp_t (w := w) (f := f) (by rw [e5]); rw [e5] at e7; simp only at e7; simp [Bool.toNat] at hk3 ⊢; omega)) ⟨rfl, hf2, fun hm => by { obtain ⟨q, hq, eq⟩ := hq1 (by assumption); have e7 := swp_t (w := w) (f := f) (by rw [e5]; exact hm); rw [e5] at e7; simp only at e7; obtain ⟨q, rfl⟩ : ∃ j, q = j + 1 := ⟨q - 1, by omega⟩; refine ⟨q, by omega, eq.trans ?_⟩; rw [itr, e5, if_pos hm] }, fun hm => by { obtain ⟨q, hq, eq⟩ := hq1 (by assumption); obtain ⟨q, rfl⟩ : ∃ j, q = j + 1 := ⟨q - 1, by omega⟩; refine eq.trans ?_; rw [itr, e5, if_neg (by simp [hm])] }⟩ (lv_sub hl [0, 1] rfl) hP hD hS
      · skip
        have c_7 : ¬ (mTm w ≤ n) := fun hq9 => c_7 ((nI_leI (a := mTm w) (b := n) (by omega) (by omega)).mpr hq9)
        refine lv_iconst (v := nI (0)) hx hb dX3_pieces_41 (by decide) ?_
        refine lv_istore_n (lv' := [(3, .int (nI (0))), (0, .ref (b 0)), (1, .int (bI (mo2))), (2, .int (nI (n)))]) hx hb dX3_pieces_42 rfl hl (by decide) rfl (fun ls hl => ?_)
        refine lpW (σ := Nat × (Nat → Nat) × Bool) (LV := fun (m2, f3, mo3) => [(0, .ref (b 0)), (1, .int (bI (mo3))), (2, .int (nI (n))), (3, .int (nI (m2)))]) (WS := fun (m2, f3, mo3) => wM cI cZ b (((w.1.1, w.1.2.1, w.1.2.2), mThr w, mPn w, mTm w, mTn w, mIs w, mFi w, mSe w, f3))) (I := fun k5 (m2, f3, mo3) => m2 + k5 = 3 ∧ (∀ j, f3 j < 200) ∧ swk w n 3 0 f2 mo2 = swk w n k5 m2 f3 mo3) (fun k5 (m2, f3, mo3) ls H locs hI_k5 hl hP hD hS ih_k5 => ?_) (3) (0, f2, mo2) ls _ _ ⟨by omega, hf2, rfl⟩ (lv_sub hl [1, 2, 3, 0] rfl) hP hD hS
        obtain ⟨hk5, hf3, hi5⟩ := hI_k5
        have hP : va_P (dC, dI) vwCl (wM cI cZ b (((w.1.1, w.1.2.1, w.1.2.2), mThr w, mPn w, mTm w, mTn w, mIs w, mFi w, mSe w, f3))) H := hP
        have hD : va_D (inW (wM cI cZ b w)) (wM cI cZ b (((w.1.1, w.1.2.1, w.1.2.2), mThr w, mPn w, mTm w, mTn w, mIs w, mFi w, mSe w, f3))) := hD
        have hfn := hf3 n
        refine lv_iload_n hx hb dX3_pieces_43 rfl (lv_at hl 3 rfl) ?_
        refine lv_iconst (v := nI (3)) hx hb dX3_pieces_44 (by decide) ?_
        refine lv_icmp_ge (tgt := 149) hx hb dX3_pieces_45 (by decide) (fun c_8 => ?_) (fun c_8 => ?_)
        · skip
          have c_8 : 3 ≤ m2 := (nI_leI (a := 3) (b := m2) (by omega) (by omega)).mp c_8
          refine lv_iinc (v := nI (n + 1)) (lv' := [(2, .int (nI (n + 1))), (0, .ref (b 0)), (1, .int (bI (mo3))), (3, .int (nI (m2)))]) hx hb dX3_pieces_149 hl (k := 2) rfl (nI_1 (n)) (by decide) rfl (fun ls hl => ?_)
          refine lv_goto (tgt := 33) hx hb dX3_pieces_152 (by decide) ?_
          exact ih_k4 (k4 - 1) (n + 1, f3, mo3) ls _ _ (by omega) ⟨by omega, hf3, hi4.trans (swt_s (by omega) (by rw [hi5, swk_0 (by first | exact Or.inl (by omega) | exact Or.inr (by assumption))]))⟩ (lv_sub hl [1, 2, 0] rfl) hP hD hS
        · skip
          have c_8 : ¬ (3 ≤ m2) := fun hq9 => c_8 ((nI_leI (a := 3) (b := m2) (by omega) (by omega)).mpr hq9)
          refine lv_aload_n hx hb dX3_pieces_48 rfl (lv_at hl 0 rfl) ?_
          refine va_get (D := (dC, dI)) (ci := 3) (v := .ref (b 3)) (C := RX3) (T := TX3) (N := 11) hx hb hts (by decide +kernel) hown hK hP 0 rfl rfl 6 (by decide) (hts (.fieldLink RX3 16 "TriangleSheetModel" "is" "[Z") (by decide +kernel)) (fun _ h9 => h9) rfl dX3_pieces_49 ?_
          refine lv_iload_n hx hb dX3_pieces_52 rfl (lv_at hl 2 rfl) ?_
          refine za_ld (k := n) hx hb hK hP 3 2 rfl rfl (by omega) (by decide) dX3_pieces_53 ?_
          refine W.eq (g2 := F0 m 54 ls [.int (bI (mIs w (n)))]) rfl ?_
          refine lv_if_eq (tgt := 149) hx hb dX3_pieces_54 (by decide) (fun c_9 => ?_) (fun c_9 => ?_)
          · skip
            have c_9 : (mIs w (n)) = false := bI_f c_9
            refine lv_iinc (v := nI (n + 1)) (lv' := [(2, .int (nI (n + 1))), (0, .ref (b 0)), (1, .int (bI (mo3))), (3, .int (nI (m2)))]) hx hb dX3_pieces_149 hl (k := 2) rfl (nI_1 (n)) (by decide) rfl (fun ls hl => ?_)
            refine lv_goto (tgt := 33) hx hb dX3_pieces_152 (by decide) ?_
            exact ih_k4 (k4 - 1) (n + 1, f3, mo3) ls _ _ (by omega) ⟨by omega, hf3, hi4.trans (swt_s (by omega) (by rw [hi5, swk_0 (by first | exact Or.inl (by omega) | exact Or.inr (by assumption))]))⟩ (lv_sub hl [1, 2, 0] rfl) hP hD hS
          · skip
            have c_9 : (mIs w (n)) = true := bI_t c_9
            refine lv_aload_n hx hb dX3_pieces_57 rfl (lv_at hl 0 rfl) ?_
            refine lv_iload_n hx hb dX3_pieces_58 rfl (lv_at hl 2 rfl) ?_
            refine lv_iload_n hx hb dX3_pieces_59 rfl (lv_at hl 3 rfl) ?_
            refine ro_V (As := [.int (nI (n)), .int (nI (m2))]) (rest := []) (q0 := 0) (ci := 3) hx hb hml hown hts (c_X3_neighbour l dC dI cI cL cZ b (((w.1.1, w.1.2.1, w.1.2.2), mThr w, mPn w, mTm w, mTn w, mIs w, mFi w, mSe w, f3)) n m2 (⟨hv.1, hv.2.1, hv.2.2.1, hv.2.2.2.1, hf3⟩) (by omega) (by omega)) (cwV 2 hts gX3_pieces_X3_neighbour rfl rfl rfl (by decide +kernel) ⟨Nat.le_of_ble_eq_true rfl, Nat.le_of_ble_eq_true rfl⟩) hK hP rfl rfl rfl hl.1 rfl (Nat.le_of_ble_eq_true rfl) dX3_pieces_60 ⟨Nat.zero_le _, Nat.zero_le _⟩ ?_
            refine W.eq (g2 := F0 m 63 ls [.int (oI (mnb (((w.1.1, w.1.2.1, w.1.2.2), mThr w, mPn w, mTm w, mTn w, mIs w, mFi w, mSe w, f3)) n m2))]) rfl ?_
            refine rt_i (y := (oI (mnb w (n) (m2)))) (rfl) ?_
            refine ocase (x := mnb w (n) (m2)) (fun ho_u => ?_) (fun u ho_u => ?_)
            · skip
              refine lv_istore (lv' := [(4, .int (iI (-1))), (0, .ref (b 0)), (1, .int (bI (mo3))), (2, .int (nI (n))), (3, .int (nI (m2)))]) hx hb dX3_pieces_63 hl (by decide) rfl (fun ls hl => ?_)
              refine lv_iload hx hb dX3_pieces_65 (lv_at hl 0 rfl) ?_
              refine lv_iconst (v := iI (-1)) hx hb dX3_pieces_67 (by decide) ?_
              refine lv_icmp_eq (tgt := 143) hx hb dX3_pieces_68 (by decide) (fun c_10 => ?_) (fun c_10 => absurd rfl c_10)
              refine lv_iinc (v := nI (m2 + 1)) (lv' := [(3, .int (nI (m2 + 1))), (4, .int (iI (-1))), (0, .ref (b 0)), (1, .int (bI (mo3))), (2, .int (nI (n)))]) hx hb dX3_pieces_143 hl (k := 4) rfl (nI_1 (m2)) (by decide) rfl (fun ls hl => ?_)
              refine lv_goto (tgt := 43) hx hb dX3_pieces_146 (by decide) ?_
              exact ih_k5 (k5 - 1) (m2 + 1, f3, mo3) ls _ _ (by omega) ⟨by omega, (by first | exact hf3 | exact up_ltm hf3), hi5.trans (swk_s (by omega) (by assumption) (by rw [sw1, ho_u] <;> first | rfl | (simp only; first | rw [if_pos (by assumption)] | rw [if_neg (by assumption)])))⟩ (lv_sub hl [2, 3, 4, 0] rfl) hP hD hS
            · skip
              have hu9 := mnb_lt ho_u
              have hfu := hf3 u
              refine lv_istore (lv' := [(4, .int (nI (u))), (0, .ref (b 0)), (1, .int (bI (mo3))), (2, .int (nI (n))), (3, .int (nI (m2)))]) hx hb dX3_pieces_63 hl (by decide) rfl (fun ls hl => ?_)
              refine lv_iload hx hb dX3_pieces_65 (lv_at hl 0 rfl) ?_
              refine lv_iconst (v := iI (-1)) hx hb dX3_pieces_67 (by decide) ?_
              refine lv_icmp_eq (tgt := 143) hx hb dX3_pieces_68 (by decide) (fun c_11 => absurd c_11 (ne_m1 (by omega))) (fun c_11 => ?_)
              refine lv_aload_n hx hb dX3_pieces_71 rfl (lv_at hl 1 rfl) ?_
              refine va_get (D := (dC, dI)) (ci := 3) (v := .ref (b 5)) (C := RX3) (T := TX3) (N := 11) hx hb hts (by decide +kernel) hown hK hP 0 rfl rfl 10 (by decide) (hts (.fieldLink RX3 30 "TriangleSheetModel" "marks" "[I") (by decide +kernel)) (fun _ h9 => h9) rfl dX3_pieces_72 ?_
              refine lv_iload hx hb dX3_pieces_75 (lv_at hl 0 rfl) ?_
              refine ia_ld (k := u) hx hb hK hP 5 0 rfl rfl (by omega) (by decide) dX3_pieces_77 ?_
              refine W.eq (g2 := F0 m 78 ls [.int (nI (f3 (u)))]) rfl ?_
              refine lv_aload_n hx hb dX3_pieces_78 rfl (lv_at hl 1 rfl) ?_
              refine va_get (D := (dC, dI)) (ci := 3) (v := .ref (b 5)) (C := RX3) (T := TX3) (N := 11) hx hb hts (by decide +kernel) hown hK hP 0 rfl rfl 10 (by decide) (hts (.fieldLink RX3 30 "TriangleSheetModel" "marks" "[I") (by decide +kernel)) (fun _ h9 => h9) rfl dX3_pieces_79 ?_
              refine lv_iload_n hx hb dX3_pieces_82 rfl (lv_at hl 3 rfl) ?_
              refine ia_ld (k := n) hx hb hK hP 5 0 rfl rfl (by omega) (by decide) dX3_pieces_83 ?_
              refine W.eq (g2 := F0 m 84 ls [.int (nI (f3 (n))), .int (nI (f3 (u)))]) rfl ?_
              refine lv_icmp_ne (tgt := 90) hx hb dX3_pieces_84 (by decide) (fun c_12 => ?_) (fun c_12 => ?_)
              · skip
                have c_12 : ¬ (f3 (u) = f3 (n)) := fun hq9 => c_12 ((nI_eq (a := f3 (u)) (b := f3 (n)) (by omega) (by omega)).mpr hq9)
                refine lv_aload_n hx hb dX3_pieces_90 rfl (lv_at hl 1 rfl) ?_
                refine va_get (D := (dC, dI)) (ci := 3) (v := .ref (b 5)) (C := RX3) (T := TX3) (N := 11) hx hb hts (by decide +kernel) hown hK hP 0 rfl rfl 10 (by decide) (hts (.fieldLink RX3 30 "TriangleSheetModel" "marks" "[I") (by decide +kernel)) (fun _ h9 => h9) rfl dX3_pieces_91 ?_
                refine lv_iload hx hb dX3_pieces_94 (lv_at hl 0 rfl) ?_
                refine ia_ld (k := u) hx hb hK hP 5 0 rfl rfl (by omega) (by decide) dX3_pieces_96 ?_
                refine W.eq (g2 := F0 m 97 ls [.int (nI (f3 (u)))]) rfl ?_
                refine lv_aload_n hx hb dX3_pieces_97 rfl (lv_at hl 1 rfl) ?_
                refine va_get (D := (dC, dI)) (ci := 3) (v := .ref (b 5)) (C := RX3) (T := TX3) (N := 11) hx hb hts (by decide +kernel) hown hK hP 0 rfl rfl 10 (by decide) (hts (.fieldLink RX3 30 "TriangleSheetModel" "marks" "[I") (by decide +kernel)) (fun _ h9 => h9) rfl dX3_pieces_98 ?_
                refine lv_iload_n hx hb dX3_pieces_101 rfl (lv_at hl 3 rfl) ?_
                refine ia_ld (k := n) hx hb hK hP 5 0 rfl rfl (by omega) (by decide) dX3_pieces_102 ?_
                refine W.eq (g2 := F0 m 103 ls [.int (nI (f3 (n))), .int (nI (f3 (u)))]) rfl ?_
                have hj_13 : W pr l en ({ frames := 2, cells := 0, slots := 0, locals := 46 }) s m [.ref (b 0)].toArray below meth co H locs 0 0 (MQ below (wr_Q (some (.int (nI (mpcC w)))) (dC, dI) vwCl (wM cI cZ b w) (wM cI cZ b (mMkX w (mfin w)))) [.ref (b 0)].toArray s 0 0 (inW (wM cI cZ b w))) (F0 m 122 ls [.int (nI (min (f3 (u)) (f3 (n))))]) := by
                  refine lv_istore (lv' := [(5, .int (nI (min (f3 (u)) (f3 (n))))), (4, .int (nI (u))), (0, .ref (b 0)), (1, .int (bI (mo3))), (2, .int (nI (n))), (3, .int (nI (m2)))]) hx hb dX3_pieces_122 hl (by decide) rfl (fun ls hl => ?_)
                  refine lv_aload_n hx hb dX3_pieces_124 rfl (lv_at hl 2 rfl) ?_
                  refine va_get (D := (dC, dI)) (ci := 3) (v := .ref (b 5)) (C := RX3) (T := TX3) (N := 11) hx hb hts (by decide +kernel) hown hK hP 0 rfl rfl 10 (by decide) (hts (.fieldLink RX3 30 "TriangleSheetModel" "marks" "[I") (by decide +kernel)) (fun _ h9 => h9) rfl dX3_pieces_125 ?_
                  refine lv_iload hx hb dX3_pieces_128 (lv_at hl 1 rfl) ?_
                  refine lv_iload hx hb dX3_pieces_130 (lv_at hl 0 rfl) ?_
                  refine ia_st (k := u) hx hb hK hP hD hS 5 0 rfl rfl (by omega) (by decide) (upd_n (f3) (u) (min (f3 (u)) (f3 (n)))) dX3_pieces_132 (fun H locs hP hD hS => ?_)
                  have hP : va_P (dC, dI) vwCl (wM cI cZ b (((w.1.1, w.1.2.1, w.1.2.2), mThr w, mPn w, mTm w, mTn w, mIs w, mFi w, mSe w, va_up f3 (u) (min (f3 (u)) (f3 (n)))))) H := hP
                  have hD : va_D (inW (wM cI cZ b w)) (wM cI cZ b (((w.1.1, w.1.2.1, w.1.2.2), mThr w, mPn w, mTm w, mTn w, mIs w, mFi w, mSe w, va_up f3 (u) (min (f3 (u)) (f3 (n)))))) := hD
                  refine lv_aload_n hx hb dX3_pieces_133 rfl (lv_at hl 2 rfl) ?_
                  refine va_get (D := (dC, dI)) (ci := 3) (v := .ref (b 5)) (C := RX3) (T := TX3) (N := 11) hx hb hts (by decide +kernel) hown hK hP 0 rfl rfl 10 (by decide) (hts (.fieldLink RX3 30 "TriangleSheetModel" "marks" "[I") (by decide +kernel)) (fun _ h9 => h9) rfl dX3_pieces_134 ?_
                  refine lv_iload_n hx hb dX3_pieces_137 rfl (lv_at hl 4 rfl) ?_
                  refine lv_iload hx hb dX3_pieces_138 (lv_at hl 0 rfl) ?_
                  refine ia_st (k := n) hx hb hK hP hD hS 5 0 rfl rfl (by omega) (by decide) (upd_n ((va_up f3 (u) (min (f3 (u)) (f3 (n))))) (n) (min (f3 (u)) (f3 (n)))) dX3_pieces_140 (fun H locs hP hD hS => ?_)
                  have hP : va_P (dC, dI) vwCl (wM cI cZ b (((w.1.1, w.1.2.1, w.1.2.2), mThr w, mPn w, mTm w, mTn w, mIs w, mFi w, mSe w, va_up ((va_up f3 (u) (min (f3 (u)) (f3 (n))))) (n) (min (f3 (u)) (f3 (n)))))) H := hP
                  have hD : va_D (inW (wM cI cZ b w)) (wM cI cZ b (((w.1.1, w.1.2.1, w.1.2.2), mThr w, mPn w, mTm w, mTn w, mIs w, mFi w, mSe w, va_up ((va_up f3 (u) (min (f3 (u)) (f3 (n))))) (n) (min (f3 (u)) (f3 (n)))))) := hD
                  refine lv_iconst (v := nI (1)) hx hb dX3_pieces_141 (by decide) ?_
                  refine lv_istore_n (lv' := [(1, .int (nI (1))), (5, .int (nI (min (f3 (u)) (f3 (n))))), (4, .int (nI (u))), (0, .ref (b 0)), (2, .int (nI (n))), (3, .int (nI (m2)))]) hx hb dX3_pieces_142 rfl hl (by decide) rfl (fun ls hl => ?_)
                  refine lv_iinc (v := nI (m2 + 1)) (lv' := [(3, .int (nI (m2 + 1))), (1, .int (nI (1))), (5, .int (nI (min (f3 (u)) (f3 (n))))), (4, .int (nI (u))), (0, .ref (b 0)), (2, .int (nI (n)))]) hx hb dX3_pieces_143 hl (k := 5) rfl (nI_1 (m2)) (by decide) rfl (fun ls hl => ?_)
                  refine lv_goto (tgt := 43) hx hb dX3_pieces_146 (by decide) ?_
                  exact ih_k5 (k5 - 1) (m2 + 1, va_up ((va_up f3 (u) (min (f3 (u)) (f3 (n))))) (n) (min (f3 (u)) (f3 (n))), true) ls _ _ (by omega) ⟨by omega, (by first | exact hf3 | exact up_ltm hf3), hi5.trans (swk_s (by omega) (by assumption) (by rw [sw1, ho_u] <;> first | rfl | (simp only; first | rw [if_pos (by assumption)] | rw [if_neg (by assumption)])))⟩ (lv_sub hl [4, 1, 5, 0] rfl) hP hD hS
                refine lv_icmp_ge (tgt := 116) hx hb dX3_pieces_103 (by decide) (fun c_14 => ?_) (fun c_14 => ?_)
                · skip
                  have c_14 : f3 (n) ≤ f3 (u) := (nI_leI (a := f3 (n)) (b := f3 (u)) (by omega) (by omega)).mp c_14
                  refine lv_aload_n hx hb dX3_pieces_116 rfl (lv_at hl 1 rfl) ?_
                  refine va_get (D := (dC, dI)) (ci := 3) (v := .ref (b 5)) (C := RX3) (T := TX3) (N := 11) hx hb hts (by decide +kernel) hown hK hP 0 rfl rfl 10 (by decide) (hts (.fieldLink RX3 30 "TriangleSheetModel" "marks" "[I") (by decide +kernel)) (fun _ h9 => h9) rfl dX3_pieces_117 ?_
                  refine lv_iload_n hx hb dX3_pieces_120 rfl (lv_at hl 3 rfl) ?_
                  refine ia_ld (k := n) hx hb hK hP 5 0 rfl rfl (by omega) (by decide) dX3_pieces_121 ?_
                  refine W.eq (g2 := F0 m 122 ls [.int (nI (f3 (n)))]) rfl ?_
                  refine rt_i (y := (nI (min (f3 (u)) (f3 (n))))) (congrArg nI (by omega)) ?_
                  exact hj_13
                · skip
                  have c_14 : ¬ (f3 (n) ≤ f3 (u)) := fun hq9 => c_14 ((nI_leI (a := f3 (n)) (b := f3 (u)) (by omega) (by omega)).mpr hq9)
                  refine lv_aload_n hx hb dX3_pieces_106 rfl (lv_at hl 1 rfl) ?_
                  refine va_get (D := (dC, dI)) (ci := 3) (v := .ref (b 5)) (C := RX3) (T := TX3) (N := 11) hx hb hts (by decide +kernel) hown hK hP 0 rfl rfl 10 (by decide) (hts (.fieldLink RX3 30 "TriangleSheetModel" "marks" "[I") (by decide +kernel)) (fun _ h9 => h9) rfl dX3_pieces_107 ?_
                  refine lv_iload hx hb dX3_pieces_110 (lv_at hl 0 rfl) ?_
                  refine ia_ld (k := u) hx hb hK hP 5 0 rfl rfl (by omega) (by decide) dX3_pieces_112 ?_
                  refine W.eq (g2 := F0 m 113 ls [.int (nI (f3 (u)))]) rfl ?_
                  refine lv_goto (tgt := 122) hx hb dX3_pieces_113 (by decide) ?_
                  refine rt_i (y := (nI (min (f3 (u)) (f3 (n))))) (congrArg nI (by omega)) ?_
                  exact hj_13
              · skip
                have c_12 : f3 (u) = f3 (n) := (nI_eq (a := f3 (u)) (b := f3 (n)) (by omega) (by omega)).mp c_12
                refine lv_goto (tgt := 143) hx hb dX3_pieces_87 (by decide) ?_
                refine lv_iinc (v := nI (m2 + 1)) (lv' := [(3, .int (nI (m2 + 1))), (4, .int (nI (u))), (0, .ref (b 0)), (1, .int (bI (mo3))), (2, .int (nI (n)))]) hx hb dX3_pieces_143 hl (k := 4) rfl (nI_1 (m2)) (by decide) rfl (fun ls hl => ?_)
                refine lv_goto (tgt := 43) hx hb dX3_pieces_146 (by decide) ?_
                exact ih_k5 (k5 - 1) (m2 + 1, f3, mo3) ls _ _ (by omega) ⟨by omega, (by first | exact hf3 | exact up_ltm hf3), hi5.trans (swk_s (by omega) (by assumption) (by rw [sw1, ho_u] <;> first | rfl | (simp only; first | rw [if_pos (by assumption)] | rw [if_neg (by assumption)])))⟩ (lv_sub hl [2, 3, 4, 0] rfl) hP hD hS
  · skip
    have c_1 : ¬ (mTm w ≤ n) := fun hq9 => c_1 ((nI_leI (a := mTm w) (b := n) (by omega) (by omega)).mpr hq9)
    refine lv_aload_n hx hb dX3_pieces_10 rfl (lv_at hl 0 rfl) ?_
    refine va_get (D := (dC, dI)) (ci := 3) (v := .ref (b 5)) (C := RX3) (T := TX3) (N := 11) hx hb hts (by decide +kernel) hown hK hP 0 rfl rfl 10 (by decide) (hts (.fieldLink RX3 30 "TriangleSheetModel" "marks" "[I") (by decide +kernel)) (fun _ h9 => h9) rfl dX3_pieces_11 ?_
    refine lv_iload_n hx hb dX3_pieces_14 rfl (lv_at hl 1 rfl) ?_
    refine lv_iload_n hx hb dX3_pieces_15 rfl (lv_at hl 1 rfl) ?_
    refine ia_st (k := n) hx hb hK hP hD hS 5 0 rfl rfl (by omega) (by decide) (upd_n (f) (n) (n)) dX3_pieces_16 (fun H locs hP hD hS => ?_)
    have hP : va_P (dC, dI) vwCl (wM cI cZ b (((w.1.1, w.1.2.1, w.1.2.2), mThr w, mPn w, mTm w, mTn w, mIs w, mFi w, mSe w, va_up f (n) (n)))) H := hP
    have hD : va_D (inW (wM cI cZ b w)) (wM cI cZ b (((w.1.1, w.1.2.1, w.1.2.2), mThr w, mPn w, mTm w, mTn w, mIs w, mFi w, mSe w, va_up f (n) (n)))) := hD
    refine lv_iinc (v := nI (n + 1)) (lv' := [(1, .int (nI (n + 1))), (0, .ref (b 0))]) hx hb dX3_pieces_17 hl (k := 1) rfl (nI_1 (n)) (by decide) rfl (fun ls hl => ?_)
    refine lv_goto (tgt := 2) hx hb dX3_pieces_20 (by decide) ?_
    exact ih_k (k - 1) (n + 1, va_up f (n) (n)) ls _ _ (by omega) ⟨by omega, up_lt hf (by omega), hi.trans (mi0_s (by omega))⟩ (lv_sub hl [1, 0] rfl) hP hD hS
