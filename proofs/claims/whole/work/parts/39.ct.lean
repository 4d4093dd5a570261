set_option maxHeartbeats 4000000 in
set_option maxRecDepth 100000 in
theorem c_X2_point_0 (l : Launch) (dC : Nat → ClassId) (dI : Nat → Nat → Nat) (cI cL cZ : ClassId) (a : Nat → Nat) (v : SV) (x y : Nat) (hv : okS v) (hx9 : x < 512) (hy9 : y < 512) (hc : pAt v.1 (sPn v) (nI x) (nI y) = none) (hn : sPn v < 60) : Met l yX2_point wsX2_point ({ frames := 2, cells := 0, slots := 0, locals := 46 }) (va_Pc [.ref (a 0), .int (nI (x)), .int (nI (y))] (wr_B (dC, dI) vwCl (wS cI cL a v) (tyS cI cL cZ))) (wr_Q (some (.int (nI (sPn v)))) (dC, dI) vwCl (wS cI cL a v) (wS cI cL a (sAddP v x y))) 0 0 (inW (wS cI cL a v)) := by
  refine wr_Met (cc := cX2_point) (maxL := 3) (ret := (some .int)) (by decide) rfl (Nat.le_of_ble_eq_true rfl) ?_
  intro pr en s m below meth co ls hx hb hml hr hlocks hown hts hP hK hD hS hl
  have hl : lv_has ls 3 [(0, .ref (a 0)), (1, .int (nI (x))), (2, .int (nI (y)))] := hl
  have hown : s.vm.findClass RX2 = some m.cls := hown
  have hvp : sPn v ≤ 60 ∧ sTn v ≤ 60 ∧ sTm v ≤ 200 := ⟨hv.2.1, hv.2.2.2.1, hv.2.2.2.2.1⟩
  refine lv_iload_n hx hb dX2_point_0 rfl (lv_at hl 1 rfl) ?_
  refine lv_iload_n hx hb dX2_point_1 rfl (lv_at hl 2 rfl) ?_
  refine ro_S (As := [.int (nI (x)), .int (nI (y))]) (rest := []) hx hb hml hown hts (c_X2_isPlace l dC dI  (nI (x)) (nI (y)) ) (va_cwS 2 hts gX2_point_X2_isPlace rfl rfl rfl (by decide +kernel) ⟨Nat.le_of_ble_eq_true rfl, Nat.le_of_ble_eq_true rfl⟩) (hK.sub [] rfl) (hP.sub [] rfl) rfl hl.1 rfl (Nat.le_of_ble_eq_true rfl) dX2_point_2 ⟨Nat.zero_le _, Nat.zero_le _⟩ ?_
  refine lv_if_ne (tgt := 18) hx hb dX2_point_5 (by decide) (fun c_1 => ?_) (fun c_1 => ?_)
  · skip
    have c_1 : (inB (nI (x)) 512 && inB (nI (y)) 512) = true := bI_t c_1
    refine lv_aload_n hx hb dX2_point_18 rfl (lv_at hl 0 rfl) ?_
    refine va_get (D := (dC, dI)) (ci := 2) (v := .ref (a 1)) (C := RX2) (T := TX2) (N := 6) hx hb hts (by decide +kernel) hown hK hP 0 rfl rfl 0 (by decide) (hts (.fieldLink RX2 10 "TriangleSheet" "points" "LTriangleSheet$Points;") (by decide +kernel)) (fun _ h9 => h9) rfl dX2_point_19 ?_
    refine lv_iload_n hx hb dX2_point_22 rfl (lv_at hl 1 rfl) ?_
    refine lv_iload_n hx hb dX2_point_23 rfl (lv_at hl 2 rfl) ?_
    refine ro_V (As := [.int (nI (x)), .int (nI (y))]) (rest := []) (q0 := 1) (ci := 0) hx hb hml hown hts (c_X0_canAdd l dC dI cI cL cZ a v (nI (x)) (nI (y)) hv) (cwV 2 hts gX2_point_X0_canAdd rfl rfl rfl (by decide +kernel) ⟨Nat.le_of_ble_eq_true rfl, Nat.le_of_ble_eq_true rfl⟩) hK hP rfl rfl rfl hl.1 rfl (Nat.le_of_ble_eq_true rfl) dX2_point_24 ⟨Nat.zero_le _, Nat.zero_le _⟩ ?_
    refine lv_if_ne (tgt := 40) hx hb dX2_point_27 (by decide) (fun c_2 => ?_) (fun c_2 => ?_)
    · skip
      have c_2 : (decide (sPn v < 60) && decide (pAt v.1 (sPn v) (nI (x)) (nI (y)) = none)) = true := bI_t c_2
      refine lv_aload_n hx hb dX2_point_40 rfl (lv_at hl 0 rfl) ?_
      refine va_get (D := (dC, dI)) (ci := 2) (v := .ref (a 1)) (C := RX2) (T := TX2) (N := 6) hx hb hts (by decide +kernel) hown hK hP 0 rfl rfl 0 (by decide) (hts (.fieldLink RX2 10 "TriangleSheet" "points" "LTriangleSheet$Points;") (by decide +kernel)) (fun _ h9 => h9) rfl dX2_point_41 ?_
      refine lv_iload_n hx hb dX2_point_44 rfl (lv_at hl 1 rfl) ?_
      refine lv_iload_n hx hb dX2_point_45 rfl (lv_at hl 2 rfl) ?_
      refine wr_V (As := [.int (nI (x)), .int (nI (y))]) (rest := []) (q0 := 1) (ci := 0) hx hb hml hown hts (c_X0_add l dC dI cI cL cZ a v x y (by omega)) (cwV 2 hts gX2_point_X0_add rfl rfl rfl (by decide +kernel) ⟨Nat.le_of_ble_eq_true rfl, Nat.le_of_ble_eq_true rfl⟩) hK hP hD hS rfl rfl rfl rfl hl.1 rfl (Nat.le_of_ble_eq_true rfl) dX2_point_46 ⟨Nat.zero_le _, Nat.zero_le _⟩ (fun H locs hP hD hS => ?_)
      have hP : va_P (dC, dI) vwCl (wS cI cL a (sAddP v x y)) H := hP
      have hD : va_D (inW (wS cI cL a v)) (wS cI cL a (sAddP v x y)) := hD
      refine W.eq (g2 := F0 m 49 ls [.int (nI (sPn v))]) rfl ?_
      exact wr_iret hx hb hr hP hS rfl rfl dX2_point_49 hlocks
    · skip
      have c_2 : (decide (sPn v < 60) && decide (pAt v.1 (sPn v) (nI (x)) (nI (y)) = none)) = false := bI_f c_2
      exact absurd c_2 (by simp [hc, hn])
  · skip
    have c_1 : (inB (nI (x)) 512 && inB (nI (y)) 512) = false := bI_f c_1
    exact absurd c_1 (by rw [inB_nI (by omega), inB_nI (by omega)]; simp; omega)
set_option maxHeartbeats 4000000 in
set_option maxRecDepth 100000 in
theorem c_X2_move_0 (l : Launch) (dC : Nat → ClassId) (dI : Nat → Nat → Nat) (cI cL cZ : ClassId) (a : Nat → Nat) (v : SV) (q x y : Nat) (hv : okS v) (hq : q < sPn v) (hx9 : x < 512) (hy9 : y < 512) (hc : pAt v.1 (sPn v) (nI x) (nI y) = none ∨ pAt v.1 (sPn v) (nI x) (nI y) = some q) : Met l yX2_move wsX2_move ({ frames := 1, cells := 0, slots := 0, locals := 23 }) (va_Pc [.ref (a 0), .int (nI (q)), .int (nI (x)), .int (nI (y))] (wr_B (dC, dI) vwCl (wS cI cL a v) (tyS cI cL cZ))) (wr_Q none (dC, dI) vwCl (wS cI cL a v) (wS cI cL a (sPut v q x y))) 0 0 (inW (wS cI cL a v)) := by
  refine wr_Met (cc := cX2_move) (maxL := 5) (ret := none) (by decide) rfl (Nat.le_of_ble_eq_true rfl) ?_
  intro pr en s m below meth co ls hx hb hml hr hlocks hown hts hP hK hD hS hl
  have hl : lv_has ls 5 [(0, .ref (a 0)), (1, .int (nI (q))), (2, .int (nI (x))), (3, .int (nI (y)))] := hl
  have hown : s.vm.findClass RX2 = some m.cls := hown
  have hvp : sPn v ≤ 60 ∧ sTn v ≤ 60 ∧ sTm v ≤ 200 := ⟨hv.2.1, hv.2.2.2.1, hv.2.2.2.2.1⟩
  refine lv_aload_n hx hb dX2_move_0 rfl (lv_at hl 0 rfl) ?_
  refine va_get (D := (dC, dI)) (ci := 2) (v := .ref (a 1)) (C := RX2) (T := TX2) (N := 6) hx hb hts (by decide +kernel) hown hK hP 0 rfl rfl 0 (by decide) (hts (.fieldLink RX2 10 "TriangleSheet" "points" "LTriangleSheet$Points;") (by decide +kernel)) (fun _ h9 => h9) rfl dX2_move_1 ?_
  refine lv_iload_n hx hb dX2_move_4 rfl (lv_at hl 1 rfl) ?_
  refine ro_V (As := [.int (nI (q))]) (rest := []) (q0 := 1) (ci := 0) hx hb hml hown hts (c_X0_isPoint l dC dI cI cL cZ a v (nI (q)) hv) (cwV 1 hts gX2_move_X0_isPoint rfl rfl rfl (by decide +kernel) ⟨Nat.le_of_ble_eq_true rfl, Nat.le_of_ble_eq_true rfl⟩) hK hP rfl rfl rfl hl.1 rfl (Nat.le_of_ble_eq_true rfl) dX2_move_5 ⟨Nat.zero_le _, Nat.zero_le _⟩ ?_
  refine lv_if_ne (tgt := 21) hx hb dX2_move_8 (by decide) (fun c_1 => ?_) (fun c_1 => ?_)
  · skip
    have c_1 : (inB (nI (q)) (sPn v)) = true := bI_t c_1
    refine lv_iload_n hx hb dX2_move_21 rfl (lv_at hl 2 rfl) ?_
    refine lv_iload_n hx hb dX2_move_22 rfl (lv_at hl 3 rfl) ?_
    refine ro_S (As := [.int (nI (x)), .int (nI (y))]) (rest := []) hx hb hml hown hts (c_X2_isPlace l dC dI  (nI (x)) (nI (y)) ) (va_cwS 2 hts gX2_move_X2_isPlace rfl rfl rfl (by decide +kernel) ⟨Nat.le_of_ble_eq_true rfl, Nat.le_of_ble_eq_true rfl⟩) (hK.sub [] rfl) (hP.sub [] rfl) rfl hl.1 rfl (Nat.le_of_ble_eq_true rfl) dX2_move_23 ⟨Nat.zero_le _, Nat.zero_le _⟩ ?_
    refine lv_if_ne (tgt := 39) hx hb dX2_move_26 (by decide) (fun c_2 => ?_) (fun c_2 => ?_)
    · skip
      have c_2 : (inB (nI (x)) 512 && inB (nI (y)) 512) = true := bI_t c_2
      refine lv_aload_n hx hb dX2_move_39 rfl (lv_at hl 0 rfl) ?_
      refine va_get (D := (dC, dI)) (ci := 2) (v := .ref (a 1)) (C := RX2) (T := TX2) (N := 6) hx hb hts (by decide +kernel) hown hK hP 0 rfl rfl 0 (by decide) (hts (.fieldLink RX2 10 "TriangleSheet" "points" "LTriangleSheet$Points;") (by decide +kernel)) (fun _ h9 => h9) rfl dX2_move_40 ?_
      refine lv_iload_n hx hb dX2_move_43 rfl (lv_at hl 2 rfl) ?_
      refine lv_iload_n hx hb dX2_move_44 rfl (lv_at hl 3 rfl) ?_
      refine ro_V (As := [.int (nI (x)), .int (nI (y))]) (rest := []) (q0 := 1) (ci := 0) hx hb hml hown hts (c_X0_pointAt l dC dI cI cL cZ a v (nI (x)) (nI (y)) hv) (cwV 2 hts gX2_move_X0_pointAt rfl rfl rfl (by decide +kernel) ⟨Nat.le_of_ble_eq_true rfl, Nat.le_of_ble_eq_true rfl⟩) hK hP rfl rfl rfl hl.1 rfl (Nat.le_of_ble_eq_true rfl) dX2_move_45 ⟨Nat.zero_le _, Nat.zero_le _⟩ ?_
      have ps_3 : ∀ k, pAt v.1 (sPn v) (nI (x)) (nI (y)) = some k → k < 2 ^ 31 := fun k h => by have := pAt_lt h; omega
      refine ocase (x := pAt v.1 (sPn v) (nI (x)) (nI (y))) (fun ho_u => ?_) (fun u ho_u => ?_)
      · skip
        refine lv_istore (lv' := [(4, .int (iI (-1))), (0, .ref (a 0)), (1, .int (nI (q))), (2, .int (nI (x))), (3, .int (nI (y)))]) hx hb dX2_move_48 hl (by decide) rfl (fun ls hl => ?_)
        refine lv_iload hx hb dX2_move_50 (lv_at hl 0 rfl) ?_
        refine lv_iconst (v := iI (-1)) hx hb dX2_move_52 (by decide) ?_
        refine lv_icmp_eq (tgt := 72) hx hb dX2_move_53 (by decide) (fun c_4 => ?_) (fun c_4 => absurd rfl c_4)
        refine lv_aload_n hx hb dX2_move_72 rfl (lv_at hl 1 rfl) ?_
        refine va_get (D := (dC, dI)) (ci := 2) (v := .ref (a 1)) (C := RX2) (T := TX2) (N := 6) hx hb hts (by decide +kernel) hown hK hP 0 rfl rfl 0 (by decide) (hts (.fieldLink RX2 10 "TriangleSheet" "points" "LTriangleSheet$Points;") (by decide +kernel)) (fun _ h9 => h9) rfl dX2_move_73 ?_
        refine lv_iload_n hx hb dX2_move_76 rfl (lv_at hl 2 rfl) ?_
        refine lv_iload_n hx hb dX2_move_77 rfl (lv_at hl 3 rfl) ?_
        refine lv_iload_n hx hb dX2_move_78 rfl (lv_at hl 4 rfl) ?_
        refine wr_V (As := [.int (nI (q)), .int (nI (x)), .int (nI (y))]) (rest := []) (q0 := 1) (ci := 0) hx hb hml hown hts (c_X0_put l dC dI cI cL cZ a v q x y (by omega)) (cwV 3 hts gX2_move_X0_put rfl rfl rfl (by decide +kernel) ⟨Nat.le_of_ble_eq_true rfl, Nat.le_of_ble_eq_true rfl⟩) hK hP hD hS rfl rfl rfl rfl hl.1 rfl (Nat.le_of_ble_eq_true rfl) dX2_move_79 ⟨Nat.zero_le _, Nat.zero_le _⟩ (fun H locs hP hD hS => ?_)
        have hP : va_P (dC, dI) vwCl (wS cI cL a (sPut v q x y)) H := hP
        have hD : va_D (inW (wS cI cL a v)) (wS cI cL a (sPut v q x y)) := hD
        refine W.eq (g2 := F0 m 82 ls []) rfl ?_
        exact wr_vret hx hb hr hP hS rfl rfl dX2_move_82 hlocks
      · skip
        have hu9 := pAt_lt ho_u
        have huq : u = q := by { rw [ho_u] at hc; rcases hc with h | h; cases h; exact Option.some.inj h }
        refine lv_istore (lv' := [(4, .int (nI (u))), (0, .ref (a 0)), (1, .int (nI (q))), (2, .int (nI (x))), (3, .int (nI (y)))]) hx hb dX2_move_48 hl (by decide) rfl (fun ls hl => ?_)
        refine lv_iload hx hb dX2_move_50 (lv_at hl 0 rfl) ?_
        refine lv_iconst (v := iI (-1)) hx hb dX2_move_52 (by decide) ?_
        refine lv_icmp_eq (tgt := 72) hx hb dX2_move_53 (by decide) (fun c_5 => absurd c_5 (ne_m1 (by omega))) (fun c_5 => ?_)
        refine lv_iload hx hb dX2_move_56 (lv_at hl 0 rfl) ?_
        refine lv_iload_n hx hb dX2_move_58 rfl (lv_at hl 2 rfl) ?_
        refine lv_icmp_eq (tgt := 72) hx hb dX2_move_59 (by decide) (fun c_6 => ?_) (fun c_6 => ?_)
        · skip
          have c_6 : u = q := (nI_eq (a := u) (b := q) (by omega) (by omega)).mp c_6
          refine lv_aload_n hx hb dX2_move_72 rfl (lv_at hl 1 rfl) ?_
          refine va_get (D := (dC, dI)) (ci := 2) (v := .ref (a 1)) (C := RX2) (T := TX2) (N := 6) hx hb hts (by decide +kernel) hown hK hP 0 rfl rfl 0 (by decide) (hts (.fieldLink RX2 10 "TriangleSheet" "points" "LTriangleSheet$Points;") (by decide +kernel)) (fun _ h9 => h9) rfl dX2_move_73 ?_
          refine lv_iload_n hx hb dX2_move_76 rfl (lv_at hl 2 rfl) ?_
          refine lv_iload_n hx hb dX2_move_77 rfl (lv_at hl 3 rfl) ?_
          refine lv_iload_n hx hb dX2_move_78 rfl (lv_at hl 4 rfl) ?_
          refine wr_V (As := [.int (nI (q)), .int (nI (x)), .int (nI (y))]) (rest := []) (q0 := 1) (ci := 0) hx hb hml hown hts (c_X0_put l dC dI cI cL cZ a v q x y (by omega)) (cwV 3 hts gX2_move_X0_put rfl rfl rfl (by decide +kernel) ⟨Nat.le_of_ble_eq_true rfl, Nat.le_of_ble_eq_true rfl⟩) hK hP hD hS rfl rfl rfl rfl hl.1 rfl (Nat.le_of_ble_eq_true rfl) dX2_move_79 ⟨Nat.zero_le _, Nat.zero_le _⟩ (fun H locs hP hD hS => ?_)
          have hP : va_P (dC, dI) vwCl (wS cI cL a (sPut v q x y)) H := hP
          have hD : va_D (inW (wS cI cL a v)) (wS cI cL a (sPut v q x y)) := hD
          refine W.eq (g2 := F0 m 82 ls []) rfl ?_
          exact wr_vret hx hb hr hP hS rfl rfl dX2_move_82 hlocks
        · skip
          have c_6 : ¬ (u = q) := fun hq9 => c_6 ((nI_eq (a := u) (b := q) (by omega) (by omega)).mpr hq9)
          exact absurd huq c_6
    · skip
      have c_2 : (inB (nI (x)) 512 && inB (nI (y)) 512) = false := bI_f c_2
      exact absurd c_2 (by rw [inB_nI (by omega), inB_nI (by omega)]; simp; omega)
  · skip
    have c_1 : (inB (nI (q)) (sPn v)) = false := bI_f c_1
    exact absurd c_1 (by rw [inB_nI (by omega)]; simp; omega)
set_option maxHeartbeats 4000000 in
set_option maxRecDepth 100000 in
theorem c_X2_triangle_0 (l : Launch) (dC : Nat → ClassId) (dI : Nat → Nat → Nat) (cI cL cZ : ClassId) (a : Nat → Nat) (v : SV) (i j q : Nat) (hv : okS v) (hi : i < sPn v) (hj : j < sPn v) (hq : q < sPn v) (hc : i ≠ j ∧ j ≠ q ∧ i ≠ q) (hd : sTn v < 60 ∧ sTm v < 200) : Met l yX2_triangle wsX2_triangle ({ frames := 2, cells := 0, slots := 0, locals := 48 }) (va_Pc [.ref (a 0), .int (nI (i)), .int (nI (j)), .int (nI (q))] (wr_B (dC, dI) vwCl (wS cI cL a v) (tyS cI cL cZ))) (wr_Q (some (.int (nI (sTm v)))) (dC, dI) vwCl (wS cI cL a v) (wS cI cL a (sAddT v i j q))) 0 0 (inW (wS cI cL a v)) := by
  refine wr_Met (cc := cX2_triangle) (maxL := 4) (ret := (some .int)) (by decide) rfl (Nat.le_of_ble_eq_true rfl) ?_
  intro pr en s m below meth co ls hx hb hml hr hlocks hown hts hP hK hD hS hl
  have hl : lv_has ls 4 [(0, .ref (a 0)), (1, .int (nI (i))), (2, .int (nI (j))), (3, .int (nI (q)))] := hl
  have hown : s.vm.findClass RX2 = some m.cls := hown
  have hvp : sPn v ≤ 60 ∧ sTn v ≤ 60 ∧ sTm v ≤ 200 := ⟨hv.2.1, hv.2.2.2.1, hv.2.2.2.2.1⟩
  refine lv_aload_n hx hb dX2_triangle_0 rfl (lv_at hl 0 rfl) ?_
  refine va_get (D := (dC, dI)) (ci := 2) (v := .ref (a 1)) (C := RX2) (T := TX2) (N := 6) hx hb hts (by decide +kernel) hown hK hP 0 rfl rfl 0 (by decide) (hts (.fieldLink RX2 10 "TriangleSheet" "points" "LTriangleSheet$Points;") (by decide +kernel)) (fun _ h9 => h9) rfl dX2_triangle_1 ?_
  refine lv_iload_n hx hb dX2_triangle_4 rfl (lv_at hl 1 rfl) ?_
  refine ro_V (As := [.int (nI (i))]) (rest := []) (q0 := 1) (ci := 0) hx hb hml hown hts (c_X0_isPoint l dC dI cI cL cZ a v (nI (i)) hv) (cwV 1 hts gX2_triangle_X0_isPoint rfl rfl rfl (by decide +kernel) ⟨Nat.le_of_ble_eq_true rfl, Nat.le_of_ble_eq_true rfl⟩) hK hP rfl rfl rfl hl.1 rfl (Nat.le_of_ble_eq_true rfl) dX2_triangle_5 ⟨Nat.zero_le _, Nat.zero_le _⟩ ?_
  refine lv_if_eq (tgt := 33) hx hb dX2_triangle_8 (by decide) (fun c_1 => ?_) (fun c_1 => ?_)
  · skip
    have c_1 : (inB (nI (i)) (sPn v)) = false := bI_f c_1
    exact absurd c_1 (by rw [inB_nI (by omega)]; simp; omega)
  · skip
    have c_1 : (inB (nI (i)) (sPn v)) = true := bI_t c_1
    refine lv_aload_n hx hb dX2_triangle_11 rfl (lv_at hl 0 rfl) ?_
    refine va_get (D := (dC, dI)) (ci := 2) (v := .ref (a 1)) (C := RX2) (T := TX2) (N := 6) hx hb hts (by decide +kernel) hown hK hP 0 rfl rfl 0 (by decide) (hts (.fieldLink RX2 10 "TriangleSheet" "points" "LTriangleSheet$Points;") (by decide +kernel)) (fun _ h9 => h9) rfl dX2_triangle_12 ?_
    refine lv_iload_n hx hb dX2_triangle_15 rfl (lv_at hl 2 rfl) ?_
    refine ro_V (As := [.int (nI (j))]) (rest := []) (q0 := 1) (ci := 0) hx hb hml hown hts (c_X0_isPoint l dC dI cI cL cZ a v (nI (j)) hv) (cwV 1 hts gX2_triangle_X0_isPoint rfl rfl rfl (by decide +kernel) ⟨Nat.le_of_ble_eq_true rfl, Nat.le_of_ble_eq_true rfl⟩) hK hP rfl rfl rfl hl.1 rfl (Nat.le_of_ble_eq_true rfl) dX2_triangle_16 ⟨Nat.zero_le _, Nat.zero_le _⟩ ?_
    refine lv_if_eq (tgt := 33) hx hb dX2_triangle_19 (by decide) (fun c_2 => ?_) (fun c_2 => ?_)
    · skip
      have c_2 : (inB (nI (j)) (sPn v)) = false := bI_f c_2
      exact absurd c_2 (by rw [inB_nI (by omega)]; simp; omega)
    · skip
      have c_2 : (inB (nI (j)) (sPn v)) = true := bI_t c_2
      refine lv_aload_n hx hb dX2_triangle_22 rfl (lv_at hl 0 rfl) ?_
      refine va_get (D := (dC, dI)) (ci := 2) (v := .ref (a 1)) (C := RX2) (T := TX2) (N := 6) hx hb hts (by decide +kernel) hown hK hP 0 rfl rfl 0 (by decide) (hts (.fieldLink RX2 10 "TriangleSheet" "points" "LTriangleSheet$Points;") (by decide +kernel)) (fun _ h9 => h9) rfl dX2_triangle_23 ?_
      refine lv_iload_n hx hb dX2_triangle_26 rfl (lv_at hl 3 rfl) ?_
      refine ro_V (As := [.int (nI (q))]) (rest := []) (q0 := 1) (ci := 0) hx hb hml hown hts (c_X0_isPoint l dC dI cI cL cZ a v (nI (q)) hv) (cwV 1 hts gX2_triangle_X0_isPoint rfl rfl rfl (by decide +kernel) ⟨Nat.le_of_ble_eq_true rfl, Nat.le_of_ble_eq_true rfl⟩) hK hP rfl rfl rfl hl.1 rfl (Nat.le_of_ble_eq_true rfl) dX2_triangle_27 ⟨Nat.zero_le _, Nat.zero_le _⟩ ?_
      refine lv_if_ne (tgt := 43) hx hb dX2_triangle_30 (by decide) (fun c_3 => ?_) (fun c_3 => ?_)
      · skip
        have c_3 : (inB (nI (q)) (sPn v)) = true := bI_t c_3
        refine lv_iload_n hx hb dX2_triangle_43 rfl (lv_at hl 1 rfl) ?_
        refine lv_iload_n hx hb dX2_triangle_44 rfl (lv_at hl 2 rfl) ?_
        refine lv_icmp_eq (tgt := 58) hx hb dX2_triangle_45 (by decide) (fun c_4 => ?_) (fun c_4 => ?_)
        · skip
          have c_4 : i = j := (nI_eq (a := i) (b := j) (by omega) (by omega)).mp c_4
          omega
        · skip
          have c_4 : ¬ (i = j) := fun hq9 => c_4 ((nI_eq (a := i) (b := j) (by omega) (by omega)).mpr hq9)
          refine lv_iload_n hx hb dX2_triangle_48 rfl (lv_at hl 2 rfl) ?_
          refine lv_iload_n hx hb dX2_triangle_49 rfl (lv_at hl 3 rfl) ?_
          refine lv_icmp_eq (tgt := 58) hx hb dX2_triangle_50 (by decide) (fun c_5 => ?_) (fun c_5 => ?_)
          · skip
            have c_5 : j = q := (nI_eq (a := j) (b := q) (by omega) (by omega)).mp c_5
            omega
          · skip
            have c_5 : ¬ (j = q) := fun hq9 => c_5 ((nI_eq (a := j) (b := q) (by omega) (by omega)).mpr hq9)
            refine lv_iload_n hx hb dX2_triangle_53 rfl (lv_at hl 3 rfl) ?_
            refine lv_iload_n hx hb dX2_triangle_54 rfl (lv_at hl 1 rfl) ?_
            refine lv_icmp_ne (tgt := 68) hx hb dX2_triangle_55 (by decide) (fun c_6 => ?_) (fun c_6 => ?_)
            · skip
              have c_6 : ¬ (q = i) := fun hq9 => c_6 ((nI_eq (a := q) (b := i) (by omega) (by omega)).mpr hq9)
              refine lv_aload_n hx hb dX2_triangle_68 rfl (lv_at hl 0 rfl) ?_
              refine va_get (D := (dC, dI)) (ci := 2) (v := .ref (a 4)) (C := RX2) (T := TX2) (N := 6) hx hb hts (by decide +kernel) hown hK hP 0 rfl rfl 1 (by decide) (hts (.fieldLink RX2 19 "TriangleSheet" "triangles" "LTriangleSheet$Triangles;") (by decide +kernel)) (fun _ h9 => h9) rfl dX2_triangle_69 ?_
              refine lv_iconst (v := nI (1)) hx hb dX2_triangle_72 (by decide) ?_
              refine ro_V (As := [.int (nI (1))]) (rest := []) (q0 := 4) (ci := 1) hx hb hml hown hts (c_X1_canAdd l dC dI cI cL cZ a v 1 hv (by omega)) (cwV 1 hts gX2_triangle_X1_canAdd rfl rfl rfl (by decide +kernel) ⟨Nat.le_of_ble_eq_true rfl, Nat.le_of_ble_eq_true rfl⟩) hK hP rfl rfl rfl hl.1 rfl (Nat.le_of_ble_eq_true rfl) dX2_triangle_73 ⟨Nat.zero_le _, Nat.zero_le _⟩ ?_
              refine lv_if_ne (tgt := 89) hx hb dX2_triangle_76 (by decide) (fun c_7 => ?_) (fun c_7 => ?_)
              · skip
                have c_7 : (decide (sTn v + 1 ≤ 60) && decide (sTm v + 1 ≤ 200)) = true := bI_t c_7
                refine lv_aload_n hx hb dX2_triangle_89 rfl (lv_at hl 0 rfl) ?_
                refine va_get (D := (dC, dI)) (ci := 2) (v := .ref (a 4)) (C := RX2) (T := TX2) (N := 6) hx hb hts (by decide +kernel) hown hK hP 0 rfl rfl 1 (by decide) (hts (.fieldLink RX2 19 "TriangleSheet" "triangles" "LTriangleSheet$Triangles;") (by decide +kernel)) (fun _ h9 => h9) rfl dX2_triangle_90 ?_
                refine lv_iload_n hx hb dX2_triangle_93 rfl (lv_at hl 1 rfl) ?_
                refine lv_iload_n hx hb dX2_triangle_94 rfl (lv_at hl 2 rfl) ?_
                refine lv_iload_n hx hb dX2_triangle_95 rfl (lv_at hl 3 rfl) ?_
                refine wr_V (As := [.int (nI (i)), .int (nI (j)), .int (nI (q))]) (rest := []) (q0 := 4) (ci := 1) hx hb hml hown hts (c_X1_add l dC dI cI cL cZ a v i j q (by omega) (by omega)) (cwV 3 hts gX2_triangle_X1_add rfl rfl rfl (by decide +kernel) ⟨Nat.le_of_ble_eq_true rfl, Nat.le_of_ble_eq_true rfl⟩) hK hP hD hS rfl rfl rfl rfl hl.1 rfl (Nat.le_of_ble_eq_true rfl) dX2_triangle_96 ⟨Nat.zero_le _, Nat.zero_le _⟩ (fun H locs hP hD hS => ?_)
                have hP : va_P (dC, dI) vwCl (wS cI cL a (sAddT v i j q)) H := hP
                have hD : va_D (inW (wS cI cL a v)) (wS cI cL a (sAddT v i j q)) := hD
                refine W.eq (g2 := F0 m 99 ls [.int (nI (sTm v))]) rfl ?_
                exact wr_iret hx hb hr hP hS rfl rfl dX2_triangle_99 hlocks
              · skip
                have c_7 : (decide (sTn v + 1 ≤ 60) && decide (sTm v + 1 ≤ 200)) = false := bI_f c_7
                exact absurd c_7 (by simp; omega)
            · skip
              have c_6 : q = i := (nI_eq (a := q) (b := i) (by omega) (by omega)).mp c_6
              omega
      · skip
        have c_3 : (inB (nI (q)) (sPn v)) = false := bI_f c_3
        exact absurd c_3 (by rw [inB_nI (by omega)]; simp; omega)
set_option maxHeartbeats 4000000 in
set_option maxRecDepth 100000 in
theorem c_X2_take_0 (l : Launch) (dC : Nat → ClassId) (dI : Nat → Nat → Nat) (cI cL cZ : ClassId) (a : Nat → Nat) (v : SV) (t : Nat) (hv : okS v) (ht : t < 200) (hc : thB (sTh v) (sTn v) (nI t) = true) : Met l yX2_take wsX2_take ({ frames := 1, cells := 0, slots := 0, locals := 23 }) (va_Pc [.ref (a 0), .int (nI (t))] (wr_B (dC, dI) vwCl (wS cI cL a v) (tyS cI cL cZ))) (wr_Q none (dC, dI) vwCl (wS cI cL a v) (wS cI cL a (sRem v t))) 0 0 (inW (wS cI cL a v)) := by
  refine wr_Met (cc := cX2_take) (maxL := 2) (ret := none) (by decide) rfl (Nat.le_of_ble_eq_true rfl) ?_
  intro pr en s m below meth co ls hx hb hml hr hlocks hown hts hP hK hD hS hl
  have hl : lv_has ls 2 [(0, .ref (a 0)), (1, .int (nI (t)))] := hl
  have hown : s.vm.findClass RX2 = some m.cls := hown
  have hvp : sPn v ≤ 60 ∧ sTn v ≤ 60 ∧ sTm v ≤ 200 := ⟨hv.2.1, hv.2.2.2.1, hv.2.2.2.2.1⟩
  refine lv_aload_n hx hb dX2_take_0 rfl (lv_at hl 0 rfl) ?_
  refine va_get (D := (dC, dI)) (ci := 2) (v := .ref (a 4)) (C := RX2) (T := TX2) (N := 6) hx hb hts (by decide +kernel) hown hK hP 0 rfl rfl 1 (by decide) (hts (.fieldLink RX2 19 "TriangleSheet" "triangles" "LTriangleSheet$Triangles;") (by decide +kernel)) (fun _ h9 => h9) rfl dX2_take_1 ?_
  refine lv_iload_n hx hb dX2_take_4 rfl (lv_at hl 1 rfl) ?_
  refine ro_V (As := [.int (nI (t))]) (rest := []) (q0 := 4) (ci := 1) hx hb hml hown hts (c_X1_isThere l dC dI cI cL cZ a v (nI (t)) hv) (cwV 1 hts gX2_take_X1_isThere rfl rfl rfl (by decide +kernel) ⟨Nat.le_of_ble_eq_true rfl, Nat.le_of_ble_eq_true rfl⟩) hK hP rfl rfl rfl hl.1 rfl (Nat.le_of_ble_eq_true rfl) dX2_take_5 ⟨Nat.zero_le _, Nat.zero_le _⟩ ?_
  refine lv_if_ne (tgt := 21) hx hb dX2_take_8 (by decide) (fun c_1 => ?_) (fun c_1 => ?_)
  · skip
    have c_1 : (thB (sTh v) (sTn v) (nI (t))) = true := bI_t c_1
    refine lv_aload_n hx hb dX2_take_21 rfl (lv_at hl 0 rfl) ?_
    refine va_get (D := (dC, dI)) (ci := 2) (v := .ref (a 4)) (C := RX2) (T := TX2) (N := 6) hx hb hts (by decide +kernel) hown hK hP 0 rfl rfl 1 (by decide) (hts (.fieldLink RX2 19 "TriangleSheet" "triangles" "LTriangleSheet$Triangles;") (by decide +kernel)) (fun _ h9 => h9) rfl dX2_take_22 ?_
    refine lv_iload_n hx hb dX2_take_25 rfl (lv_at hl 1 rfl) ?_
    refine wr_V (As := [.int (nI (t))]) (rest := []) (q0 := 4) (ci := 1) hx hb hml hown hts (c_X1_remove l dC dI cI cL cZ a v t hv (by omega)) (cwV 1 hts gX2_take_X1_remove rfl rfl rfl (by decide +kernel) ⟨Nat.le_of_ble_eq_true rfl, Nat.le_of_ble_eq_true rfl⟩) hK hP hD hS rfl rfl rfl rfl hl.1 rfl (Nat.le_of_ble_eq_true rfl) dX2_take_26 ⟨Nat.zero_le _, Nat.zero_le _⟩ (fun H locs hP hD hS => ?_)
    have hP : va_P (dC, dI) vwCl (wS cI cL a (sRem v t)) H := hP
    have hD : va_D (inW (wS cI cL a v)) (wS cI cL a (sRem v t)) := hD
    refine W.eq (g2 := F0 m 29 ls []) rfl ?_
    exact wr_vret hx hb hr hP hS rfl rfl dX2_take_29 hlocks
  · skip
    have c_1 : (thB (sTh v) (sTn v) (nI (t))) = false := bI_f c_1
    exact absurd c_1 (by rw [hc]; decide)
set_option maxHeartbeats 4000000 in
set_option maxRecDepth 100000 in
theorem c_X2_turn_0 (l : Launch) (dC : Nat → ClassId) (dI : Nat → Nat → Nat) (cI cL cZ : ClassId) (a : Nat → Nat) (v : SV) (t j : Nat) (hv : okS v) (ht : t < 200) (hj : j < 3) (hc : thB (sTh v) (sTn v) (nI t) = true) : Met l yX2_turn wsX2_turn ({ frames := 3, cells := 0, slots := 0, locals := 78 }) (va_Pc [.ref (a 0), .int (nI (t)), .int (nI (j))] (wr_B (dC, dI) vwCl (wS cI cL a v) (tyS cI cL cZ))) (wr_Q (some (.int (bI (tuB v.1 (sTh v) (sTn v) t j)))) (dC, dI) vwCl (wS cI cL a v) (wS cI cL a (tuS v t j))) 0 0 (inW (wS cI cL a v)) := by
  refine wr_Met (cc := cX2_turn) (maxL := 3) (ret := (some .boolean)) (by decide) rfl (Nat.le_of_ble_eq_true rfl) ?_
  intro pr en s m below meth co ls hx hb hml hr hlocks hown hts hP hK hD hS hl
  have hl : lv_has ls 3 [(0, .ref (a 0)), (1, .int (nI (t))), (2, .int (nI (j)))] := hl
  have hown : s.vm.findClass RX2 = some m.cls := hown
  have hvp : sPn v ≤ 60 ∧ sTn v ≤ 60 ∧ sTm v ≤ 200 := ⟨hv.2.1, hv.2.2.2.1, hv.2.2.2.2.1⟩
  refine lv_aload_n hx hb dX2_turn_0 rfl (lv_at hl 0 rfl) ?_
  refine lv_iload_n hx hb dX2_turn_1 rfl (lv_at hl 1 rfl) ?_
  refine lv_iload_n hx hb dX2_turn_2 rfl (lv_at hl 2 rfl) ?_
  refine ro_V (As := [.int (nI (t)), .int (nI (j))]) (rest := []) (q0 := 0) (ci := 2) hx hb hml hown hts (c_X2_isEdge l dC dI cI cL cZ a v (nI (t)) (nI (j)) hv) (cwV 2 hts gX2_turn_X2_isEdge rfl rfl rfl (by decide +kernel) ⟨Nat.le_of_ble_eq_true rfl, Nat.le_of_ble_eq_true rfl⟩) hK hP rfl rfl rfl hl.1 rfl (Nat.le_of_ble_eq_true rfl) dX2_turn_3 ⟨Nat.zero_le _, Nat.zero_le _⟩ ?_
  refine lv_if_ne (tgt := 19) hx hb dX2_turn_6 (by decide) (fun c_1 => ?_) (fun c_1 => ?_)
  · skip
    have c_1 : (inB (nI (j)) 3 && thB (sTh v) (sTn v) (nI (t))) = true := bI_t c_1
    refine lv_aload_n hx hb dX2_turn_19 rfl (lv_at hl 0 rfl) ?_
    refine lv_iload_n hx hb dX2_turn_20 rfl (lv_at hl 1 rfl) ?_
    refine lv_iload_n hx hb dX2_turn_21 rfl (lv_at hl 2 rfl) ?_
    refine wr_V (As := [.int (nI (t)), .int (nI (j))]) (rest := []) (q0 := 0) (ci := 2) hx hb hml hown hts (c_X2_turnEdge l dC dI cI cL cZ a v t j hv (by omega) (by omega)) (cwV 2 hts gX2_turn_X2_turnEdge rfl rfl rfl (by decide +kernel) ⟨Nat.le_of_ble_eq_true rfl, Nat.le_of_ble_eq_true rfl⟩) hK hP hD hS rfl rfl rfl rfl hl.1 rfl (Nat.le_of_ble_eq_true rfl) dX2_turn_22 ⟨Nat.zero_le _, Nat.zero_le _⟩ (fun H locs hP hD hS => ?_)
    have hP : va_P (dC, dI) vwCl (wS cI cL a (tuS v t j)) H := hP
    have hD : va_D (inW (wS cI cL a v)) (wS cI cL a (tuS v t j)) := hD
    refine W.eq (g2 := F0 m 25 ls [.int (bI (tuB v.1 (sTh v) (sTn v) t j))]) rfl ?_
    exact wr_zret hx hb hr (nar_b _) hP hS rfl rfl dX2_turn_25 hlocks
  · skip
    have c_1 : (inB (nI (j)) 3 && thB (sTh v) (sTn v) (nI (t))) = false := bI_f c_1
    exact absurd c_1 (by rw [hc, inB_nI (by omega)]; simp; omega)
set_option maxHeartbeats 4000000 in
set_option maxRecDepth 100000 in
theorem c_X2_part_0 (l : Launch) (dC : Nat → ClassId) (dI : Nat → Nat → Nat) (cI cL cZ : ClassId) (a : Nat → Nat) (v : SV) (t x y : Nat) (hv : okS v) (ht : t < 200) (hx9 : x < 512) (hy9 : y < 512) (hc : thB (sTh v) (sTn v) (nI t) = true) (hd : wit v.1 t (x : Int) (y : Int) = true) (he : pAt v.1 (sPn v) (nI x) (nI y) = none ∧ sPn v < 60 ∧ sTn v + 2 ≤ 60 ∧ sTm v + 2 ≤ 200) : Met l yX2_part wsX2_part ({ frames := 3, cells := 0, slots := 0, locals := 72 }) (va_Pc [.ref (a 0), .int (nI (t)), .int (nI (x)), .int (nI (y))] (wr_B (dC, dI) vwCl (wS cI cL a v) (tyS cI cL cZ))) (wr_Q (some (.int (nI (sPn v)))) (dC, dI) vwCl (wS cI cL a v) (wS cI cL a (sPar v t x y))) 0 0 (inW (wS cI cL a v)) := by
  refine wr_Met (cc := cX2_part) (maxL := 8) (ret := (some .int)) (by decide) rfl (Nat.le_of_ble_eq_true rfl) ?_
  intro pr en s m below meth co ls hx hb hml hr hlocks hown hts hP hK hD hS hl
  have hl : lv_has ls 8 [(0, .ref (a 0)), (1, .int (nI (t))), (2, .int (nI (x))), (3, .int (nI (y)))] := hl
  have hown : s.vm.findClass RX2 = some m.cls := hown
  have hvp : sPn v ≤ 60 ∧ sTn v ≤ 60 ∧ sTm v ≤ 200 := ⟨hv.2.1, hv.2.2.2.1, hv.2.2.2.2.1⟩
  have hgz := gc_lt hv.1 (t := t) (k := 0)
  have hg1 := gc_lt hv.1 (t := t) (k := 1)
  have hg2 := gc_lt hv.1 (t := t) (k := 2)
  refine lv_aload_n hx hb dX2_part_0 rfl (lv_at hl 0 rfl) ?_
  refine va_get (D := (dC, dI)) (ci := 2) (v := .ref (a 4)) (C := RX2) (T := TX2) (N := 6) hx hb hts (by decide +kernel) hown hK hP 0 rfl rfl 1 (by decide) (hts (.fieldLink RX2 19 "TriangleSheet" "triangles" "LTriangleSheet$Triangles;") (by decide +kernel)) (fun _ h9 => h9) rfl dX2_part_1 ?_
  refine lv_iload_n hx hb dX2_part_4 rfl (lv_at hl 1 rfl) ?_
  refine ro_V (As := [.int (nI (t))]) (rest := []) (q0 := 4) (ci := 1) hx hb hml hown hts (c_X1_isThere l dC dI cI cL cZ a v (nI (t)) hv) (cwV 1 hts gX2_part_X1_isThere rfl rfl rfl (by decide +kernel) ⟨Nat.le_of_ble_eq_true rfl, Nat.le_of_ble_eq_true rfl⟩) hK hP rfl rfl rfl hl.1 rfl (Nat.le_of_ble_eq_true rfl) dX2_part_5 ⟨Nat.zero_le _, Nat.zero_le _⟩ ?_
  refine lv_if_ne (tgt := 21) hx hb dX2_part_8 (by decide) (fun c_1 => ?_) (fun c_1 => ?_)
  · skip
    have c_1 : (thB (sTh v) (sTn v) (nI (t))) = true := bI_t c_1
    refine lv_iload_n hx hb dX2_part_21 rfl (lv_at hl 2 rfl) ?_
    refine lv_iload_n hx hb dX2_part_22 rfl (lv_at hl 3 rfl) ?_
    refine ro_S (As := [.int (nI (x)), .int (nI (y))]) (rest := []) hx hb hml hown hts (c_X2_isPlace l dC dI  (nI (x)) (nI (y)) ) (va_cwS 2 hts gX2_part_X2_isPlace rfl rfl rfl (by decide +kernel) ⟨Nat.le_of_ble_eq_true rfl, Nat.le_of_ble_eq_true rfl⟩) (hK.sub [] rfl) (hP.sub [] rfl) rfl hl.1 rfl (Nat.le_of_ble_eq_true rfl) dX2_part_23 ⟨Nat.zero_le _, Nat.zero_le _⟩ ?_
    refine lv_if_eq (tgt := 39) hx hb dX2_part_26 (by decide) (fun c_2 => ?_) (fun c_2 => ?_)
    · skip
      have c_2 : (inB (nI (x)) 512 && inB (nI (y)) 512) = false := bI_f c_2
      exact absurd c_2 (by rw [inB_nI (by omega), inB_nI (by omega)]; simp; omega)
    · skip
      have c_2 : (inB (nI (x)) 512 && inB (nI (y)) 512) = true := bI_t c_2
      refine lv_aload_n hx hb dX2_part_29 rfl (lv_at hl 0 rfl) ?_
      refine lv_iload_n hx hb dX2_part_30 rfl (lv_at hl 1 rfl) ?_
      refine lv_iload_n hx hb dX2_part_31 rfl (lv_at hl 2 rfl) ?_
      refine lv_iload_n hx hb dX2_part_32 rfl (lv_at hl 3 rfl) ?_
      refine ro_V (As := [.int (nI (t)), .int (nI (x)), .int (nI (y))]) (rest := []) (q0 := 0) (ci := 2) hx hb hml hown hts (c_X2_isWithin l dC dI cI cL cZ a v t x y hv (by omega) (by omega) (by omega)) (cwV 3 hts gX2_part_X2_isWithin rfl rfl rfl (by decide +kernel) ⟨Nat.le_of_ble_eq_true rfl, Nat.le_of_ble_eq_true rfl⟩) hK hP rfl rfl rfl hl.1 rfl (Nat.le_of_ble_eq_true rfl) dX2_part_33 ⟨Nat.zero_le _, Nat.zero_le _⟩ ?_
      refine lv_if_ne (tgt := 49) hx hb dX2_part_36 (by decide) (fun c_3 => ?_) (fun c_3 => ?_)
      · skip
        have c_3 : (wit v.1 t (x : Int) (y : Int)) = true := bI_t c_3
        refine lv_aload_n hx hb dX2_part_49 rfl (lv_at hl 0 rfl) ?_
        refine va_get (D := (dC, dI)) (ci := 2) (v := .ref (a 1)) (C := RX2) (T := TX2) (N := 6) hx hb hts (by decide +kernel) hown hK hP 0 rfl rfl 0 (by decide) (hts (.fieldLink RX2 10 "TriangleSheet" "points" "LTriangleSheet$Points;") (by decide +kernel)) (fun _ h9 => h9) rfl dX2_part_50 ?_
        refine lv_iload_n hx hb dX2_part_53 rfl (lv_at hl 2 rfl) ?_
        refine lv_iload_n hx hb dX2_part_54 rfl (lv_at hl 3 rfl) ?_
        refine ro_V (As := [.int (nI (x)), .int (nI (y))]) (rest := []) (q0 := 1) (ci := 0) hx hb hml hown hts (c_X0_canAdd l dC dI cI cL cZ a v (nI (x)) (nI (y)) hv) (cwV 2 hts gX2_part_X0_canAdd rfl rfl rfl (by decide +kernel) ⟨Nat.le_of_ble_eq_true rfl, Nat.le_of_ble_eq_true rfl⟩) hK hP rfl rfl rfl hl.1 rfl (Nat.le_of_ble_eq_true rfl) dX2_part_55 ⟨Nat.zero_le _, Nat.zero_le _⟩ ?_
        refine lv_if_eq (tgt := 72) hx hb dX2_part_58 (by decide) (fun c_4 => ?_) (fun c_4 => ?_)
        · skip
          have c_4 : (decide (sPn v < 60) && decide (pAt v.1 (sPn v) (nI (x)) (nI (y)) = none)) = false := bI_f c_4
          exact absurd c_4 (by simp [he.1, he.2.1])
        · skip
          have c_4 : (decide (sPn v < 60) && decide (pAt v.1 (sPn v) (nI (x)) (nI (y)) = none)) = true := bI_t c_4
          refine lv_aload_n hx hb dX2_part_61 rfl (lv_at hl 0 rfl) ?_
          refine va_get (D := (dC, dI)) (ci := 2) (v := .ref (a 4)) (C := RX2) (T := TX2) (N := 6) hx hb hts (by decide +kernel) hown hK hP 0 rfl rfl 1 (by decide) (hts (.fieldLink RX2 19 "TriangleSheet" "triangles" "LTriangleSheet$Triangles;") (by decide +kernel)) (fun _ h9 => h9) rfl dX2_part_62 ?_
          refine lv_iconst (v := nI (2)) hx hb dX2_part_65 (by decide) ?_
          refine ro_V (As := [.int (nI (2))]) (rest := []) (q0 := 4) (ci := 1) hx hb hml hown hts (c_X1_canAdd l dC dI cI cL cZ a v 2 hv (by omega)) (cwV 1 hts gX2_part_X1_canAdd rfl rfl rfl (by decide +kernel) ⟨Nat.le_of_ble_eq_true rfl, Nat.le_of_ble_eq_true rfl⟩) hK hP rfl rfl rfl hl.1 rfl (Nat.le_of_ble_eq_true rfl) dX2_part_66 ⟨Nat.zero_le _, Nat.zero_le _⟩ ?_
          refine lv_if_ne (tgt := 82) hx hb dX2_part_69 (by decide) (fun c_5 => ?_) (fun c_5 => ?_)
          · skip
            have c_5 : (decide (sTn v + 2 ≤ 60) && decide (sTm v + 2 ≤ 200)) = true := bI_t c_5
            refine lv_aload_n hx hb dX2_part_82 rfl (lv_at hl 0 rfl) ?_
            refine va_get (D := (dC, dI)) (ci := 2) (v := .ref (a 4)) (C := RX2) (T := TX2) (N := 6) hx hb hts (by decide +kernel) hown hK hP 0 rfl rfl 1 (by decide) (hts (.fieldLink RX2 19 "TriangleSheet" "triangles" "LTriangleSheet$Triangles;") (by decide +kernel)) (fun _ h9 => h9) rfl dX2_part_83 ?_
            refine lv_iload_n hx hb dX2_part_86 rfl (lv_at hl 1 rfl) ?_
            refine lv_iconst (v := nI (0)) hx hb dX2_part_87 (by decide) ?_
            refine ro_V (As := [.int (nI (t)), .int (nI (0))]) (rest := []) (q0 := 4) (ci := 1) hx hb hml hown hts (c_X1_cornerOf l dC dI cI cL cZ a v t 0 (by omega) (by omega)) (cwV 2 hts gX2_part_X1_cornerOf rfl rfl rfl (by decide +kernel) ⟨Nat.le_of_ble_eq_true rfl, Nat.le_of_ble_eq_true rfl⟩) hK hP rfl rfl rfl hl.1 rfl (Nat.le_of_ble_eq_true rfl) dX2_part_88 ⟨Nat.zero_le _, Nat.zero_le _⟩ ?_
            refine lv_istore (lv' := [(4, .int (nI (gc v.1 t 0))), (0, .ref (a 0)), (1, .int (nI (t))), (2, .int (nI (x))), (3, .int (nI (y)))]) hx hb dX2_part_91 hl (by decide) rfl (fun ls hl => ?_)
            refine lv_aload_n hx hb dX2_part_93 rfl (lv_at hl 1 rfl) ?_
            refine va_get (D := (dC, dI)) (ci := 2) (v := .ref (a 4)) (C := RX2) (T := TX2) (N := 6) hx hb hts (by decide +kernel) hown hK hP 0 rfl rfl 1 (by decide) (hts (.fieldLink RX2 19 "TriangleSheet" "triangles" "LTriangleSheet$Triangles;") (by decide +kernel)) (fun _ h9 => h9) rfl dX2_part_94 ?_
            refine lv_iload_n hx hb dX2_part_97 rfl (lv_at hl 2 rfl) ?_
            refine lv_iconst (v := nI (1)) hx hb dX2_part_98 (by decide) ?_
            refine ro_V (As := [.int (nI (t)), .int (nI (1))]) (rest := []) (q0 := 4) (ci := 1) hx hb hml hown hts (c_X1_cornerOf l dC dI cI cL cZ a v t 1 (by omega) (by omega)) (cwV 2 hts gX2_part_X1_cornerOf rfl rfl rfl (by decide +kernel) ⟨Nat.le_of_ble_eq_true rfl, Nat.le_of_ble_eq_true rfl⟩) hK hP rfl rfl rfl hl.1 rfl (Nat.le_of_ble_eq_true rfl) dX2_part_99 ⟨Nat.zero_le _, Nat.zero_le _⟩ ?_
            refine lv_istore (lv' := [(5, .int (nI (gc v.1 t 1))), (4, .int (nI (gc v.1 t 0))), (0, .ref (a 0)), (1, .int (nI (t))), (2, .int (nI (x))), (3, .int (nI (y)))]) hx hb dX2_part_102 hl (by decide) rfl (fun ls hl => ?_)
            refine lv_aload_n hx hb dX2_part_104 rfl (lv_at hl 2 rfl) ?_
            refine va_get (D := (dC, dI)) (ci := 2) (v := .ref (a 4)) (C := RX2) (T := TX2) (N := 6) hx hb hts (by decide +kernel) hown hK hP 0 rfl rfl 1 (by decide) (hts (.fieldLink RX2 19 "TriangleSheet" "triangles" "LTriangleSheet$Triangles;") (by decide +kernel)) (fun _ h9 => h9) rfl dX2_part_105 ?_
            refine lv_iload_n hx hb dX2_part_108 rfl (lv_at hl 3 rfl) ?_
            refine lv_iconst (v := nI (2)) hx hb dX2_part_109 (by decide) ?_
            refine ro_V (As := [.int (nI (t)), .int (nI (2))]) (rest := []) (q0 := 4) (ci := 1) hx hb hml hown hts (c_X1_cornerOf l dC dI cI cL cZ a v t 2 (by omega) (by omega)) (cwV 2 hts gX2_part_X1_cornerOf rfl rfl rfl (by decide +kernel) ⟨Nat.le_of_ble_eq_true rfl, Nat.le_of_ble_eq_true rfl⟩) hK hP rfl rfl rfl hl.1 rfl (Nat.le_of_ble_eq_true rfl) dX2_part_110 ⟨Nat.zero_le _, Nat.zero_le _⟩ ?_
            refine lv_istore (lv' := [(6, .int (nI (gc v.1 t 2))), (5, .int (nI (gc v.1 t 1))), (4, .int (nI (gc v.1 t 0))), (0, .ref (a 0)), (1, .int (nI (t))), (2, .int (nI (x))), (3, .int (nI (y)))]) hx hb dX2_part_113 hl (by decide) rfl (fun ls hl => ?_)
            refine lv_aload_n hx hb dX2_part_115 rfl (lv_at hl 3 rfl) ?_
            refine va_get (D := (dC, dI)) (ci := 2) (v := .ref (a 1)) (C := RX2) (T := TX2) (N := 6) hx hb hts (by decide +kernel) hown hK hP 0 rfl rfl 0 (by decide) (hts (.fieldLink RX2 10 "TriangleSheet" "points" "LTriangleSheet$Points;") (by decide +kernel)) (fun _ h9 => h9) rfl dX2_part_116 ?_
            refine lv_iload_n hx hb dX2_part_119 rfl (lv_at hl 5 rfl) ?_
            refine lv_iload_n hx hb dX2_part_120 rfl (lv_at hl 6 rfl) ?_
            refine wr_V (As := [.int (nI (x)), .int (nI (y))]) (rest := []) (q0 := 1) (ci := 0) hx hb hml hown hts (c_X0_add l dC dI cI cL cZ a v x y (by omega)) (cwV 2 hts gX2_part_X0_add rfl rfl rfl (by decide +kernel) ⟨Nat.le_of_ble_eq_true rfl, Nat.le_of_ble_eq_true rfl⟩) hK hP hD hS rfl rfl rfl rfl hl.1 rfl (Nat.le_of_ble_eq_true rfl) dX2_part_121 ⟨Nat.zero_le _, Nat.zero_le _⟩ (fun H locs hP hD hS => ?_)
            have hP : va_P (dC, dI) vwCl (wS cI cL a (sAddP v x y)) H := hP
            have hD : va_D (inW (wS cI cL a v)) (wS cI cL a (sAddP v x y)) := hD
            refine W.eq (g2 := F0 m 124 ls [.int (nI (sPn v))]) rfl ?_
            refine lv_istore (lv' := [(7, .int (nI (sPn v))), (6, .int (nI (gc v.1 t 2))), (5, .int (nI (gc v.1 t 1))), (4, .int (nI (gc v.1 t 0))), (0, .ref (a 0)), (1, .int (nI (t))), (2, .int (nI (x))), (3, .int (nI (y)))]) hx hb dX2_part_124 hl (by decide) rfl (fun ls hl => ?_)
            refine lv_aload_n hx hb dX2_part_126 rfl (lv_at hl 4 rfl) ?_
            refine va_get (D := (dC, dI)) (ci := 2) (v := .ref (a 4)) (C := RX2) (T := TX2) (N := 6) hx hb hts (by decide +kernel) hown hK hP 0 rfl rfl 1 (by decide) (hts (.fieldLink RX2 19 "TriangleSheet" "triangles" "LTriangleSheet$Triangles;") (by decide +kernel)) (fun _ h9 => h9) rfl dX2_part_127 ?_
            refine lv_iload_n hx hb dX2_part_130 rfl (lv_at hl 5 rfl) ?_
            refine lv_iload hx hb dX2_part_131 (lv_at hl 3 rfl) ?_
            refine lv_iload hx hb dX2_part_133 (lv_at hl 2 rfl) ?_
            refine lv_iload hx hb dX2_part_135 (lv_at hl 0 rfl) ?_
            refine wr_V (As := [.int (nI (t)), .int (nI (gc v.1 t 0)), .int (nI (gc v.1 t 1)), .int (nI (sPn v))]) (rest := []) (q0 := 4) (ci := 1) hx hb hml hown hts (c_X1_put l dC dI cI cL cZ a (sAddP v x y) t (gc v.1 t 0) (gc v.1 t 1) (sPn v) (by omega)) (cwV 4 hts gX2_part_X1_put rfl rfl rfl (by decide +kernel) ⟨Nat.le_of_ble_eq_true rfl, Nat.le_of_ble_eq_true rfl⟩) hK hP hD hS rfl rfl rfl rfl hl.1 rfl (Nat.le_of_ble_eq_true rfl) dX2_part_137 ⟨Nat.zero_le _, Nat.zero_le _⟩ (fun H locs hP hD hS => ?_)
            have hP : va_P (dC, dI) vwCl (wS cI cL a (sPutT (sAddP v x y) t (gc v.1 t 0) (gc v.1 t 1) (sPn v))) H := hP
            have hD : va_D (inW (wS cI cL a v)) (wS cI cL a (sPutT (sAddP v x y) t (gc v.1 t 0) (gc v.1 t 1) (sPn v))) := hD
            refine W.eq (g2 := F0 m 140 ls []) rfl ?_
            refine lv_aload_n hx hb dX2_part_140 rfl (lv_at hl 4 rfl) ?_
            refine va_get (D := (dC, dI)) (ci := 2) (v := .ref (a 4)) (C := RX2) (T := TX2) (N := 6) hx hb hts (by decide +kernel) hown hK hP 0 rfl rfl 1 (by decide) (hts (.fieldLink RX2 19 "TriangleSheet" "triangles" "LTriangleSheet$Triangles;") (by decide +kernel)) (fun _ h9 => h9) rfl dX2_part_141 ?_
            refine lv_iload hx hb dX2_part_144 (lv_at hl 2 rfl) ?_
            refine lv_iload hx hb dX2_part_146 (lv_at hl 1 rfl) ?_
            refine lv_iload hx hb dX2_part_148 (lv_at hl 0 rfl) ?_
            refine wr_V (As := [.int (nI (gc v.1 t 1)), .int (nI (gc v.1 t 2)), .int (nI (sPn v))]) (rest := []) (q0 := 4) (ci := 1) hx hb hml hown hts (c_X1_add l dC dI cI cL cZ a (sPutT (sAddP v x y) t (gc v.1 t 0) (gc v.1 t 1) (sPn v)) (gc v.1 t 1) (gc v.1 t 2) (sPn v) (show sTm v < 200 by omega) (show sTn v < 60 by omega)) (cwV 3 hts gX2_part_X1_add rfl rfl rfl (by decide +kernel) ⟨Nat.le_of_ble_eq_true rfl, Nat.le_of_ble_eq_true rfl⟩) hK hP hD hS rfl rfl rfl rfl hl.1 rfl (Nat.le_of_ble_eq_true rfl) dX2_part_150 ⟨Nat.zero_le _, Nat.zero_le _⟩ (fun H locs hP hD hS => ?_)
            have hP : va_P (dC, dI) vwCl (wS cI cL a (sAddT (sPutT (sAddP v x y) t (gc v.1 t 0) (gc v.1 t 1) (sPn v)) (gc v.1 t 1) (gc v.1 t 2) (sPn v))) H := hP
            have hD : va_D (inW (wS cI cL a v)) (wS cI cL a (sAddT (sPutT (sAddP v x y) t (gc v.1 t 0) (gc v.1 t 1) (sPn v)) (gc v.1 t 1) (gc v.1 t 2) (sPn v))) := hD
            refine W.eq (g2 := F0 m 153 ls [.int (nI (sTm (sPutT (sAddP v x y) t (gc v.1 t 0) (gc v.1 t 1) (sPn v))))]) rfl ?_
            refine lv_pop hx hb dX2_part_153 rfl ?_
            refine lv_aload_n hx hb dX2_part_154 rfl (lv_at hl 4 rfl) ?_
            refine va_get (D := (dC, dI)) (ci := 2) (v := .ref (a 4)) (C := RX2) (T := TX2) (N := 6) hx hb hts (by decide +kernel) hown hK hP 0 rfl rfl 1 (by decide) (hts (.fieldLink RX2 19 "TriangleSheet" "triangles" "LTriangleSheet$Triangles;") (by decide +kernel)) (fun _ h9 => h9) rfl dX2_part_155 ?_
            refine lv_iload hx hb dX2_part_158 (lv_at hl 1 rfl) ?_
            refine lv_iload hx hb dX2_part_160 (lv_at hl 3 rfl) ?_
            refine lv_iload hx hb dX2_part_162 (lv_at hl 0 rfl) ?_
            refine wr_V (As := [.int (nI (gc v.1 t 2)), .int (nI (gc v.1 t 0)), .int (nI (sPn v))]) (rest := []) (q0 := 4) (ci := 1) hx hb hml hown hts (c_X1_add l dC dI cI cL cZ a (sAddT (sPutT (sAddP v x y) t (gc v.1 t 0) (gc v.1 t 1) (sPn v)) (gc v.1 t 1) (gc v.1 t 2) (sPn v)) (gc v.1 t 2) (gc v.1 t 0) (sPn v) (show sTm v + 1 < 200 by omega) (show sTn v + 1 < 60 by omega)) (cwV 3 hts gX2_part_X1_add rfl rfl rfl (by decide +kernel) ⟨Nat.le_of_ble_eq_true rfl, Nat.le_of_ble_eq_true rfl⟩) hK hP hD hS rfl rfl rfl rfl hl.1 rfl (Nat.le_of_ble_eq_true rfl) dX2_part_164 ⟨Nat.zero_le _, Nat.zero_le _⟩ (fun H locs hP hD hS => ?_)
            have hP : va_P (dC, dI) vwCl (wS cI cL a (sAddT (sAddT (sPutT (sAddP v x y) t (gc v.1 t 0) (gc v.1 t 1) (sPn v)) (gc v.1 t 1) (gc v.1 t 2) (sPn v)) (gc v.1 t 2) (gc v.1 t 0) (sPn v))) H := hP
            have hD : va_D (inW (wS cI cL a v)) (wS cI cL a (sAddT (sAddT (sPutT (sAddP v x y) t (gc v.1 t 0) (gc v.1 t 1) (sPn v)) (gc v.1 t 1) (gc v.1 t 2) (sPn v)) (gc v.1 t 2) (gc v.1 t 0) (sPn v))) := hD
            refine W.eq (g2 := F0 m 167 ls [.int (nI (sTm (sAddT (sPutT (sAddP v x y) t (gc v.1 t 0) (gc v.1 t 1) (sPn v)) (gc v.1 t 1) (gc v.1 t 2) (sPn v))))]) rfl ?_
            refine lv_pop hx hb dX2_part_167 rfl ?_
            refine lv_iload hx hb dX2_part_168 (lv_at hl 0 rfl) ?_
            exact wr_iret hx hb hr hP hS rfl rfl dX2_part_170 hlocks
          · skip
            have c_5 : (decide (sTn v + 2 ≤ 60) && decide (sTm v + 2 ≤ 200)) = false := bI_f c_5
            exact absurd c_5 (by simp; omega)
      · skip
        have c_3 : (wit v.1 t (x : Int) (y : Int)) = false := bI_f c_3
        exact absurd c_3 (by rw [hd]; decide)
  · skip
    have c_1 : (thB (sTh v) (sTn v) (nI (t))) = false := bI_f c_1
    exact absurd c_1 (by rw [hc]; decide)
set_option maxHeartbeats 4000000 in
set_option maxRecDepth 100000 in
theorem c_X2_improve_0 (l : Launch) (dC : Nat → ClassId) (dI : Nat → Nat → Nat) (cI cL cZ : ClassId) (a : Nat → Nat) (v : SV) (x : Nat) (hv : okS v) (hx9 : x < 501) : Met l yX2_improve wsX2_improve ({ frames := 4, cells := 0, slots := 0, locals := 101 }) (va_Pc [.ref (a 0), .int (nI (x))] (wr_B (dC, dI) vwCl (wS cI cL a v) (tyS cI cL cZ))) (wr_Q (some (.int (nI ((simp_ x v).1)))) (dC, dI) vwCl (wS cI cL a v) (wS cI cL a ((simp_ x v).2))) 0 0 (inW (wS cI cL a v)) := by
  refine wr_Met (cc := cX2_improve) (maxL := 3) (ret := (some .int)) (by decide) rfl (Nat.le_of_ble_eq_true rfl) ?_
  intro pr en s m below meth co ls hx hb hml hr hlocks hown hts hP hK hD hS hl
  have hl : lv_has ls 3 [(0, .ref (a 0)), (1, .int (nI (x)))] := hl
  have hown : s.vm.findClass RX2 = some m.cls := hown
  have hvp : sPn v ≤ 60 ∧ sTn v ≤ 60 ∧ sTm v ≤ 200 := ⟨hv.2.1, hv.2.2.2.1, hv.2.2.2.2.1⟩
  refine lv_iload_n hx hb dX2_improve_0 rfl (lv_at hl 1 rfl) ?_
  refine lv_if_lt (tgt := 11) hx hb dX2_improve_1 (by decide) (fun c_1 => ?_) (fun c_1 => ?_)
  · skip
    have c_1 : x < 0 := (nI_ltI (a := x) (b := 0) (by omega) (by omega)).mp c_1
    omega
  · skip
    have c_1 : ¬ (x < 0) := fun hq9 => c_1 ((nI_ltI (a := x) (b := 0) (by omega) (by omega)).mpr hq9)
    refine lv_iload_n hx hb dX2_improve_4 rfl (lv_at hl 1 rfl) ?_
    refine lv_sipush (v := nI (500)) hx hb dX2_improve_5 (by decide) ?_
    refine lv_icmp_le (tgt := 21) hx hb dX2_improve_8 (by decide) (fun c_2 => ?_) (fun c_2 => ?_)
    · skip
      have c_2 : x ≤ 500 := (nI_leI (a := x) (b := 500) (by omega) (by omega)).mp c_2
      refine lv_iconst (v := nI (0)) hx hb dX2_improve_21 (by decide) ?_
      refine lv_istore_n (lv' := [(2, .int (nI (0))), (0, .ref (a 0)), (1, .int (nI (x)))]) hx hb dX2_improve_22 rfl hl (by decide) rfl (fun ls hl => ?_)
      refine lpW (σ := Nat × SV) (LV := fun (i, v2) => [(0, .ref (a 0)), (1, .int (nI (x))), (2, .int (nI (i)))]) (WS := fun (i, v2) => wS cI cL a v2) (I := fun k (i, v2) => i + k = x ∧ okS v2 ∧ simp_ x v = ((simp_ k v2).1 + i, (simp_ k v2).2)) (fun k (i, v2) ls H locs hI_k hl hP hD hS ih_k => ?_) (x) (0, v) ls _ _ ⟨by omega, hv, rfl⟩ (lv_sub hl [1, 2, 0] rfl) hP hD hS
      obtain ⟨hk, hv2, hi⟩ := hI_k
      have hP : va_P (dC, dI) vwCl (wS cI cL a v2) H := hP
      have hD : va_D (inW (wS cI cL a v)) (wS cI cL a v2) := hD
      refine lv_iload_n hx hb dX2_improve_23 rfl (lv_at hl 2 rfl) ?_
      refine lv_iload_n hx hb dX2_improve_24 rfl (lv_at hl 1 rfl) ?_
      refine lv_icmp_ge (tgt := 41) hx hb dX2_improve_25 (by decide) (fun c_3 => ?_) (fun c_3 => ?_)
      · skip
        have c_3 : x ≤ i := (nI_leI (a := x) (b := i) (by omega) (by omega)).mp c_3
        refine lv_iload_n hx hb dX2_improve_41 rfl (lv_at hl 2 rfl) ?_
        exact wr_iret hx hb hr hP hS (congrArg some (rn (by rw [hi]; first | (rw [show k = 0 by omega]; simp [simp_]; done) | (rw [simp_f (by assumption)]; simp; done) | rw [simp_f (by assumption)]))) (congrArg (wS cI cL a) (by rw [hi]; first | (rw [show k = 0 by omega]; simp [simp_]; done) | (rw [simp_f (by assumption)]; simp; done) | rw [simp_f (by assumption)])) dX2_improve_42 hlocks
      · skip
        have c_3 : ¬ (x ≤ i) := fun hq9 => c_3 ((nI_leI (a := x) (b := i) (by omega) (by omega)).mpr hq9)
        refine lv_aload_n hx hb dX2_improve_28 rfl (lv_at hl 0 rfl) ?_
        refine wr_V (As := []) (rest := []) (q0 := 0) (ci := 2) hx hb hml hown hts (c_X2_turnFirstBadEdge l dC dI cI cL cZ a v2  hv2) (cwV 0 hts gX2_improve_X2_turnFirstBadEdge rfl rfl rfl (by decide +kernel) ⟨Nat.le_of_ble_eq_true rfl, Nat.le_of_ble_eq_true rfl⟩) hK hP hD hS rfl rfl rfl rfl hl.1 rfl (Nat.le_of_ble_eq_true rfl) dX2_improve_29 ⟨Nat.zero_le _, Nat.zero_le _⟩ (fun H locs hP hD hS => ?_)
        have hP : va_P (dC, dI) vwCl (wS cI cL a (tfS v2)) H := hP
        have hD : va_D (inW (wS cI cL a v)) (wS cI cL a (tfS v2)) := hD
        refine W.eq (g2 := F0 m 32 ls [.int (bI ((tfi v2.1 (sTh v2) (sTn v2)).isSome))]) rfl ?_
        refine lv_if_eq (tgt := 41) hx hb dX2_improve_32 (by decide) (fun c_4 => ?_) (fun c_4 => ?_)
        · skip
          have c_4 : ((tfi v2.1 (sTh v2) (sTn v2)).isSome) = false := bI_f c_4
          have e9 : tfS v2 = v2 := tfS_n c_4
          rw [e9] at hP hD
          refine lv_iload_n hx hb dX2_improve_41 rfl (lv_at hl 2 rfl) ?_
          exact wr_iret hx hb hr hP hS (congrArg some (rn (by rw [hi]; first | (rw [show k = 0 by omega]; simp [simp_]; done) | (rw [simp_f (by assumption)]; simp; done) | rw [simp_f (by assumption)]))) (congrArg (wS cI cL a) (by rw [hi]; first | (rw [show k = 0 by omega]; simp [simp_]; done) | (rw [simp_f (by assumption)]; simp; done) | rw [simp_f (by assumption)])) dX2_improve_42 hlocks
        · skip
          have c_4 : ((tfi v2.1 (sTh v2) (sTn v2)).isSome) = true := bI_t c_4
          refine lv_iinc (v := nI (i + 1)) (lv' := [(2, .int (nI (i + 1))), (0, .ref (a 0)), (1, .int (nI (x)))]) hx hb dX2_improve_35 hl (k := 2) rfl (nI_1 (i)) (by decide) rfl (fun ls hl => ?_)
          refine lv_goto (tgt := 23) hx hb dX2_improve_38 (by decide) ?_
          exact ih_k (k - 1) (i + 1, tfS v2) ls _ _ (by omega) ⟨by omega, tfS_ok hv2, hi.trans (by rw [simp_t (by omega) (by assumption)]; congr 1; omega)⟩ (lv_sub hl [1, 2, 0] rfl) hP hD hS
    · skip
      have c_2 : ¬ (x ≤ 500) := fun hq9 => c_2 ((nI_leI (a := x) (b := 500) (by omega) (by omega)).mpr hq9)
      omega
