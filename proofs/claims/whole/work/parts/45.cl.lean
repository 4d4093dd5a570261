theorem simp_le : ∀ (k : Nat) (v : SV), (simp_ k v).1 ≤ k
  | 0, v => by simp [simp_]
  | k + 1, v => by
    have := simp_le k (tfS v)
    rw [simp_]; split
    · show (simp_ k (tfS v)).1 + 1 ≤ k + 1; omega
    · show 0 ≤ k + 1; omega
set_option maxHeartbeats 4000000 in
set_option maxRecDepth 100000 in
theorem c_L_point_0 (l : Launch) (dC : Nat → ClassId) (dI : Nat → Nat → Nat) (cI cL cZ : ClassId) (a : Nat → Nat) (v : SV) (o : Nat) (f : Nat → Int64) (x y : Nat) (hv : okS v) (hx9 : x < 512) (hy9 : y < 512) (hc : pAt v.1 (sPn v) (nI x) (nI y) = none) (hn : sPn v < 60) : Met l yL_point wsL_point ({ frames := 3, cells := 0, slots := 0, locals := 68 }) (va_Pc [.ref (a 0), .int (nI (x)), .int (nI (y)), .ref o] (xw_B (dC, dI) vwCl (wS cI cL a v ++ wO cL o f) (tyS cI cL cZ))) (wr_Q (some (.int (nI 0))) (dC, dI) vwCl (wS cI cL a v ++ wO cL o f) (wS cI cL a (sAddP v x y) ++ wO cL o (va_up f 0 (lI (((sPn v) : Nat) : Int))))) 0 0 (inW (wS cI cL a v ++ wO cL o f)) := by
  refine lw_Met (cc := cL_point) (maxL := 5) (ret := (some .int)) (hh := [(0, 10, 13, 13), (0, 10, 17, 15)]) (by decide) rfl (Nat.le_of_ble_eq_true rfl) ?_
  intro pr en s m below meth co ls hx hb hml hr hlocks hown hts hP hK hD hS hl htb hE hN
  have hl : lv_has ls 5 [(0, .ref (a 0)), (1, .int (nI (x))), (2, .int (nI (y))), (3, .ref o)] := hl
  have hown : s.vm.findClass RL = some m.cls := hown
  refine lv_aload_n hx hb dL_point_0 rfl (lv_at hl 3 rfl) ?_
  refine lv_iconst (v := nI (0)) hx hb dL_point_1 (by decide) ?_
  refine lv_aload_n hx hb dL_point_2 rfl (lv_at hl 0 rfl) ?_
  refine lv_iload_n hx hb dL_point_3 rfl (lv_at hl 1 rfl) ?_
  refine lv_iload_n hx hb dL_point_4 rfl (lv_at hl 2 rfl) ?_
  refine wx_V (X := []) (Y := wO cL o f) (wo := wS cI cL a v) (As := [.int (nI (x)), .int (nI (y))]) (rest := [.int (nI (0)), .ref o]) (q0 := 0) (ci := 2) hx hb hml hown hts (c_X2_point_0 l dC dI cI cL cZ a v x y hv hx9 hy9 hc hn) (cwV 2 hts gL_point_X2_point rfl rfl rfl (by decide +kernel) ⟨Nat.le_of_ble_eq_true rfl, Nat.le_of_ble_eq_true rfl⟩) hK hP hD hS rfl rfl rfl rfl hl.1 rfl (Nat.le_of_ble_eq_true rfl) dL_point_5 ⟨Nat.zero_le _, Nat.zero_le _⟩ (fun H locs hP hD hS => ?_)
  have hP : va_P (dC, dI) vwCl (wS cI cL a (sAddP v x y) ++ wO cL o f) H := hP
  have hD : va_D (inW (wS cI cL a v ++ wO cL o f)) (wS cI cL a (sAddP v x y) ++ wO cL o f) := hD
  refine W.eq (g2 := F0 m 8 ls [.int (nI (sPn v)), .int (nI (0)), .ref o]) rfl ?_
  refine lv_i2l (v := lI (((sPn v) : Nat) : Int)) hx hb dL_point_8 (nzI_l (by have := hv.2.1; omega)) ?_
  refine la_st (k := 0) hx hb hK hP hD hS 9 1 rfl rfl (by decide) (by decide) dL_point_9 (fun H locs hP hD hS => ?_)
  have hP : va_P (dC, dI) vwCl (wS cI cL a (sAddP v x y) ++ wO cL o (va_up f 0 (lI (((sPn v) : Nat) : Int)))) H := hP
  refine lv_goto (tgt := 21) hx hb dL_point_10 (by decide) ?_
  refine lv_iconst (v := nI (0)) hx hb dL_point_21 (by decide) ?_
  exact wr_iret hx hb hr hP hS rfl rfl dL_point_22 hlocks
set_option maxHeartbeats 4000000 in
set_option maxRecDepth 100000 in
theorem c_L_point_x1 (l : Launch) (hst : l.stackTraces = false) (dC : Nat → ClassId) (dI : Nat → Nat → Nat) (cI cL cZ : ClassId) (a : Nat → Nat) (v : SV) (o : Nat) (f : Nat → Int64) (x y : Int32) (hv : okS v) (hc : (inB x 512 && inB y 512) = false) : Met l yL_point wsL_point ({ frames := 7, cells := 1, slots := 6, locals := 104 }) (va_Pc [.ref (a 0), .int (x), .int (y), .ref o] (xw_B (dC, dI) vwCl (wS cI cL a v ++ wO cL o f) (tyS cI cL cZ))) (wr_Q (some (.int (nI 1))) (dC, dI) vwCl (wS cI cL a v ++ wO cL o f) (wS cI cL a v ++ wO cL o f)) 1 6 (inW (wS cI cL a v ++ wO cL o f)) := by
  refine lw_Met (cc := cL_point) (maxL := 5) (ret := (some .int)) (hh := [(0, 10, 13, 13), (0, 10, 17, 15)]) (by decide) rfl (Nat.le_of_ble_eq_true rfl) ?_
  intro pr en s m below meth co ls hx hb hml hr hlocks hown hts hP hK hD hS hl htb hE hN
  have hl : lv_has ls 5 [(0, .ref (a 0)), (1, .int (x)), (2, .int (y)), (3, .ref o)] := hl
  have hown : s.vm.findClass RL = some m.cls := hown
  refine lv_aload_n hx hb dL_point_0 rfl (lv_at hl 3 rfl) ?_
  refine lv_iconst (v := nI (0)) hx hb dL_point_1 (by decide) ?_
  refine lv_aload_n hx hb dL_point_2 rfl (lv_at hl 0 rfl) ?_
  refine lv_iload_n hx hb dL_point_3 rfl (lv_at hl 1 rfl) ?_
  refine lv_iload_n hx hb dL_point_4 rfl (lv_at hl 2 rfl) ?_
  refine xw_inv (E := "java/lang/IllegalArgumentException") (X := []) (Y := wO cL o f) (wo := wS cI cL a v) (As := [.int (x), .int (y)]) (rest := [.int (nI (0)), .ref o]) (q0 := 0) (ci := 2) hx hb hml hown hts (c_X2_point_x1 l hst dC dI cI cL cZ a v x y hv hc) (cwV 2 hts gL_point_X2_point rfl rfl rfl (by decide +kernel) ⟨Nat.le_of_ble_eq_true rfl, Nat.le_of_ble_eq_true rfl⟩) hK hP rfl rfl rfl hl.1 rfl (Nat.le_of_ble_eq_true rfl) dL_point_5 ⟨Nat.le_of_ble_eq_true rfl, Nat.le_of_ble_eq_true rfl⟩ hE (fun q9 ce H1 e1 e2 e3 e4 e5 => ?_)
  refine xg_catch (own := RL) (E := "java/lang/IllegalArgumentException") (name := "java/lang/IllegalArgumentException") hown [] ⟨0, 10, 13, 13⟩ [⟨0, 10, 17, 15⟩] htb (fun z hz => nomatch hz) rfl (by decide) (hts (.classLink RL 13 "java/lang/IllegalArgumentException") (by decide +kernel)) (xt_cast (hts (.initialized "java/lang/IllegalArgumentException") (by decide +kernel))) e3 e4 e5 ?_
  refine lv_astore (lv' := [(4, .ref q9), (0, .ref (a 0)), (1, .int (x)), (2, .int (y)), (3, .ref o)]) hx hb dL_point_13 hl (by decide) rfl (fun ls hl => ?_)
  refine lv_iconst (v := nI (1)) hx hb dL_point_15 (by decide) ?_
  exact xw_iret hx hb hr hP e1 e2 dL_point_16 hlocks
set_option maxHeartbeats 4000000 in
set_option maxRecDepth 100000 in
theorem c_L_point_x2 (l : Launch) (hst : l.stackTraces = false) (dC : Nat → ClassId) (dI : Nat → Nat → Nat) (cI cL cZ : ClassId) (a : Nat → Nat) (v : SV) (o : Nat) (f : Nat → Int64) (x y : Int32) (hv : okS v) (hp : (inB x 512 && inB y 512) = true) (hc : (decide (sPn v < 60) && decide (pAt v.1 (sPn v) x y = none)) = false) : Met l yL_point wsL_point ({ frames := 7, cells := 1, slots := 6, locals := 104 }) (va_Pc [.ref (a 0), .int (x), .int (y), .ref o] (xw_B (dC, dI) vwCl (wS cI cL a v ++ wO cL o f) (tyS cI cL cZ))) (wr_Q (some (.int (nI 2))) (dC, dI) vwCl (wS cI cL a v ++ wO cL o f) (wS cI cL a v ++ wO cL o f)) 1 6 (inW (wS cI cL a v ++ wO cL o f)) := by
  refine lw_Met (cc := cL_point) (maxL := 5) (ret := (some .int)) (hh := [(0, 10, 13, 13), (0, 10, 17, 15)]) (by decide) rfl (Nat.le_of_ble_eq_true rfl) ?_
  intro pr en s m below meth co ls hx hb hml hr hlocks hown hts hP hK hD hS hl htb hE hN
  have hl : lv_has ls 5 [(0, .ref (a 0)), (1, .int (x)), (2, .int (y)), (3, .ref o)] := hl
  have hown : s.vm.findClass RL = some m.cls := hown
  refine lv_aload_n hx hb dL_point_0 rfl (lv_at hl 3 rfl) ?_
  refine lv_iconst (v := nI (0)) hx hb dL_point_1 (by decide) ?_
  refine lv_aload_n hx hb dL_point_2 rfl (lv_at hl 0 rfl) ?_
  refine lv_iload_n hx hb dL_point_3 rfl (lv_at hl 1 rfl) ?_
  refine lv_iload_n hx hb dL_point_4 rfl (lv_at hl 2 rfl) ?_
  refine xw_inv (E := "java/lang/IllegalStateException") (X := []) (Y := wO cL o f) (wo := wS cI cL a v) (As := [.int (x), .int (y)]) (rest := [.int (nI (0)), .ref o]) (q0 := 0) (ci := 2) hx hb hml hown hts (c_X2_point_x2 l hst dC dI cI cL cZ a v x y hv hp hc) (cwV 2 hts gL_point_X2_point rfl rfl rfl (by decide +kernel) ⟨Nat.le_of_ble_eq_true rfl, Nat.le_of_ble_eq_true rfl⟩) hK hP rfl rfl rfl hl.1 rfl (Nat.le_of_ble_eq_true rfl) dL_point_5 ⟨Nat.le_of_ble_eq_true rfl, Nat.le_of_ble_eq_true rfl⟩ hE (fun q9 ce H1 e1 e2 e3 e4 e5 => ?_)
  refine xg_catch (own := RL) (E := "java/lang/IllegalStateException") (name := "java/lang/IllegalStateException") hown [⟨0, 10, 13, 13⟩] ⟨0, 10, 17, 15⟩ [] htb (fun z hz => by
    simp only [List.mem_cons, List.not_mem_nil, or_false] at hz
    subst hz
    · exact Or.inr ⟨by decide, _, hts (.classLink RL 13 "java/lang/IllegalArgumentException") (by decide +kernel), hN.2.2⟩) rfl (by decide) (hts (.classLink RL 15 "java/lang/IllegalStateException") (by decide +kernel)) (xt_cast (hts (.initialized "java/lang/IllegalStateException") (by decide +kernel))) e3 e4 e5 ?_
  refine lv_astore (lv' := [(4, .ref q9), (0, .ref (a 0)), (1, .int (x)), (2, .int (y)), (3, .ref o)]) hx hb dL_point_17 hl (by decide) rfl (fun ls hl => ?_)
  refine lv_iconst (v := nI (2)) hx hb dL_point_19 (by decide) ?_
  exact xw_iret hx hb hr hP e1 e2 dL_point_20 hlocks
set_option maxHeartbeats 4000000 in
set_option maxRecDepth 100000 in
theorem c_L_move_0 (l : Launch) (dC : Nat → ClassId) (dI : Nat → Nat → Nat) (cI cL cZ : ClassId) (a : Nat → Nat) (v : SV) (q x y : Nat) (hv : okS v) (hq : q < sPn v) (hx9 : x < 512) (hy9 : y < 512) (hc : pAt v.1 (sPn v) (nI x) (nI y) = none ∨ pAt v.1 (sPn v) (nI x) (nI y) = some q) : Met l yL_move wsL_move ({ frames := 2, cells := 0, slots := 0, locals := 47 }) (va_Pc [.ref (a 0), .int (nI (q)), .int (nI (x)), .int (nI (y))] (xw_B (dC, dI) vwCl (wS cI cL a v) (tyS cI cL cZ))) (wr_Q (some (.int (nI 0))) (dC, dI) vwCl (wS cI cL a v) (wS cI cL a (sPut v q x y))) 0 0 (inW (wS cI cL a v)) := by
  refine lw_Met (cc := cL_move) (maxL := 5) (ret := (some .int)) (hh := [(0, 7, 10, 21), (0, 7, 14, 13), (0, 7, 18, 15)]) (by decide) rfl (Nat.le_of_ble_eq_true rfl) ?_
  intro pr en s m below meth co ls hx hb hml hr hlocks hown hts hP hK hD hS hl htb hE hN
  have hl : lv_has ls 5 [(0, .ref (a 0)), (1, .int (nI (q))), (2, .int (nI (x))), (3, .int (nI (y)))] := hl
  have hown : s.vm.findClass RL = some m.cls := hown
  refine lv_aload_n hx hb dL_move_0 rfl (lv_at hl 0 rfl) ?_
  refine lv_iload_n hx hb dL_move_1 rfl (lv_at hl 1 rfl) ?_
  refine lv_iload_n hx hb dL_move_2 rfl (lv_at hl 2 rfl) ?_
  refine lv_iload_n hx hb dL_move_3 rfl (lv_at hl 3 rfl) ?_
  refine wx_V (X := []) (Y := []) (wo := wS cI cL a v) (As := [.int (nI (q)), .int (nI (x)), .int (nI (y))]) (rest := []) (q0 := 0) (ci := 2) hx hb hml hown hts (c_X2_move_0 l dC dI cI cL cZ a v q x y hv hq hx9 hy9 hc) (cwV 3 hts gL_move_X2_move rfl rfl rfl (by decide +kernel) ⟨Nat.le_of_ble_eq_true rfl, Nat.le_of_ble_eq_true rfl⟩) hK (by rw [List.append_nil]; exact hP) (by rw [List.append_nil]; exact hD) hS rfl rfl rfl rfl hl.1 rfl (Nat.le_of_ble_eq_true rfl) dL_move_4 ⟨Nat.zero_le _, Nat.zero_le _⟩ (fun H locs hP hD hS => ?_)
  have hP : va_P (dC, dI) vwCl (wS cI cL a (sPut v q x y)) H := by rw [List.nil_append, List.append_nil] at hP; exact hP
  refine W.eq (g2 := F0 m 7 ls []) rfl ?_
  refine lv_goto (tgt := 22) hx hb dL_move_7 (by decide) ?_
  refine lv_iconst (v := nI (0)) hx hb dL_move_22 (by decide) ?_
  exact wr_iret hx hb hr hP hS rfl rfl dL_move_23 hlocks
set_option maxHeartbeats 4000000 in
set_option maxRecDepth 100000 in
theorem c_L_move_x1 (l : Launch) (hst : l.stackTraces = false) (dC : Nat → ClassId) (dI : Nat → Nat → Nat) (cI cL cZ : ClassId) (a : Nat → Nat) (v : SV) (q x y : Int32) (hv : okS v) (hc : inB q (sPn v) = false) : Met l yL_move wsL_move ({ frames := 7, cells := 1, slots := 6, locals := 106 }) (va_Pc [.ref (a 0), .int (q), .int (x), .int (y)] (xw_B (dC, dI) vwCl (wS cI cL a v) (tyS cI cL cZ))) (wr_Q (some (.int (nI 1))) (dC, dI) vwCl (wS cI cL a v) (wS cI cL a v)) 1 6 (inW (wS cI cL a v)) := by
  refine lw_Met (cc := cL_move) (maxL := 5) (ret := (some .int)) (hh := [(0, 7, 10, 21), (0, 7, 14, 13), (0, 7, 18, 15)]) (by decide) rfl (Nat.le_of_ble_eq_true rfl) ?_
  intro pr en s m below meth co ls hx hb hml hr hlocks hown hts hP hK hD hS hl htb hE hN
  have hl : lv_has ls 5 [(0, .ref (a 0)), (1, .int (q)), (2, .int (x)), (3, .int (y))] := hl
  have hown : s.vm.findClass RL = some m.cls := hown
  refine lv_aload_n hx hb dL_move_0 rfl (lv_at hl 0 rfl) ?_
  refine lv_iload_n hx hb dL_move_1 rfl (lv_at hl 1 rfl) ?_
  refine lv_iload_n hx hb dL_move_2 rfl (lv_at hl 2 rfl) ?_
  refine lv_iload_n hx hb dL_move_3 rfl (lv_at hl 3 rfl) ?_
  refine xw_inv (E := "java/lang/IndexOutOfBoundsException") (X := []) (Y := []) (wo := wS cI cL a v) (As := [.int (q), .int (x), .int (y)]) (rest := []) (q0 := 0) (ci := 2) hx hb hml hown hts (c_X2_move_x1 l hst dC dI cI cL cZ a v q x y hv hc) (cwV 3 hts gL_move_X2_move rfl rfl rfl (by decide +kernel) ⟨Nat.le_of_ble_eq_true rfl, Nat.le_of_ble_eq_true rfl⟩) hK (by rw [List.append_nil]; exact hP) rfl rfl rfl hl.1 rfl (Nat.le_of_ble_eq_true rfl) dL_move_4 ⟨Nat.le_of_ble_eq_true rfl, Nat.le_of_ble_eq_true rfl⟩ hE (fun q9 ce H1 e1 e2 e3 e4 e5 => ?_)
  refine xg_catch (own := RL) (E := "java/lang/IndexOutOfBoundsException") (name := "java/lang/IndexOutOfBoundsException") hown [] ⟨0, 7, 10, 21⟩ [⟨0, 7, 14, 13⟩, ⟨0, 7, 18, 15⟩] htb (fun z hz => nomatch hz) rfl (by decide) (hts (.classLink RL 21 "java/lang/IndexOutOfBoundsException") (by decide +kernel)) (xt_cast (hts (.initialized "java/lang/IndexOutOfBoundsException") (by decide +kernel))) e3 e4 e5 ?_
  refine lv_astore (lv' := [(4, .ref q9), (0, .ref (a 0)), (1, .int (q)), (2, .int (x)), (3, .int (y))]) hx hb dL_move_10 hl (by decide) rfl (fun ls hl => ?_)
  refine lv_iconst (v := nI (1)) hx hb dL_move_12 (by decide) ?_
  exact xw_iret hx hb hr hP e1 e2 dL_move_13 hlocks
set_option maxHeartbeats 4000000 in
set_option maxRecDepth 100000 in
theorem c_L_move_x2 (l : Launch) (hst : l.stackTraces = false) (dC : Nat → ClassId) (dI : Nat → Nat → Nat) (cI cL cZ : ClassId) (a : Nat → Nat) (v : SV) (q x y : Int32) (hv : okS v) (hq : inB q (sPn v) = true) (hc : (inB x 512 && inB y 512) = false) : Met l yL_move wsL_move ({ frames := 7, cells := 1, slots := 6, locals := 106 }) (va_Pc [.ref (a 0), .int (q), .int (x), .int (y)] (xw_B (dC, dI) vwCl (wS cI cL a v) (tyS cI cL cZ))) (wr_Q (some (.int (nI 2))) (dC, dI) vwCl (wS cI cL a v) (wS cI cL a v)) 1 6 (inW (wS cI cL a v)) := by
  refine lw_Met (cc := cL_move) (maxL := 5) (ret := (some .int)) (hh := [(0, 7, 10, 21), (0, 7, 14, 13), (0, 7, 18, 15)]) (by decide) rfl (Nat.le_of_ble_eq_true rfl) ?_
  intro pr en s m below meth co ls hx hb hml hr hlocks hown hts hP hK hD hS hl htb hE hN
  have hl : lv_has ls 5 [(0, .ref (a 0)), (1, .int (q)), (2, .int (x)), (3, .int (y))] := hl
  have hown : s.vm.findClass RL = some m.cls := hown
  refine lv_aload_n hx hb dL_move_0 rfl (lv_at hl 0 rfl) ?_
  refine lv_iload_n hx hb dL_move_1 rfl (lv_at hl 1 rfl) ?_
  refine lv_iload_n hx hb dL_move_2 rfl (lv_at hl 2 rfl) ?_
  refine lv_iload_n hx hb dL_move_3 rfl (lv_at hl 3 rfl) ?_
  refine xw_inv (E := "java/lang/IllegalArgumentException") (X := []) (Y := []) (wo := wS cI cL a v) (As := [.int (q), .int (x), .int (y)]) (rest := []) (q0 := 0) (ci := 2) hx hb hml hown hts (c_X2_move_x2 l hst dC dI cI cL cZ a v q x y hv hq hc) (cwV 3 hts gL_move_X2_move rfl rfl rfl (by decide +kernel) ⟨Nat.le_of_ble_eq_true rfl, Nat.le_of_ble_eq_true rfl⟩) hK (by rw [List.append_nil]; exact hP) rfl rfl rfl hl.1 rfl (Nat.le_of_ble_eq_true rfl) dL_move_4 ⟨Nat.le_of_ble_eq_true rfl, Nat.le_of_ble_eq_true rfl⟩ hE (fun q9 ce H1 e1 e2 e3 e4 e5 => ?_)
  refine xg_catch (own := RL) (E := "java/lang/IllegalArgumentException") (name := "java/lang/IllegalArgumentException") hown [⟨0, 7, 10, 21⟩] ⟨0, 7, 14, 13⟩ [⟨0, 7, 18, 15⟩] htb (fun z hz => by
    simp only [List.mem_cons, List.not_mem_nil, or_false] at hz
    subst hz
    · exact Or.inr ⟨by decide, _, hts (.classLink RL 21 "java/lang/IndexOutOfBoundsException") (by decide +kernel), hN.1⟩) rfl (by decide) (hts (.classLink RL 13 "java/lang/IllegalArgumentException") (by decide +kernel)) (xt_cast (hts (.initialized "java/lang/IllegalArgumentException") (by decide +kernel))) e3 e4 e5 ?_
  refine lv_astore (lv' := [(4, .ref q9), (0, .ref (a 0)), (1, .int (q)), (2, .int (x)), (3, .int (y))]) hx hb dL_move_14 hl (by decide) rfl (fun ls hl => ?_)
  refine lv_iconst (v := nI (2)) hx hb dL_move_16 (by decide) ?_
  exact xw_iret hx hb hr hP e1 e2 dL_move_17 hlocks
set_option maxHeartbeats 4000000 in
set_option maxRecDepth 100000 in
theorem c_L_move_x3 (l : Launch) (hst : l.stackTraces = false) (dC : Nat → ClassId) (dI : Nat → Nat → Nat) (cI cL cZ : ClassId) (a : Nat → Nat) (v : SV) (q u : Nat) (x y : Int32) (hv : okS v) (hq : q < sPn v) (hp : (inB x 512 && inB y 512) = true) (hc : pAt v.1 (sPn v) x y = some u) (hd : u ≠ q) : Met l yL_move wsL_move ({ frames := 7, cells := 1, slots := 6, locals := 106 }) (va_Pc [.ref (a 0), .int (nI (q)), .int (x), .int (y)] (xw_B (dC, dI) vwCl (wS cI cL a v) (tyS cI cL cZ))) (wr_Q (some (.int (nI 3))) (dC, dI) vwCl (wS cI cL a v) (wS cI cL a v)) 1 6 (inW (wS cI cL a v)) := by
  refine lw_Met (cc := cL_move) (maxL := 5) (ret := (some .int)) (hh := [(0, 7, 10, 21), (0, 7, 14, 13), (0, 7, 18, 15)]) (by decide) rfl (Nat.le_of_ble_eq_true rfl) ?_
  intro pr en s m below meth co ls hx hb hml hr hlocks hown hts hP hK hD hS hl htb hE hN
  have hl : lv_has ls 5 [(0, .ref (a 0)), (1, .int (nI (q))), (2, .int (x)), (3, .int (y))] := hl
  have hown : s.vm.findClass RL = some m.cls := hown
  refine lv_aload_n hx hb dL_move_0 rfl (lv_at hl 0 rfl) ?_
  refine lv_iload_n hx hb dL_move_1 rfl (lv_at hl 1 rfl) ?_
  refine lv_iload_n hx hb dL_move_2 rfl (lv_at hl 2 rfl) ?_
  refine lv_iload_n hx hb dL_move_3 rfl (lv_at hl 3 rfl) ?_
  refine xw_inv (E := "java/lang/IllegalStateException") (X := []) (Y := []) (wo := wS cI cL a v) (As := [.int (nI (q)), .int (x), .int (y)]) (rest := []) (q0 := 0) (ci := 2) hx hb hml hown hts (c_X2_move_x3 l hst dC dI cI cL cZ a v q u x y hv hq hp hc hd) (cwV 3 hts gL_move_X2_move rfl rfl rfl (by decide +kernel) ⟨Nat.le_of_ble_eq_true rfl, Nat.le_of_ble_eq_true rfl⟩) hK (by rw [List.append_nil]; exact hP) rfl rfl rfl hl.1 rfl (Nat.le_of_ble_eq_true rfl) dL_move_4 ⟨Nat.le_of_ble_eq_true rfl, Nat.le_of_ble_eq_true rfl⟩ hE (fun q9 ce H1 e1 e2 e3 e4 e5 => ?_)
  refine xg_catch (own := RL) (E := "java/lang/IllegalStateException") (name := "java/lang/IllegalStateException") hown [⟨0, 7, 10, 21⟩, ⟨0, 7, 14, 13⟩] ⟨0, 7, 18, 15⟩ [] htb (fun z hz => by
    simp only [List.mem_cons, List.not_mem_nil, or_false] at hz
    rcases hz with rfl | rfl
    · exact Or.inr ⟨by decide, _, hts (.classLink RL 21 "java/lang/IndexOutOfBoundsException") (by decide +kernel), hN.2.1⟩
    · exact Or.inr ⟨by decide, _, hts (.classLink RL 13 "java/lang/IllegalArgumentException") (by decide +kernel), hN.2.2⟩) rfl (by decide) (hts (.classLink RL 15 "java/lang/IllegalStateException") (by decide +kernel)) (xt_cast (hts (.initialized "java/lang/IllegalStateException") (by decide +kernel))) e3 e4 e5 ?_
  refine lv_astore (lv' := [(4, .ref q9), (0, .ref (a 0)), (1, .int (nI (q))), (2, .int (x)), (3, .int (y))]) hx hb dL_move_18 hl (by decide) rfl (fun ls hl => ?_)
  refine lv_iconst (v := nI (3)) hx hb dL_move_20 (by decide) ?_
  exact xw_iret hx hb hr hP e1 e2 dL_move_21 hlocks
set_option maxHeartbeats 4000000 in
set_option maxRecDepth 100000 in
theorem c_L_triangle_0 (l : Launch) (dC : Nat → ClassId) (dI : Nat → Nat → Nat) (cI cL cZ : ClassId) (a : Nat → Nat) (v : SV) (o : Nat) (f : Nat → Int64) (i j q : Nat) (hv : okS v) (hi : i < sPn v) (hj : j < sPn v) (hq : q < sPn v) (hc : i ≠ j ∧ j ≠ q ∧ i ≠ q) (hd : sTn v < 60 ∧ sTm v < 200) : Met l yL_triangle wsL_triangle ({ frames := 3, cells := 0, slots := 0, locals := 71 }) (va_Pc [.ref (a 0), .int (nI (i)), .int (nI (j)), .int (nI (q)), .ref o] (xw_B (dC, dI) vwCl (wS cI cL a v ++ wO cL o f) (tyS cI cL cZ))) (wr_Q (some (.int (nI 0))) (dC, dI) vwCl (wS cI cL a v ++ wO cL o f) (wS cI cL a (sAddT v i j q) ++ wO cL o (va_up f 0 (lI (((sTm v) : Nat) : Int))))) 0 0 (inW (wS cI cL a v ++ wO cL o f)) := by
  refine lw_Met (cc := cL_triangle) (maxL := 6) (ret := (some .int)) (hh := [(0, 12, 15, 21), (0, 12, 19, 13), (0, 12, 23, 15)]) (by decide) rfl (Nat.le_of_ble_eq_true rfl) ?_
  intro pr en s m below meth co ls hx hb hml hr hlocks hown hts hP hK hD hS hl htb hE hN
  have hl : lv_has ls 6 [(0, .ref (a 0)), (1, .int (nI (i))), (2, .int (nI (j))), (3, .int (nI (q))), (4, .ref o)] := hl
  have hown : s.vm.findClass RL = some m.cls := hown
  refine lv_aload hx hb dL_triangle_0 (lv_at hl 4 rfl) ?_
  refine lv_iconst (v := nI (0)) hx hb dL_triangle_2 (by decide) ?_
  refine lv_aload_n hx hb dL_triangle_3 rfl (lv_at hl 0 rfl) ?_
  refine lv_iload_n hx hb dL_triangle_4 rfl (lv_at hl 1 rfl) ?_
  refine lv_iload_n hx hb dL_triangle_5 rfl (lv_at hl 2 rfl) ?_
  refine lv_iload_n hx hb dL_triangle_6 rfl (lv_at hl 3 rfl) ?_
  refine wx_V (X := []) (Y := wO cL o f) (wo := wS cI cL a v) (As := [.int (nI (i)), .int (nI (j)), .int (nI (q))]) (rest := [.int (nI (0)), .ref o]) (q0 := 0) (ci := 2) hx hb hml hown hts (c_X2_triangle_0 l dC dI cI cL cZ a v i j q hv hi hj hq hc hd) (cwV 3 hts gL_triangle_X2_triangle rfl rfl rfl (by decide +kernel) ⟨Nat.le_of_ble_eq_true rfl, Nat.le_of_ble_eq_true rfl⟩) hK hP hD hS rfl rfl rfl rfl hl.1 rfl (Nat.le_of_ble_eq_true rfl) dL_triangle_7 ⟨Nat.zero_le _, Nat.zero_le _⟩ (fun H locs hP hD hS => ?_)
  have hP : va_P (dC, dI) vwCl (wS cI cL a (sAddT v i j q) ++ wO cL o f) H := hP
  have hD : va_D (inW (wS cI cL a v ++ wO cL o f)) (wS cI cL a (sAddT v i j q) ++ wO cL o f) := hD
  refine W.eq (g2 := F0 m 10 ls [.int (nI (sTm v)), .int (nI (0)), .ref o]) rfl ?_
  refine lv_i2l (v := lI (((sTm v) : Nat) : Int)) hx hb dL_triangle_10 (nzI_l (by have := hv.2.2.2.2.1; omega)) ?_
  refine la_st (k := 0) hx hb hK hP hD hS 9 1 rfl rfl (by decide) (by decide) dL_triangle_11 (fun H locs hP hD hS => ?_)
  have hP : va_P (dC, dI) vwCl (wS cI cL a (sAddT v i j q) ++ wO cL o (va_up f 0 (lI (((sTm v) : Nat) : Int)))) H := hP
  refine lv_goto (tgt := 27) hx hb dL_triangle_12 (by decide) ?_
  refine lv_iconst (v := nI (0)) hx hb dL_triangle_27 (by decide) ?_
  exact wr_iret hx hb hr hP hS rfl rfl dL_triangle_28 hlocks
set_option maxHeartbeats 4000000 in
set_option maxRecDepth 100000 in
theorem c_L_triangle_x1 (l : Launch) (hst : l.stackTraces = false) (dC : Nat → ClassId) (dI : Nat → Nat → Nat) (cI cL cZ : ClassId) (a : Nat → Nat) (v : SV) (o : Nat) (f : Nat → Int64) (i j q : Int32) (hv : okS v) (hc : (inB i (sPn v) && (inB j (sPn v) && inB q (sPn v))) = false) : Met l yL_triangle wsL_triangle ({ frames := 7, cells := 1, slots := 6, locals := 105 }) (va_Pc [.ref (a 0), .int (i), .int (j), .int (q), .ref o] (xw_B (dC, dI) vwCl (wS cI cL a v ++ wO cL o f) (tyS cI cL cZ))) (wr_Q (some (.int (nI 1))) (dC, dI) vwCl (wS cI cL a v ++ wO cL o f) (wS cI cL a v ++ wO cL o f)) 1 6 (inW (wS cI cL a v ++ wO cL o f)) := by
  refine lw_Met (cc := cL_triangle) (maxL := 6) (ret := (some .int)) (hh := [(0, 12, 15, 21), (0, 12, 19, 13), (0, 12, 23, 15)]) (by decide) rfl (Nat.le_of_ble_eq_true rfl) ?_
  intro pr en s m below meth co ls hx hb hml hr hlocks hown hts hP hK hD hS hl htb hE hN
  have hl : lv_has ls 6 [(0, .ref (a 0)), (1, .int (i)), (2, .int (j)), (3, .int (q)), (4, .ref o)] := hl
  have hown : s.vm.findClass RL = some m.cls := hown
  refine lv_aload hx hb dL_triangle_0 (lv_at hl 4 rfl) ?_
  refine lv_iconst (v := nI (0)) hx hb dL_triangle_2 (by decide) ?_
  refine lv_aload_n hx hb dL_triangle_3 rfl (lv_at hl 0 rfl) ?_
  refine lv_iload_n hx hb dL_triangle_4 rfl (lv_at hl 1 rfl) ?_
  refine lv_iload_n hx hb dL_triangle_5 rfl (lv_at hl 2 rfl) ?_
  refine lv_iload_n hx hb dL_triangle_6 rfl (lv_at hl 3 rfl) ?_
  refine xw_inv (E := "java/lang/IndexOutOfBoundsException") (X := []) (Y := wO cL o f) (wo := wS cI cL a v) (As := [.int (i), .int (j), .int (q)]) (rest := [.int (nI (0)), .ref o]) (q0 := 0) (ci := 2) hx hb hml hown hts (c_X2_triangle_x1 l hst dC dI cI cL cZ a v i j q hv hc) (cwV 3 hts gL_triangle_X2_triangle rfl rfl rfl (by decide +kernel) ⟨Nat.le_of_ble_eq_true rfl, Nat.le_of_ble_eq_true rfl⟩) hK hP rfl rfl rfl hl.1 rfl (Nat.le_of_ble_eq_true rfl) dL_triangle_7 ⟨Nat.le_of_ble_eq_true rfl, Nat.le_of_ble_eq_true rfl⟩ hE (fun q9 ce H1 e1 e2 e3 e4 e5 => ?_)
  refine xg_catch (own := RL) (E := "java/lang/IndexOutOfBoundsException") (name := "java/lang/IndexOutOfBoundsException") hown [] ⟨0, 12, 15, 21⟩ [⟨0, 12, 19, 13⟩, ⟨0, 12, 23, 15⟩] htb (fun z hz => nomatch hz) rfl (by decide) (hts (.classLink RL 21 "java/lang/IndexOutOfBoundsException") (by decide +kernel)) (xt_cast (hts (.initialized "java/lang/IndexOutOfBoundsException") (by decide +kernel))) e3 e4 e5 ?_
  refine lv_astore (lv' := [(5, .ref q9), (0, .ref (a 0)), (1, .int (i)), (2, .int (j)), (3, .int (q)), (4, .ref o)]) hx hb dL_triangle_15 hl (by decide) rfl (fun ls hl => ?_)
  refine lv_iconst (v := nI (1)) hx hb dL_triangle_17 (by decide) ?_
  exact xw_iret hx hb hr hP e1 e2 dL_triangle_18 hlocks
set_option maxHeartbeats 4000000 in
set_option maxRecDepth 100000 in
theorem c_L_triangle_x2 (l : Launch) (hst : l.stackTraces = false) (dC : Nat → ClassId) (dI : Nat → Nat → Nat) (cI cL cZ : ClassId) (a : Nat → Nat) (v : SV) (o : Nat) (f : Nat → Int64) (i j q : Nat) (hv : okS v) (hi : i < sPn v) (hj : j < sPn v) (hq : q < sPn v) (hc : ¬ (i ≠ j ∧ j ≠ q ∧ i ≠ q)) : Met l yL_triangle wsL_triangle ({ frames := 7, cells := 1, slots := 6, locals := 105 }) (va_Pc [.ref (a 0), .int (nI (i)), .int (nI (j)), .int (nI (q)), .ref o] (xw_B (dC, dI) vwCl (wS cI cL a v ++ wO cL o f) (tyS cI cL cZ))) (wr_Q (some (.int (nI 2))) (dC, dI) vwCl (wS cI cL a v ++ wO cL o f) (wS cI cL a v ++ wO cL o f)) 1 6 (inW (wS cI cL a v ++ wO cL o f)) := by
  refine lw_Met (cc := cL_triangle) (maxL := 6) (ret := (some .int)) (hh := [(0, 12, 15, 21), (0, 12, 19, 13), (0, 12, 23, 15)]) (by decide) rfl (Nat.le_of_ble_eq_true rfl) ?_
  intro pr en s m below meth co ls hx hb hml hr hlocks hown hts hP hK hD hS hl htb hE hN
  have hl : lv_has ls 6 [(0, .ref (a 0)), (1, .int (nI (i))), (2, .int (nI (j))), (3, .int (nI (q))), (4, .ref o)] := hl
  have hown : s.vm.findClass RL = some m.cls := hown
  refine lv_aload hx hb dL_triangle_0 (lv_at hl 4 rfl) ?_
  refine lv_iconst (v := nI (0)) hx hb dL_triangle_2 (by decide) ?_
  refine lv_aload_n hx hb dL_triangle_3 rfl (lv_at hl 0 rfl) ?_
  refine lv_iload_n hx hb dL_triangle_4 rfl (lv_at hl 1 rfl) ?_
  refine lv_iload_n hx hb dL_triangle_5 rfl (lv_at hl 2 rfl) ?_
  refine lv_iload_n hx hb dL_triangle_6 rfl (lv_at hl 3 rfl) ?_
  refine xw_inv (E := "java/lang/IllegalArgumentException") (X := []) (Y := wO cL o f) (wo := wS cI cL a v) (As := [.int (nI (i)), .int (nI (j)), .int (nI (q))]) (rest := [.int (nI (0)), .ref o]) (q0 := 0) (ci := 2) hx hb hml hown hts (c_X2_triangle_x2 l hst dC dI cI cL cZ a v i j q hv hi hj hq hc) (cwV 3 hts gL_triangle_X2_triangle rfl rfl rfl (by decide +kernel) ⟨Nat.le_of_ble_eq_true rfl, Nat.le_of_ble_eq_true rfl⟩) hK hP rfl rfl rfl hl.1 rfl (Nat.le_of_ble_eq_true rfl) dL_triangle_7 ⟨Nat.le_of_ble_eq_true rfl, Nat.le_of_ble_eq_true rfl⟩ hE (fun q9 ce H1 e1 e2 e3 e4 e5 => ?_)
  refine xg_catch (own := RL) (E := "java/lang/IllegalArgumentException") (name := "java/lang/IllegalArgumentException") hown [⟨0, 12, 15, 21⟩] ⟨0, 12, 19, 13⟩ [⟨0, 12, 23, 15⟩] htb (fun z hz => by
    simp only [List.mem_cons, List.not_mem_nil, or_false] at hz
    subst hz
    · exact Or.inr ⟨by decide, _, hts (.classLink RL 21 "java/lang/IndexOutOfBoundsException") (by decide +kernel), hN.1⟩) rfl (by decide) (hts (.classLink RL 13 "java/lang/IllegalArgumentException") (by decide +kernel)) (xt_cast (hts (.initialized "java/lang/IllegalArgumentException") (by decide +kernel))) e3 e4 e5 ?_
  refine lv_astore (lv' := [(5, .ref q9), (0, .ref (a 0)), (1, .int (nI (i))), (2, .int (nI (j))), (3, .int (nI (q))), (4, .ref o)]) hx hb dL_triangle_19 hl (by decide) rfl (fun ls hl => ?_)
  refine lv_iconst (v := nI (2)) hx hb dL_triangle_21 (by decide) ?_
  exact xw_iret hx hb hr hP e1 e2 dL_triangle_22 hlocks
set_option maxHeartbeats 4000000 in
set_option maxRecDepth 100000 in
theorem c_L_triangle_x3 (l : Launch) (hst : l.stackTraces = false) (dC : Nat → ClassId) (dI : Nat → Nat → Nat) (cI cL cZ : ClassId) (a : Nat → Nat) (v : SV) (o : Nat) (f : Nat → Int64) (i j q : Nat) (hv : okS v) (hi : i < sPn v) (hj : j < sPn v) (hq : q < sPn v) (hc : i ≠ j ∧ j ≠ q ∧ i ≠ q) (hd : ¬ (sTn v < 60 ∧ sTm v < 200)) : Met l yL_triangle wsL_triangle ({ frames := 7, cells := 1, slots := 6, locals := 105 }) (va_Pc [.ref (a 0), .int (nI (i)), .int (nI (j)), .int (nI (q)), .ref o] (xw_B (dC, dI) vwCl (wS cI cL a v ++ wO cL o f) (tyS cI cL cZ))) (wr_Q (some (.int (nI 3))) (dC, dI) vwCl (wS cI cL a v ++ wO cL o f) (wS cI cL a v ++ wO cL o f)) 1 6 (inW (wS cI cL a v ++ wO cL o f)) := by
  refine lw_Met (cc := cL_triangle) (maxL := 6) (ret := (some .int)) (hh := [(0, 12, 15, 21), (0, 12, 19, 13), (0, 12, 23, 15)]) (by decide) rfl (Nat.le_of_ble_eq_true rfl) ?_
  intro pr en s m below meth co ls hx hb hml hr hlocks hown hts hP hK hD hS hl htb hE hN
  have hl : lv_has ls 6 [(0, .ref (a 0)), (1, .int (nI (i))), (2, .int (nI (j))), (3, .int (nI (q))), (4, .ref o)] := hl
  have hown : s.vm.findClass RL = some m.cls := hown
  refine lv_aload hx hb dL_triangle_0 (lv_at hl 4 rfl) ?_
  refine lv_iconst (v := nI (0)) hx hb dL_triangle_2 (by decide) ?_
  refine lv_aload_n hx hb dL_triangle_3 rfl (lv_at hl 0 rfl) ?_
  refine lv_iload_n hx hb dL_triangle_4 rfl (lv_at hl 1 rfl) ?_
  refine lv_iload_n hx hb dL_triangle_5 rfl (lv_at hl 2 rfl) ?_
  refine lv_iload_n hx hb dL_triangle_6 rfl (lv_at hl 3 rfl) ?_
  refine xw_inv (E := "java/lang/IllegalStateException") (X := []) (Y := wO cL o f) (wo := wS cI cL a v) (As := [.int (nI (i)), .int (nI (j)), .int (nI (q))]) (rest := [.int (nI (0)), .ref o]) (q0 := 0) (ci := 2) hx hb hml hown hts (c_X2_triangle_x3 l hst dC dI cI cL cZ a v i j q hv hi hj hq hc hd) (cwV 3 hts gL_triangle_X2_triangle rfl rfl rfl (by decide +kernel) ⟨Nat.le_of_ble_eq_true rfl, Nat.le_of_ble_eq_true rfl⟩) hK hP rfl rfl rfl hl.1 rfl (Nat.le_of_ble_eq_true rfl) dL_triangle_7 ⟨Nat.le_of_ble_eq_true rfl, Nat.le_of_ble_eq_true rfl⟩ hE (fun q9 ce H1 e1 e2 e3 e4 e5 => ?_)
  refine xg_catch (own := RL) (E := "java/lang/IllegalStateException") (name := "java/lang/IllegalStateException") hown [⟨0, 12, 15, 21⟩, ⟨0, 12, 19, 13⟩] ⟨0, 12, 23, 15⟩ [] htb (fun z hz => by
    simp only [List.mem_cons, List.not_mem_nil, or_false] at hz
    rcases hz with rfl | rfl
    · exact Or.inr ⟨by decide, _, hts (.classLink RL 21 "java/lang/IndexOutOfBoundsException") (by decide +kernel), hN.2.1⟩
    · exact Or.inr ⟨by decide, _, hts (.classLink RL 13 "java/lang/IllegalArgumentException") (by decide +kernel), hN.2.2⟩) rfl (by decide) (hts (.classLink RL 15 "java/lang/IllegalStateException") (by decide +kernel)) (xt_cast (hts (.initialized "java/lang/IllegalStateException") (by decide +kernel))) e3 e4 e5 ?_
  refine lv_astore (lv' := [(5, .ref q9), (0, .ref (a 0)), (1, .int (nI (i))), (2, .int (nI (j))), (3, .int (nI (q))), (4, .ref o)]) hx hb dL_triangle_23 hl (by decide) rfl (fun ls hl => ?_)
  refine lv_iconst (v := nI (3)) hx hb dL_triangle_25 (by decide) ?_
  exact xw_iret hx hb hr hP e1 e2 dL_triangle_26 hlocks
set_option maxHeartbeats 4000000 in
set_option maxRecDepth 100000 in
theorem c_L_take_0 (l : Launch) (dC : Nat → ClassId) (dI : Nat → Nat → Nat) (cI cL cZ : ClassId) (a : Nat → Nat) (v : SV) (t : Nat) (hv : okS v) (ht : t < 200) (hc : thB (sTh v) (sTn v) (nI t) = true) : Met l yL_take wsL_take ({ frames := 2, cells := 0, slots := 0, locals := 44 }) (va_Pc [.ref (a 0), .int (nI (t))] (xw_B (dC, dI) vwCl (wS cI cL a v) (tyS cI cL cZ))) (wr_Q (some (.int (nI 0))) (dC, dI) vwCl (wS cI cL a v) (wS cI cL a (sRem v t))) 0 0 (inW (wS cI cL a v)) := by
  refine lw_Met (cc := cL_take) (maxL := 3) (ret := (some .int)) (hh := [(0, 5, 8, 21)]) (by decide) rfl (Nat.le_of_ble_eq_true rfl) ?_
  intro pr en s m below meth co ls hx hb hml hr hlocks hown hts hP hK hD hS hl htb hE hN
  have hl : lv_has ls 3 [(0, .ref (a 0)), (1, .int (nI (t)))] := hl
  have hown : s.vm.findClass RL = some m.cls := hown
  refine lv_aload_n hx hb dL_take_0 rfl (lv_at hl 0 rfl) ?_
  refine lv_iload_n hx hb dL_take_1 rfl (lv_at hl 1 rfl) ?_
  refine wx_V (X := []) (Y := []) (wo := wS cI cL a v) (As := [.int (nI (t))]) (rest := []) (q0 := 0) (ci := 2) hx hb hml hown hts (c_X2_take_0 l dC dI cI cL cZ a v t hv ht hc) (cwV 1 hts gL_take_X2_take rfl rfl rfl (by decide +kernel) ⟨Nat.le_of_ble_eq_true rfl, Nat.le_of_ble_eq_true rfl⟩) hK (by rw [List.append_nil]; exact hP) (by rw [List.append_nil]; exact hD) hS rfl rfl rfl rfl hl.1 rfl (Nat.le_of_ble_eq_true rfl) dL_take_2 ⟨Nat.zero_le _, Nat.zero_le _⟩ (fun H locs hP hD hS => ?_)
  have hP : va_P (dC, dI) vwCl (wS cI cL a (sRem v t)) H := by rw [List.nil_append, List.append_nil] at hP; exact hP
  refine W.eq (g2 := F0 m 5 ls []) rfl ?_
  refine lv_goto (tgt := 11) hx hb dL_take_5 (by decide) ?_
  refine lv_iconst (v := nI (0)) hx hb dL_take_11 (by decide) ?_
  exact wr_iret hx hb hr hP hS rfl rfl dL_take_12 hlocks
set_option maxHeartbeats 4000000 in
set_option maxRecDepth 100000 in
theorem c_L_take_x1 (l : Launch) (hst : l.stackTraces = false) (dC : Nat → ClassId) (dI : Nat → Nat → Nat) (cI cL cZ : ClassId) (a : Nat → Nat) (v : SV) (t : Int32) (hv : okS v) (hc : thB (sTh v) (sTn v) t = false) : Met l yL_take wsL_take ({ frames := 7, cells := 1, slots := 6, locals := 103 }) (va_Pc [.ref (a 0), .int (t)] (xw_B (dC, dI) vwCl (wS cI cL a v) (tyS cI cL cZ))) (wr_Q (some (.int (nI 1))) (dC, dI) vwCl (wS cI cL a v) (wS cI cL a v)) 1 6 (inW (wS cI cL a v)) := by
  refine lw_Met (cc := cL_take) (maxL := 3) (ret := (some .int)) (hh := [(0, 5, 8, 21)]) (by decide) rfl (Nat.le_of_ble_eq_true rfl) ?_
  intro pr en s m below meth co ls hx hb hml hr hlocks hown hts hP hK hD hS hl htb hE hN
  have hl : lv_has ls 3 [(0, .ref (a 0)), (1, .int (t))] := hl
  have hown : s.vm.findClass RL = some m.cls := hown
  refine lv_aload_n hx hb dL_take_0 rfl (lv_at hl 0 rfl) ?_
  refine lv_iload_n hx hb dL_take_1 rfl (lv_at hl 1 rfl) ?_
  refine xw_inv (E := "java/lang/IndexOutOfBoundsException") (X := []) (Y := []) (wo := wS cI cL a v) (As := [.int (t)]) (rest := []) (q0 := 0) (ci := 2) hx hb hml hown hts (c_X2_take_x1 l hst dC dI cI cL cZ a v t hv hc) (cwV 1 hts gL_take_X2_take rfl rfl rfl (by decide +kernel) ⟨Nat.le_of_ble_eq_true rfl, Nat.le_of_ble_eq_true rfl⟩) hK (by rw [List.append_nil]; exact hP) rfl rfl rfl hl.1 rfl (Nat.le_of_ble_eq_true rfl) dL_take_2 ⟨Nat.le_of_ble_eq_true rfl, Nat.le_of_ble_eq_true rfl⟩ hE (fun q9 ce H1 e1 e2 e3 e4 e5 => ?_)
  refine xg_catch (own := RL) (E := "java/lang/IndexOutOfBoundsException") (name := "java/lang/IndexOutOfBoundsException") hown [] ⟨0, 5, 8, 21⟩ [] htb (fun z hz => nomatch hz) rfl (by decide) (hts (.classLink RL 21 "java/lang/IndexOutOfBoundsException") (by decide +kernel)) (xt_cast (hts (.initialized "java/lang/IndexOutOfBoundsException") (by decide +kernel))) e3 e4 e5 ?_
  refine lv_astore_n (lv' := [(2, .ref q9), (0, .ref (a 0)), (1, .int (t))]) hx hb dL_take_8 rfl hl (by decide) rfl (fun ls hl => ?_)
  refine lv_iconst (v := nI (1)) hx hb dL_take_9 (by decide) ?_
  exact xw_iret hx hb hr hP e1 e2 dL_take_10 hlocks
set_option maxHeartbeats 4000000 in
set_option maxRecDepth 100000 in
theorem c_L_part_0 (l : Launch) (dC : Nat → ClassId) (dI : Nat → Nat → Nat) (cI cL cZ : ClassId) (a : Nat → Nat) (v : SV) (o : Nat) (f : Nat → Int64) (t x y : Nat) (hv : okS v) (ht : t < 200) (hx9 : x < 512) (hy9 : y < 512) (hc : thB (sTh v) (sTn v) (nI t) = true) (hd : wit v.1 t (x : Int) (y : Int) = true) (he : pAt v.1 (sPn v) (nI x) (nI y) = none ∧ sPn v < 60 ∧ sTn v + 2 ≤ 60 ∧ sTm v + 2 ≤ 200) : Met l yL_part wsL_part ({ frames := 4, cells := 0, slots := 0, locals := 99 }) (va_Pc [.ref (a 0), .int (nI (t)), .int (nI (x)), .int (nI (y)), .ref o] (xw_B (dC, dI) vwCl (wS cI cL a v ++ wO cL o f) (tyS cI cL cZ))) (wr_Q (some (.int (nI 0))) (dC, dI) vwCl (wS cI cL a v ++ wO cL o f) (wS cI cL a (sPar v t x y) ++ wO cL o (va_up f 0 (lI (((sPn v) : Nat) : Int))))) 0 0 (inW (wS cI cL a v ++ wO cL o f)) := by
  refine lw_Met (cc := cL_part) (maxL := 6) (ret := (some .int)) (hh := [(0, 12, 15, 21), (0, 12, 19, 13), (0, 12, 23, 15)]) (by decide) rfl (Nat.le_of_ble_eq_true rfl) ?_
  intro pr en s m below meth co ls hx hb hml hr hlocks hown hts hP hK hD hS hl htb hE hN
  have hl : lv_has ls 6 [(0, .ref (a 0)), (1, .int (nI (t))), (2, .int (nI (x))), (3, .int (nI (y))), (4, .ref o)] := hl
  have hown : s.vm.findClass RL = some m.cls := hown
  refine lv_aload hx hb dL_part_0 (lv_at hl 4 rfl) ?_
  refine lv_iconst (v := nI (0)) hx hb dL_part_2 (by decide) ?_
  refine lv_aload_n hx hb dL_part_3 rfl (lv_at hl 0 rfl) ?_
  refine lv_iload_n hx hb dL_part_4 rfl (lv_at hl 1 rfl) ?_
  refine lv_iload_n hx hb dL_part_5 rfl (lv_at hl 2 rfl) ?_
  refine lv_iload_n hx hb dL_part_6 rfl (lv_at hl 3 rfl) ?_
  refine wx_V (X := []) (Y := wO cL o f) (wo := wS cI cL a v) (As := [.int (nI (t)), .int (nI (x)), .int (nI (y))]) (rest := [.int (nI (0)), .ref o]) (q0 := 0) (ci := 2) hx hb hml hown hts (c_X2_part_0 l dC dI cI cL cZ a v t x y hv ht hx9 hy9 hc hd he) (cwV 3 hts gL_part_X2_part rfl rfl rfl (by decide +kernel) ⟨Nat.le_of_ble_eq_true rfl, Nat.le_of_ble_eq_true rfl⟩) hK hP hD hS rfl rfl rfl rfl hl.1 rfl (Nat.le_of_ble_eq_true rfl) dL_part_7 ⟨Nat.zero_le _, Nat.zero_le _⟩ (fun H locs hP hD hS => ?_)
  have hP : va_P (dC, dI) vwCl (wS cI cL a (sPar v t x y) ++ wO cL o f) H := hP
  have hD : va_D (inW (wS cI cL a v ++ wO cL o f)) (wS cI cL a (sPar v t x y) ++ wO cL o f) := hD
  refine W.eq (g2 := F0 m 10 ls [.int (nI (sPn v)), .int (nI (0)), .ref o]) rfl ?_
  refine lv_i2l (v := lI (((sPn v) : Nat) : Int)) hx hb dL_part_10 (nzI_l (by have := hv.2.1; omega)) ?_
  refine la_st (k := 0) hx hb hK hP hD hS 9 1 rfl rfl (by decide) (by decide) dL_part_11 (fun H locs hP hD hS => ?_)
  have hP : va_P (dC, dI) vwCl (wS cI cL a (sPar v t x y) ++ wO cL o (va_up f 0 (lI (((sPn v) : Nat) : Int)))) H := hP
  refine lv_goto (tgt := 27) hx hb dL_part_12 (by decide) ?_
  refine lv_iconst (v := nI (0)) hx hb dL_part_27 (by decide) ?_
  exact wr_iret hx hb hr hP hS rfl rfl dL_part_28 hlocks
set_option maxHeartbeats 4000000 in
set_option maxRecDepth 100000 in
theorem c_L_part_x1 (l : Launch) (hst : l.stackTraces = false) (dC : Nat → ClassId) (dI : Nat → Nat → Nat) (cI cL cZ : ClassId) (a : Nat → Nat) (v : SV) (o : Nat) (f : Nat → Int64) (t x y : Int32) (hv : okS v) (hc : thB (sTh v) (sTn v) t = false) : Met l yL_part wsL_part ({ frames := 7, cells := 1, slots := 6, locals := 109 }) (va_Pc [.ref (a 0), .int (t), .int (x), .int (y), .ref o] (xw_B (dC, dI) vwCl (wS cI cL a v ++ wO cL o f) (tyS cI cL cZ))) (wr_Q (some (.int (nI 1))) (dC, dI) vwCl (wS cI cL a v ++ wO cL o f) (wS cI cL a v ++ wO cL o f)) 1 6 (inW (wS cI cL a v ++ wO cL o f)) := by
  refine lw_Met (cc := cL_part) (maxL := 6) (ret := (some .int)) (hh := [(0, 12, 15, 21), (0, 12, 19, 13), (0, 12, 23, 15)]) (by decide) rfl (Nat.le_of_ble_eq_true rfl) ?_
  intro pr en s m below meth co ls hx hb hml hr hlocks hown hts hP hK hD hS hl htb hE hN
  have hl : lv_has ls 6 [(0, .ref (a 0)), (1, .int (t)), (2, .int (x)), (3, .int (y)), (4, .ref o)] := hl
  have hown : s.vm.findClass RL = some m.cls := hown
  refine lv_aload hx hb dL_part_0 (lv_at hl 4 rfl) ?_
  refine lv_iconst (v := nI (0)) hx hb dL_part_2 (by decide) ?_
  refine lv_aload_n hx hb dL_part_3 rfl (lv_at hl 0 rfl) ?_
  refine lv_iload_n hx hb dL_part_4 rfl (lv_at hl 1 rfl) ?_
  refine lv_iload_n hx hb dL_part_5 rfl (lv_at hl 2 rfl) ?_
  refine lv_iload_n hx hb dL_part_6 rfl (lv_at hl 3 rfl) ?_
  refine xw_inv (E := "java/lang/IndexOutOfBoundsException") (X := []) (Y := wO cL o f) (wo := wS cI cL a v) (As := [.int (t), .int (x), .int (y)]) (rest := [.int (nI (0)), .ref o]) (q0 := 0) (ci := 2) hx hb hml hown hts (c_X2_part_x1 l hst dC dI cI cL cZ a v t x y hv hc) (cwV 3 hts gL_part_X2_part rfl rfl rfl (by decide +kernel) ⟨Nat.le_of_ble_eq_true rfl, Nat.le_of_ble_eq_true rfl⟩) hK hP rfl rfl rfl hl.1 rfl (Nat.le_of_ble_eq_true rfl) dL_part_7 ⟨Nat.le_of_ble_eq_true rfl, Nat.le_of_ble_eq_true rfl⟩ hE (fun q9 ce H1 e1 e2 e3 e4 e5 => ?_)
  refine xg_catch (own := RL) (E := "java/lang/IndexOutOfBoundsException") (name := "java/lang/IndexOutOfBoundsException") hown [] ⟨0, 12, 15, 21⟩ [⟨0, 12, 19, 13⟩, ⟨0, 12, 23, 15⟩] htb (fun z hz => nomatch hz) rfl (by decide) (hts (.classLink RL 21 "java/lang/IndexOutOfBoundsException") (by decide +kernel)) (xt_cast (hts (.initialized "java/lang/IndexOutOfBoundsException") (by decide +kernel))) e3 e4 e5 ?_
  refine lv_astore (lv' := [(5, .ref q9), (0, .ref (a 0)), (1, .int (t)), (2, .int (x)), (3, .int (y)), (4, .ref o)]) hx hb dL_part_15 hl (by decide) rfl (fun ls hl => ?_)
  refine lv_iconst (v := nI (1)) hx hb dL_part_17 (by decide) ?_
  exact xw_iret hx hb hr hP e1 e2 dL_part_18 hlocks
set_option maxHeartbeats 4000000 in
set_option maxRecDepth 100000 in
theorem c_L_part_x2 (l : Launch) (hst : l.stackTraces = false) (dC : Nat → ClassId) (dI : Nat → Nat → Nat) (cI cL cZ : ClassId) (a : Nat → Nat) (v : SV) (o : Nat) (f : Nat → Int64) (t x y : Int32) (hv : okS v) (ht : thB (sTh v) (sTn v) t = true) (hc : (inB x 512 && inB y 512) = false) : Met l yL_part wsL_part ({ frames := 7, cells := 1, slots := 6, locals := 109 }) (va_Pc [.ref (a 0), .int (t), .int (x), .int (y), .ref o] (xw_B (dC, dI) vwCl (wS cI cL a v ++ wO cL o f) (tyS cI cL cZ))) (wr_Q (some (.int (nI 2))) (dC, dI) vwCl (wS cI cL a v ++ wO cL o f) (wS cI cL a v ++ wO cL o f)) 1 6 (inW (wS cI cL a v ++ wO cL o f)) := by
  refine lw_Met (cc := cL_part) (maxL := 6) (ret := (some .int)) (hh := [(0, 12, 15, 21), (0, 12, 19, 13), (0, 12, 23, 15)]) (by decide) rfl (Nat.le_of_ble_eq_true rfl) ?_
  intro pr en s m below meth co ls hx hb hml hr hlocks hown hts hP hK hD hS hl htb hE hN
  have hl : lv_has ls 6 [(0, .ref (a 0)), (1, .int (t)), (2, .int (x)), (3, .int (y)), (4, .ref o)] := hl
  have hown : s.vm.findClass RL = some m.cls := hown
  refine lv_aload hx hb dL_part_0 (lv_at hl 4 rfl) ?_
  refine lv_iconst (v := nI (0)) hx hb dL_part_2 (by decide) ?_
  refine lv_aload_n hx hb dL_part_3 rfl (lv_at hl 0 rfl) ?_
  refine lv_iload_n hx hb dL_part_4 rfl (lv_at hl 1 rfl) ?_
  refine lv_iload_n hx hb dL_part_5 rfl (lv_at hl 2 rfl) ?_
  refine lv_iload_n hx hb dL_part_6 rfl (lv_at hl 3 rfl) ?_
  refine xw_inv (E := "java/lang/IllegalArgumentException") (X := []) (Y := wO cL o f) (wo := wS cI cL a v) (As := [.int (t), .int (x), .int (y)]) (rest := [.int (nI (0)), .ref o]) (q0 := 0) (ci := 2) hx hb hml hown hts (c_X2_part_x2 l hst dC dI cI cL cZ a v t x y hv ht hc) (cwV 3 hts gL_part_X2_part rfl rfl rfl (by decide +kernel) ⟨Nat.le_of_ble_eq_true rfl, Nat.le_of_ble_eq_true rfl⟩) hK hP rfl rfl rfl hl.1 rfl (Nat.le_of_ble_eq_true rfl) dL_part_7 ⟨Nat.le_of_ble_eq_true rfl, Nat.le_of_ble_eq_true rfl⟩ hE (fun q9 ce H1 e1 e2 e3 e4 e5 => ?_)
  refine xg_catch (own := RL) (E := "java/lang/IllegalArgumentException") (name := "java/lang/IllegalArgumentException") hown [⟨0, 12, 15, 21⟩] ⟨0, 12, 19, 13⟩ [⟨0, 12, 23, 15⟩] htb (fun z hz => by
    simp only [List.mem_cons, List.not_mem_nil, or_false] at hz
    subst hz
    · exact Or.inr ⟨by decide, _, hts (.classLink RL 21 "java/lang/IndexOutOfBoundsException") (by decide +kernel), hN.1⟩) rfl (by decide) (hts (.classLink RL 13 "java/lang/IllegalArgumentException") (by decide +kernel)) (xt_cast (hts (.initialized "java/lang/IllegalArgumentException") (by decide +kernel))) e3 e4 e5 ?_
  refine lv_astore (lv' := [(5, .ref q9), (0, .ref (a 0)), (1, .int (t)), (2, .int (x)), (3, .int (y)), (4, .ref o)]) hx hb dL_part_19 hl (by decide) rfl (fun ls hl => ?_)
  refine lv_iconst (v := nI (2)) hx hb dL_part_21 (by decide) ?_
  exact xw_iret hx hb hr hP e1 e2 dL_part_22 hlocks
set_option maxHeartbeats 4000000 in
set_option maxRecDepth 100000 in
theorem c_L_part_x2b (l : Launch) (hst : l.stackTraces = false) (dC : Nat → ClassId) (dI : Nat → Nat → Nat) (cI cL cZ : ClassId) (a : Nat → Nat) (v : SV) (o : Nat) (f : Nat → Int64) (t x y : Nat) (hv : okS v) (ht : t < 200) (hx9 : x < 512) (hy9 : y < 512) (hc : thB (sTh v) (sTn v) (nI t) = true) (hd : wit v.1 t (x : Int) (y : Int) = false) : Met l yL_part wsL_part ({ frames := 7, cells := 1, slots := 6, locals := 109 }) (va_Pc [.ref (a 0), .int (nI (t)), .int (nI (x)), .int (nI (y)), .ref o] (xw_B (dC, dI) vwCl (wS cI cL a v ++ wO cL o f) (tyS cI cL cZ))) (wr_Q (some (.int (nI 2))) (dC, dI) vwCl (wS cI cL a v ++ wO cL o f) (wS cI cL a v ++ wO cL o f)) 1 6 (inW (wS cI cL a v ++ wO cL o f)) := by
  refine lw_Met (cc := cL_part) (maxL := 6) (ret := (some .int)) (hh := [(0, 12, 15, 21), (0, 12, 19, 13), (0, 12, 23, 15)]) (by decide) rfl (Nat.le_of_ble_eq_true rfl) ?_
  intro pr en s m below meth co ls hx hb hml hr hlocks hown hts hP hK hD hS hl htb hE hN
  have hl : lv_has ls 6 [(0, .ref (a 0)), (1, .int (nI (t))), (2, .int (nI (x))), (3, .int (nI (y))), (4, .ref o)] := hl
  have hown : s.vm.findClass RL = some m.cls := hown
  refine lv_aload hx hb dL_part_0 (lv_at hl 4 rfl) ?_
  refine lv_iconst (v := nI (0)) hx hb dL_part_2 (by decide) ?_
  refine lv_aload_n hx hb dL_part_3 rfl (lv_at hl 0 rfl) ?_
  refine lv_iload_n hx hb dL_part_4 rfl (lv_at hl 1 rfl) ?_
  refine lv_iload_n hx hb dL_part_5 rfl (lv_at hl 2 rfl) ?_
  refine lv_iload_n hx hb dL_part_6 rfl (lv_at hl 3 rfl) ?_
  refine xw_inv (E := "java/lang/IllegalArgumentException") (X := []) (Y := wO cL o f) (wo := wS cI cL a v) (As := [.int (nI (t)), .int (nI (x)), .int (nI (y))]) (rest := [.int (nI (0)), .ref o]) (q0 := 0) (ci := 2) hx hb hml hown hts (c_X2_part_x2b l hst dC dI cI cL cZ a v t x y hv ht hx9 hy9 hc hd) (cwV 3 hts gL_part_X2_part rfl rfl rfl (by decide +kernel) ⟨Nat.le_of_ble_eq_true rfl, Nat.le_of_ble_eq_true rfl⟩) hK hP rfl rfl rfl hl.1 rfl (Nat.le_of_ble_eq_true rfl) dL_part_7 ⟨Nat.le_of_ble_eq_true rfl, Nat.le_of_ble_eq_true rfl⟩ hE (fun q9 ce H1 e1 e2 e3 e4 e5 => ?_)
  refine xg_catch (own := RL) (E := "java/lang/IllegalArgumentException") (name := "java/lang/IllegalArgumentException") hown [⟨0, 12, 15, 21⟩] ⟨0, 12, 19, 13⟩ [⟨0, 12, 23, 15⟩] htb (fun z hz => by
    simp only [List.mem_cons, List.not_mem_nil, or_false] at hz
    subst hz
    · exact Or.inr ⟨by decide, _, hts (.classLink RL 21 "java/lang/IndexOutOfBoundsException") (by decide +kernel), hN.1⟩) rfl (by decide) (hts (.classLink RL 13 "java/lang/IllegalArgumentException") (by decide +kernel)) (xt_cast (hts (.initialized "java/lang/IllegalArgumentException") (by decide +kernel))) e3 e4 e5 ?_
  refine lv_astore (lv' := [(5, .ref q9), (0, .ref (a 0)), (1, .int (nI (t))), (2, .int (nI (x))), (3, .int (nI (y))), (4, .ref o)]) hx hb dL_part_19 hl (by decide) rfl (fun ls hl => ?_)
  refine lv_iconst (v := nI (2)) hx hb dL_part_21 (by decide) ?_
  exact xw_iret hx hb hr hP e1 e2 dL_part_22 hlocks
set_option maxHeartbeats 4000000 in
set_option maxRecDepth 100000 in
theorem c_L_part_x3 (l : Launch) (hst : l.stackTraces = false) (dC : Nat → ClassId) (dI : Nat → Nat → Nat) (cI cL cZ : ClassId) (a : Nat → Nat) (v : SV) (o : Nat) (f : Nat → Int64) (t x y : Nat) (hv : okS v) (ht : t < 200) (hx9 : x < 512) (hy9 : y < 512) (hc : thB (sTh v) (sTn v) (nI t) = true) (hd : wit v.1 t (x : Int) (y : Int) = true) (he : ¬ (pAt v.1 (sPn v) (nI x) (nI y) = none ∧ sPn v < 60 ∧ sTn v + 2 ≤ 60 ∧ sTm v + 2 ≤ 200)) : Met l yL_part wsL_part ({ frames := 7, cells := 1, slots := 6, locals := 109 }) (va_Pc [.ref (a 0), .int (nI (t)), .int (nI (x)), .int (nI (y)), .ref o] (xw_B (dC, dI) vwCl (wS cI cL a v ++ wO cL o f) (tyS cI cL cZ))) (wr_Q (some (.int (nI 3))) (dC, dI) vwCl (wS cI cL a v ++ wO cL o f) (wS cI cL a v ++ wO cL o f)) 1 6 (inW (wS cI cL a v ++ wO cL o f)) := by
  refine lw_Met (cc := cL_part) (maxL := 6) (ret := (some .int)) (hh := [(0, 12, 15, 21), (0, 12, 19, 13), (0, 12, 23, 15)]) (by decide) rfl (Nat.le_of_ble_eq_true rfl) ?_
  intro pr en s m below meth co ls hx hb hml hr hlocks hown hts hP hK hD hS hl htb hE hN
  have hl : lv_has ls 6 [(0, .ref (a 0)), (1, .int (nI (t))), (2, .int (nI (x))), (3, .int (nI (y))), (4, .ref o)] := hl
  have hown : s.vm.findClass RL = some m.cls := hown
  refine lv_aload hx hb dL_part_0 (lv_at hl 4 rfl) ?_
  refine lv_iconst (v := nI (0)) hx hb dL_part_2 (by decide) ?_
  refine lv_aload_n hx hb dL_part_3 rfl (lv_at hl 0 rfl) ?_
  refine lv_iload_n hx hb dL_part_4 rfl (lv_at hl 1 rfl) ?_
  refine lv_iload_n hx hb dL_part_5 rfl (lv_at hl 2 rfl) ?_
  refine lv_iload_n hx hb dL_part_6 rfl (lv_at hl 3 rfl) ?_
  refine xw_inv (E := "java/lang/IllegalStateException") (X := []) (Y := wO cL o f) (wo := wS cI cL a v) (As := [.int (nI (t)), .int (nI (x)), .int (nI (y))]) (rest := [.int (nI (0)), .ref o]) (q0 := 0) (ci := 2) hx hb hml hown hts (c_X2_part_x3 l hst dC dI cI cL cZ a v t x y hv ht hx9 hy9 hc hd he) (cwV 3 hts gL_part_X2_part rfl rfl rfl (by decide +kernel) ⟨Nat.le_of_ble_eq_true rfl, Nat.le_of_ble_eq_true rfl⟩) hK hP rfl rfl rfl hl.1 rfl (Nat.le_of_ble_eq_true rfl) dL_part_7 ⟨Nat.le_of_ble_eq_true rfl, Nat.le_of_ble_eq_true rfl⟩ hE (fun q9 ce H1 e1 e2 e3 e4 e5 => ?_)
  refine xg_catch (own := RL) (E := "java/lang/IllegalStateException") (name := "java/lang/IllegalStateException") hown [⟨0, 12, 15, 21⟩, ⟨0, 12, 19, 13⟩] ⟨0, 12, 23, 15⟩ [] htb (fun z hz => by
    simp only [List.mem_cons, List.not_mem_nil, or_false] at hz
    rcases hz with rfl | rfl
    · exact Or.inr ⟨by decide, _, hts (.classLink RL 21 "java/lang/IndexOutOfBoundsException") (by decide +kernel), hN.2.1⟩
    · exact Or.inr ⟨by decide, _, hts (.classLink RL 13 "java/lang/IllegalArgumentException") (by decide +kernel), hN.2.2⟩) rfl (by decide) (hts (.classLink RL 15 "java/lang/IllegalStateException") (by decide +kernel)) (xt_cast (hts (.initialized "java/lang/IllegalStateException") (by decide +kernel))) e3 e4 e5 ?_
  refine lv_astore (lv' := [(5, .ref q9), (0, .ref (a 0)), (1, .int (nI (t))), (2, .int (nI (x))), (3, .int (nI (y))), (4, .ref o)]) hx hb dL_part_23 hl (by decide) rfl (fun ls hl => ?_)
  refine lv_iconst (v := nI (3)) hx hb dL_part_25 (by decide) ?_
  exact xw_iret hx hb hr hP e1 e2 dL_part_26 hlocks
set_option maxHeartbeats 4000000 in
set_option maxRecDepth 100000 in
theorem c_L_turn_0 (l : Launch) (dC : Nat → ClassId) (dI : Nat → Nat → Nat) (cI cL cZ : ClassId) (a : Nat → Nat) (v : SV) (o : Nat) (f : Nat → Int64) (t j : Nat) (hv : okS v) (ht : t < 200) (hj : j < 3) (hc : thB (sTh v) (sTn v) (nI t) = true) : Met l yL_turn wsL_turn ({ frames := 4, cells := 0, slots := 0, locals := 100 }) (va_Pc [.ref (a 0), .int (nI (t)), .int (nI (j)), .ref o] (xw_B (dC, dI) vwCl (wS cI cL a v ++ wO cL o f) (tyS cI cL cZ))) (wr_Q (some (.int (nI 0))) (dC, dI) vwCl (wS cI cL a v ++ wO cL o f) (wS cI cL a (tuS v t j) ++ wO cL o (va_up f 0 (if (tuB v.1 (sTh v) (sTn v) t j) = true then 1 else 0)))) 0 0 (inW (wS cI cL a v ++ wO cL o f)) := by
  refine lw_Met (cc := cL_turn) (maxL := 5) (ret := (some .int)) (hh := [(0, 17, 20, 21)]) (by decide) rfl (Nat.le_of_ble_eq_true rfl) ?_
  intro pr en s m below meth co ls hx hb hml hr hlocks hown hts hP hK hD hS hl htb hE hN
  have hl : lv_has ls 5 [(0, .ref (a 0)), (1, .int (nI (t))), (2, .int (nI (j))), (3, .ref o)] := hl
  have hown : s.vm.findClass RL = some m.cls := hown
  refine lv_aload_n hx hb dL_turn_0 rfl (lv_at hl 3 rfl) ?_
  refine lv_iconst (v := nI (0)) hx hb dL_turn_1 (by decide) ?_
  refine lv_aload_n hx hb dL_turn_2 rfl (lv_at hl 0 rfl) ?_
  refine lv_iload_n hx hb dL_turn_3 rfl (lv_at hl 1 rfl) ?_
  refine lv_iload_n hx hb dL_turn_4 rfl (lv_at hl 2 rfl) ?_
  refine wx_V (X := []) (Y := wO cL o f) (wo := wS cI cL a v) (As := [.int (nI (t)), .int (nI (j))]) (rest := [.int (nI (0)), .ref o]) (q0 := 0) (ci := 2) hx hb hml hown hts (c_X2_turn_0 l dC dI cI cL cZ a v t j hv ht hj hc) (cwV 2 hts gL_turn_X2_turn rfl rfl rfl (by decide +kernel) ⟨Nat.le_of_ble_eq_true rfl, Nat.le_of_ble_eq_true rfl⟩) hK hP hD hS rfl rfl rfl rfl hl.1 rfl (Nat.le_of_ble_eq_true rfl) dL_turn_5 ⟨Nat.zero_le _, Nat.zero_le _⟩ (fun H locs hP hD hS => ?_)
  have hP : va_P (dC, dI) vwCl (wS cI cL a (tuS v t j) ++ wO cL o f) H := hP
  have hD : va_D (inW (wS cI cL a v ++ wO cL o f)) (wS cI cL a (tuS v t j) ++ wO cL o f) := hD
  refine W.eq (g2 := F0 m 8 ls [.int (bI (tuB v.1 (sTh v) (sTn v) t j)), .int (nI (0)), .ref o]) rfl ?_
  refine lv_if_eq (tgt := 15) hx hb dL_turn_8 (by decide) (fun c_1 => ?_) (fun c_1 => ?_)
  · skip
    have c_1 := bI_f c_1
    refine lv_lconst (v := 0) hx hb dL_turn_15 (by decide) ?_
    refine la_st (k := 0) hx hb hK hP hD hS 9 1 rfl rfl (by decide) (by decide) dL_turn_16 (fun H locs hP hD hS => ?_)
    have hP : va_P (dC, dI) vwCl (wS cI cL a (tuS v t j) ++ wO cL o (va_up f 0 (0))) H := hP
    refine lv_goto (tgt := 24) hx hb dL_turn_17 (by decide) ?_
    refine lv_iconst (v := nI (0)) hx hb dL_turn_24 (by decide) ?_
    exact wr_iret hx hb hr hP hS rfl (by rw [c_1]; rfl) dL_turn_25 hlocks
  · skip
    have c_1 := bI_t c_1
    refine lv_lconst (v := 1) hx hb dL_turn_11 (by decide) ?_
    refine lv_goto (tgt := 16) hx hb dL_turn_12 (by decide) ?_
    refine la_st (k := 0) hx hb hK hP hD hS 9 1 rfl rfl (by decide) (by decide) dL_turn_16 (fun H locs hP hD hS => ?_)
    have hP : va_P (dC, dI) vwCl (wS cI cL a (tuS v t j) ++ wO cL o (va_up f 0 (1))) H := hP
    refine lv_goto (tgt := 24) hx hb dL_turn_17 (by decide) ?_
    refine lv_iconst (v := nI (0)) hx hb dL_turn_24 (by decide) ?_
    exact wr_iret hx hb hr hP hS rfl (by rw [c_1]; rfl) dL_turn_25 hlocks
set_option maxHeartbeats 4000000 in
set_option maxRecDepth 100000 in
theorem c_L_turn_x1 (l : Launch) (hst : l.stackTraces = false) (dC : Nat → ClassId) (dI : Nat → Nat → Nat) (cI cL cZ : ClassId) (a : Nat → Nat) (v : SV) (o : Nat) (f : Nat → Int64) (t j : Int32) (hv : okS v) (hc : (inB j 3 && thB (sTh v) (sTn v) t) = false) : Met l yL_turn wsL_turn ({ frames := 7, cells := 1, slots := 6, locals := 104 }) (va_Pc [.ref (a 0), .int (t), .int (j), .ref o] (xw_B (dC, dI) vwCl (wS cI cL a v ++ wO cL o f) (tyS cI cL cZ))) (wr_Q (some (.int (nI 1))) (dC, dI) vwCl (wS cI cL a v ++ wO cL o f) (wS cI cL a v ++ wO cL o f)) 1 6 (inW (wS cI cL a v ++ wO cL o f)) := by
  refine lw_Met (cc := cL_turn) (maxL := 5) (ret := (some .int)) (hh := [(0, 17, 20, 21)]) (by decide) rfl (Nat.le_of_ble_eq_true rfl) ?_
  intro pr en s m below meth co ls hx hb hml hr hlocks hown hts hP hK hD hS hl htb hE hN
  have hl : lv_has ls 5 [(0, .ref (a 0)), (1, .int (t)), (2, .int (j)), (3, .ref o)] := hl
  have hown : s.vm.findClass RL = some m.cls := hown
  refine lv_aload_n hx hb dL_turn_0 rfl (lv_at hl 3 rfl) ?_
  refine lv_iconst (v := nI (0)) hx hb dL_turn_1 (by decide) ?_
  refine lv_aload_n hx hb dL_turn_2 rfl (lv_at hl 0 rfl) ?_
  refine lv_iload_n hx hb dL_turn_3 rfl (lv_at hl 1 rfl) ?_
  refine lv_iload_n hx hb dL_turn_4 rfl (lv_at hl 2 rfl) ?_
  refine xw_inv (E := "java/lang/IndexOutOfBoundsException") (X := []) (Y := wO cL o f) (wo := wS cI cL a v) (As := [.int (t), .int (j)]) (rest := [.int (nI (0)), .ref o]) (q0 := 0) (ci := 2) hx hb hml hown hts (c_X2_turn_x1 l hst dC dI cI cL cZ a v t j hv hc) (cwV 2 hts gL_turn_X2_turn rfl rfl rfl (by decide +kernel) ⟨Nat.le_of_ble_eq_true rfl, Nat.le_of_ble_eq_true rfl⟩) hK hP rfl rfl rfl hl.1 rfl (Nat.le_of_ble_eq_true rfl) dL_turn_5 ⟨Nat.le_of_ble_eq_true rfl, Nat.le_of_ble_eq_true rfl⟩ hE (fun q9 ce H1 e1 e2 e3 e4 e5 => ?_)
  refine xg_catch (own := RL) (E := "java/lang/IndexOutOfBoundsException") (name := "java/lang/IndexOutOfBoundsException") hown [] ⟨0, 17, 20, 21⟩ [] htb (fun z hz => nomatch hz) rfl (by decide) (hts (.classLink RL 21 "java/lang/IndexOutOfBoundsException") (by decide +kernel)) (xt_cast (hts (.initialized "java/lang/IndexOutOfBoundsException") (by decide +kernel))) e3 e4 e5 ?_
  refine lv_astore (lv' := [(4, .ref q9), (0, .ref (a 0)), (1, .int (t)), (2, .int (j)), (3, .ref o)]) hx hb dL_turn_20 hl (by decide) rfl (fun ls hl => ?_)
  refine lv_iconst (v := nI (1)) hx hb dL_turn_22 (by decide) ?_
  exact xw_iret hx hb hr hP e1 e2 dL_turn_23 hlocks
set_option maxHeartbeats 4000000 in
set_option maxRecDepth 100000 in
theorem c_L_improve_0 (l : Launch) (dC : Nat → ClassId) (dI : Nat → Nat → Nat) (cI cL cZ : ClassId) (a : Nat → Nat) (v : SV) (o : Nat) (f : Nat → Int64) (x : Nat) (hv : okS v) (hx9 : x < 501) : Met l yL_improve wsL_improve ({ frames := 5, cells := 0, slots := 0, locals := 123 }) (va_Pc [.ref (a 0), .int (nI (x)), .ref o] (xw_B (dC, dI) vwCl (wS cI cL a v ++ wO cL o f) (tyS cI cL cZ))) (wr_Q (some (.int (nI 0))) (dC, dI) vwCl (wS cI cL a v ++ wO cL o f) (wS cI cL a ((simp_ x v).2) ++ wO cL o (va_up f 0 (lI ((((simp_ x v).1) : Nat) : Int))))) 0 0 (inW (wS cI cL a v ++ wO cL o f)) := by
  refine lw_Met (cc := cL_improve) (maxL := 4) (ret := (some .int)) (hh := [(0, 9, 12, 13)]) (by decide) rfl (Nat.le_of_ble_eq_true rfl) ?_
  intro pr en s m below meth co ls hx hb hml hr hlocks hown hts hP hK hD hS hl htb hE hN
  have hl : lv_has ls 4 [(0, .ref (a 0)), (1, .int (nI (x))), (2, .ref o)] := hl
  have hown : s.vm.findClass RL = some m.cls := hown
  refine lv_aload_n hx hb dL_improve_0 rfl (lv_at hl 2 rfl) ?_
  refine lv_iconst (v := nI (0)) hx hb dL_improve_1 (by decide) ?_
  refine lv_aload_n hx hb dL_improve_2 rfl (lv_at hl 0 rfl) ?_
  refine lv_iload_n hx hb dL_improve_3 rfl (lv_at hl 1 rfl) ?_
  refine wx_V (X := []) (Y := wO cL o f) (wo := wS cI cL a v) (As := [.int (nI (x))]) (rest := [.int (nI (0)), .ref o]) (q0 := 0) (ci := 2) hx hb hml hown hts (c_X2_improve_0 l dC dI cI cL cZ a v x hv hx9) (cwV 1 hts gL_improve_X2_improve rfl rfl rfl (by decide +kernel) ⟨Nat.le_of_ble_eq_true rfl, Nat.le_of_ble_eq_true rfl⟩) hK hP hD hS rfl rfl rfl rfl hl.1 rfl (Nat.le_of_ble_eq_true rfl) dL_improve_4 ⟨Nat.zero_le _, Nat.zero_le _⟩ (fun H locs hP hD hS => ?_)
  have hP : va_P (dC, dI) vwCl (wS cI cL a ((simp_ x v).2) ++ wO cL o f) H := hP
  have hD : va_D (inW (wS cI cL a v ++ wO cL o f)) (wS cI cL a ((simp_ x v).2) ++ wO cL o f) := hD
  refine W.eq (g2 := F0 m 7 ls [.int (nI ((simp_ x v).1)), .int (nI (0)), .ref o]) rfl ?_
  refine lv_i2l (v := lI ((((simp_ x v).1) : Nat) : Int)) hx hb dL_improve_7 (nzI_l (by have := simp_le x v; omega)) ?_
  refine la_st (k := 0) hx hb hK hP hD hS 9 1 rfl rfl (by decide) (by decide) dL_improve_8 (fun H locs hP hD hS => ?_)
  have hP : va_P (dC, dI) vwCl (wS cI cL a ((simp_ x v).2) ++ wO cL o (va_up f 0 (lI ((((simp_ x v).1) : Nat) : Int)))) H := hP
  refine lv_goto (tgt := 15) hx hb dL_improve_9 (by decide) ?_
  refine lv_iconst (v := nI (0)) hx hb dL_improve_15 (by decide) ?_
  exact wr_iret hx hb hr hP hS rfl rfl dL_improve_16 hlocks
set_option maxHeartbeats 4000000 in
set_option maxRecDepth 100000 in
theorem c_L_improve_x1 (l : Launch) (hst : l.stackTraces = false) (dC : Nat → ClassId) (dI : Nat → Nat → Nat) (cI cL cZ : ClassId) (a : Nat → Nat) (v : SV) (o : Nat) (f : Nat → Int64) (x : Int32) (hv : okS v) (hc : inB x 501 = false) : Met l yL_improve wsL_improve ({ frames := 7, cells := 1, slots := 6, locals := 104 }) (va_Pc [.ref (a 0), .int (x), .ref o] (xw_B (dC, dI) vwCl (wS cI cL a v ++ wO cL o f) (tyS cI cL cZ))) (wr_Q (some (.int (nI 1))) (dC, dI) vwCl (wS cI cL a v ++ wO cL o f) (wS cI cL a v ++ wO cL o f)) 1 6 (inW (wS cI cL a v ++ wO cL o f)) := by
  refine lw_Met (cc := cL_improve) (maxL := 4) (ret := (some .int)) (hh := [(0, 9, 12, 13)]) (by decide) rfl (Nat.le_of_ble_eq_true rfl) ?_
  intro pr en s m below meth co ls hx hb hml hr hlocks hown hts hP hK hD hS hl htb hE hN
  have hl : lv_has ls 4 [(0, .ref (a 0)), (1, .int (x)), (2, .ref o)] := hl
  have hown : s.vm.findClass RL = some m.cls := hown
  refine lv_aload_n hx hb dL_improve_0 rfl (lv_at hl 2 rfl) ?_
  refine lv_iconst (v := nI (0)) hx hb dL_improve_1 (by decide) ?_
  refine lv_aload_n hx hb dL_improve_2 rfl (lv_at hl 0 rfl) ?_
  refine lv_iload_n hx hb dL_improve_3 rfl (lv_at hl 1 rfl) ?_
  refine xw_inv (E := "java/lang/IllegalArgumentException") (X := []) (Y := wO cL o f) (wo := wS cI cL a v) (As := [.int (x)]) (rest := [.int (nI (0)), .ref o]) (q0 := 0) (ci := 2) hx hb hml hown hts (c_X2_improve_x1 l hst dC dI cI cL cZ a v x hv hc) (cwV 1 hts gL_improve_X2_improve rfl rfl rfl (by decide +kernel) ⟨Nat.le_of_ble_eq_true rfl, Nat.le_of_ble_eq_true rfl⟩) hK hP rfl rfl rfl hl.1 rfl (Nat.le_of_ble_eq_true rfl) dL_improve_4 ⟨Nat.le_of_ble_eq_true rfl, Nat.le_of_ble_eq_true rfl⟩ hE (fun q9 ce H1 e1 e2 e3 e4 e5 => ?_)
  refine xg_catch (own := RL) (E := "java/lang/IllegalArgumentException") (name := "java/lang/IllegalArgumentException") hown [] ⟨0, 9, 12, 13⟩ [] htb (fun z hz => nomatch hz) rfl (by decide) (hts (.classLink RL 13 "java/lang/IllegalArgumentException") (by decide +kernel)) (xt_cast (hts (.initialized "java/lang/IllegalArgumentException") (by decide +kernel))) e3 e4 e5 ?_
  refine lv_astore_n (lv' := [(3, .ref q9), (0, .ref (a 0)), (1, .int (x)), (2, .ref o)]) hx hb dL_improve_12 rfl hl (by decide) rfl (fun ls hl => ?_)
  refine lv_iconst (v := nI (1)) hx hb dL_improve_13 (by decide) ?_
  exact xw_iret hx hb hr hP e1 e2 dL_improve_14 hlocks
