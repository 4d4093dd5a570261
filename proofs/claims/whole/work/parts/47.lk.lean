theorem mimp_2 : ∀ (k : Nat) (w : MV), (mimp k w).2.2 = w.2
  | 0, w => rfl
  | k + 1, w => by
    rw [mimp]; split
    · exact (mimp_2 k (mfS w)).trans mfS_2
    · rfl
section LKA
variable {p : Program} {l : Launch} {e : Env} {s : State} {m : MethodId} {args : Array Value} {below : List Frame} {meth : Method} {c : Code} {H : Heap} {locs : List Loc} {cells slots : Nat} {Q : State → Prop} {dC : Nat → ClassId} {dI : Nat → Nat → Nat} {cI cL cZ : ClassId} {sc L : Nat} {xs : Nat → Int32} {a b : Nat → Nat} {o : Nat} {f : Nat → Int64} {ls : Array Slot}
set_option maxHeartbeats 4000000 in
set_option maxRecDepth 100000 in
theorem lk_point_0 (CX : LX p l s m meth c args dC dI cI cL cZ sc L xs) (v : SV) (w : MV) (i : Nat) (hi : i + 4 ≤ L) (hl : lv_has ls 7 [(0, .ref sc), (1, .ref (a 0)), (2, .ref (b 0)), (3, .ref o), (4, .int (nI (i)))]) (hP : va_P (dC, dI) vwCl (TW cI cL cZ a b o v w f) H) (hD : va_D (nwA s) (TW cI cL cZ a b o v w f)) (hS : va_S (nwA s) s.heap H locs) (hcl : cells + 1 ≤ 1054 ∧ slots + 6 ≤ 10461) (x y : Nat) (hA1 : xs (i + 1) = nI (x)) (hA2 : xs (i + 2) = nI (y)) (hv : okS v) (hx9 : x < 512) (hy9 : y < 512) (hc : pAt v.1 (sPn v) (nI x) (nI y) = none) (hn : sPn v < 60) (r_hv : okM w) (r_hc : pAt w.1 (mPn w) (nI x) (nI y) = none) (r_hn : mPn w < 60) (heq : sPn v = mPn w) (hbd : mPn w < 2 ^ 31)
    (kk : ∀ (ls1 : Array Slot) (H1 : Heap) (locs1 : List Loc) (f1 : Nat → Int64), lv_has ls1 7 [(0, .ref sc), (1, .ref (a 0)), (2, .ref (b 0)), (3, .ref o), (4, .int (nI (i)))] → va_P (dC, dI) vwCl (TW cI cL cZ a b o (sAddP v x y) ((gMov w.1 (mPn w) x y, nI 0, mPn w + 1, w.2.2.2)) f1) H1 → va_D (nwA s) (TW cI cL cZ a b o (sAddP v x y) ((gMov w.1 (mPn w) x y, nI 0, mPn w + 1, w.2.2.2)) f1) → va_S (nwA s) s.heap H1 locs1 → W p l e room_1 s m args below meth c H1 locs1 (cells + 1) (slots + 6) Q (F0 m 886 ls1 [])) : W p l e room_1 s m args below meth c H locs cells slots Q (F0 m 120 ls []) := by
  obtain ⟨hx, hb, hml, hown, hts, hX, hsc, hK, hE, hN, hLb, hst⟩ := CX
  refine lv_aload_n hx hb dL_law_120 rfl (lv_at hl 1 rfl) ?_
  refine lv_aload_n hx hb dL_law_121 rfl (lv_at hl 0 rfl) ?_
  refine lv_iload hx hb dL_law_122 (lv_at hl 4 rfl) ?_
  refine lv_iconst (v := nI (1)) hx hb dL_law_124 (by decide) ?_
  refine lv_iadd hx hb dL_law_125 ?_
  refine rt_i (y := nI (i + 1)) (nn_add (i) (1)) ?_
  refine sc_ld (k := i + 1) (x := nI (x)) hx hb hX hsc hS (by omega) hLb hA1 dL_law_126 ?_
  refine lv_aload_n hx hb dL_law_127 rfl (lv_at hl 0 rfl) ?_
  refine lv_iload hx hb dL_law_128 (lv_at hl 4 rfl) ?_
  refine lv_iconst (v := nI (2)) hx hb dL_law_130 (by decide) ?_
  refine lv_iadd hx hb dL_law_131 ?_
  refine rt_i (y := nI (i + 2)) (nn_add (i) (2)) ?_
  refine sc_ld (k := i + 2) (x := nI (y)) hx hb hX hsc hS (by omega) hLb hA2 dL_law_132 ?_
  refine lv_aload_n hx hb dL_law_133 rfl (lv_at hl 3 rfl) ?_
  refine wx_L (X := wM cI cZ b w) (Y := []) (wo := wS cI cL a v ++ wO cL o f) (wo' := wS cI cL a (sAddP v x y) ++ wO cL o (va_up f 0 (lI (((sPn v) : Nat) : Int)))) (As := [.ref (a 0), .int (nI (x)), .int (nI (y)), .ref o]) (rest := []) (hh := [(0, 10, 13, 13), (0, 10, 17, 15)]) hx hb hml hown hts hE hN (c_L_point_0 l dC dI cI cL cZ a v o f x y hv hx9 hy9 hc hn) (vx_cwSW 4 hts gL_law_L_point rfl rfl rfl (by decide +kernel) ⟨Nat.le_of_ble_eq_true rfl, Nat.le_of_ble_eq_true rfl⟩) hK hP hD hS rfl rfl hl.1 rfl (Nat.le_of_ble_eq_true rfl) dL_law_134 ⟨(show cells + 0 ≤ 1054 by omega), (show slots + 0 ≤ 10461 by omega)⟩ (fun H locs hP hD hS => ?_)
  have hP : va_P (dC, dI) vwCl (TW cI cL cZ a b o (sAddP v x y) w (va_up f 0 (lI (((sPn v) : Nat) : Int)))) H := hP
  have hD : va_D (nwA s) (TW cI cL cZ a b o (sAddP v x y) w (va_up f 0 (lI (((sPn v) : Nat) : Int)))) := hD
  refine W.eq (g2 := F0 m 137 ls [.int (nI (0))]) rfl ?_
  refine lv_istore (lv' := [(5, .int (nI (0))), (0, .ref sc), (1, .ref (a 0)), (2, .ref (b 0)), (3, .ref o), (4, .int (nI (i)))]) hx hb dL_law_137 hl (by decide) rfl (fun ls hl => ?_)
  refine lv_aload_n hx hb dL_law_139 rfl (lv_at hl 3 rfl) ?_
  refine lv_aload_n hx hb dL_law_140 rfl (lv_at hl 1 rfl) ?_
  refine lv_iload hx hb dL_law_141 (lv_at hl 5 rfl) ?_
  refine lv_iconst (v := nI (1)) hx hb dL_law_143 (by decide) ?_
  refine lv_iadd hx hb dL_law_144 ?_
  refine rt_i (y := nI (i + 1)) (nn_add (i) (1)) ?_
  refine sc_ld (k := i + 1) (x := nI (x)) hx hb hX hsc hS (by omega) hLb hA1 dL_law_145 ?_
  refine lv_aload_n hx hb dL_law_146 rfl (lv_at hl 1 rfl) ?_
  refine lv_iload hx hb dL_law_147 (lv_at hl 5 rfl) ?_
  refine lv_iconst (v := nI (2)) hx hb dL_law_149 (by decide) ?_
  refine lv_iadd hx hb dL_law_150 ?_
  refine rt_i (y := nI (i + 2)) (nn_add (i) (2)) ?_
  refine sc_ld (k := i + 2) (x := nI (y)) hx hb hX hsc hS (by omega) hLb hA2 dL_law_151 ?_
  refine wx_V (X := []) (Y := wS cI cL a (sAddP v x y) ++ wO cL o (va_up f 0 (lI (((sPn v) : Nat) : Int)))) (wo := wM cI cZ b w) (wo' := wM cI cZ b ((gMov w.1 (mPn w) x y, nI 0, mPn w + 1, w.2.2.2))) (As := [.int (nI (x)), .int (nI (y))]) (rest := []) (q0 := 0) (ci := 3) hx hb hml hown hts (c_X3_point_0 l dC dI cI cL cZ b w x y r_hv hx9 hy9 r_hc r_hn) (cwV 2 hts gL_law_X3_point rfl rfl rfl (by decide +kernel) ⟨Nat.le_of_ble_eq_true rfl, Nat.le_of_ble_eq_true rfl⟩) hK hP hD hS rfl rfl rfl rfl hl.1 rfl (Nat.le_of_ble_eq_true rfl) dL_law_152 ⟨(show cells ≤ 1054 by omega), (show slots ≤ 10461 by omega)⟩ (fun H locs hP hD hS => ?_)
  have hP : va_P (dC, dI) vwCl (TW cI cL cZ a b o (sAddP v x y) ((gMov w.1 (mPn w) x y, nI 0, mPn w + 1, w.2.2.2)) (va_up f 0 (lI (((sPn v) : Nat) : Int)))) H := hP
  have hD : va_D (nwA s) (TW cI cL cZ a b o (sAddP v x y) ((gMov w.1 (mPn w) x y, nI 0, mPn w + 1, w.2.2.2)) (va_up f 0 (lI (((sPn v) : Nat) : Int)))) := hD
  refine W.eq (g2 := F0 m 155 ls [.int (nI (mPn w))]) rfl ?_
  refine lv_istore (lv' := [(6, .int (nI (mPn w))), (5, .int (nI (0))), (0, .ref sc), (1, .ref (a 0)), (2, .ref (b 0)), (3, .ref o), (4, .int (nI (i)))]) hx hb dL_law_155 hl (by decide) rfl (fun ls hl => ?_)
  refine lv_aload_n hx hb dL_law_157 rfl (lv_at hl 4 rfl) ?_
  refine ro_V (wo := wM cI cZ b ((gMov w.1 (mPn w) x y, nI 0, mPn w + 1, w.2.2.2))) (As := []) (rest := []) (q0 := 0) (ci := 3) hx hb hml hown hts (c_X3_thrown l dC dI cI cL cZ b ((gMov w.1 (mPn w) x y, nI 0, mPn w + 1, w.2.2.2))  ) (cwV 0 hts gL_law_X3_thrown rfl rfl rfl (by decide +kernel) ⟨Nat.le_of_ble_eq_true rfl, Nat.le_of_ble_eq_true rfl⟩) hK (pj_sub (X := []) (Y := wS cI cL a (sAddP v x y) ++ wO cL o (va_up f 0 (lI (((sPn v) : Nat) : Int)))) hP) rfl rfl rfl hl.1 rfl (Nat.le_of_ble_eq_true rfl) dL_law_158 ⟨(show cells ≤ 1054 by omega), (show slots ≤ 10461 by omega)⟩ ?_
  refine W.eq (g2 := F0 m 161 ls [.int (nI (0))]) rfl ?_
  refine lv_iload hx hb dL_law_161 (lv_at hl 1 rfl) ?_
  refine lv_icmp_eq (tgt := 168) hx hb dL_law_163 (by decide) (fun _ => ?_) (fun c9 => absurd rfl c9)
  refine lv_iload hx hb dL_law_168 (lv_at hl 1 rfl) ?_
  refine lv_if_ne (tgt := 185) hx hb dL_law_170 (by decide) (fun c9 => absurd (by decide) c9) (fun _ => ?_)
  refine lv_aload_n hx hb dL_law_173 rfl (lv_at hl 5 rfl) ?_
  refine lv_iconst (v := nI (0)) hx hb dL_law_174 (by decide) ?_
  refine la_ld (k := 0) hx hb hK hP 15 1 rfl rfl (by decide) (by decide) dL_law_175 ?_
  refine rt_l (y := lI (((sPn v) : Nat) : Int)) rfl ?_
  refine lv_iload hx hb dL_law_176 (lv_at hl 0 rfl) ?_
  refine lv_i2l (v := lI (((mPn w) : Nat) : Int)) hx hb dL_law_178 (nzI_l hbd) ?_
  refine rt_l (y := lI (((sPn v) : Nat) : Int)) (by rw [heq]) ?_
  refine W.lcmp hx hb dL_law_179 ?_
  refine lv_if_eq (tgt := 185) hx hb dL_law_180 (by decide) (fun _ => ?_) (fun c9 => absurd (lg_self _) c9)
  refine lv_goto (tgt := 886) hx hb dL_law_185 (by decide) ?_
  refine W.widen (Nat.le_add_right cells 1) (Nat.le_add_right slots 6) ?_
  exact kk ls H locs _ (lv_sub hl [2, 3, 4, 5, 6] rfl) hP hD hS
set_option maxHeartbeats 4000000 in
set_option maxRecDepth 100000 in
theorem lk_point_1 (CX : LX p l s m meth c args dC dI cI cL cZ sc L xs) (v : SV) (w : MV) (i : Nat) (hi : i + 4 ≤ L) (hl : lv_has ls 7 [(0, .ref sc), (1, .ref (a 0)), (2, .ref (b 0)), (3, .ref o), (4, .int (nI (i)))]) (hP : va_P (dC, dI) vwCl (TW cI cL cZ a b o v w f) H) (hD : va_D (nwA s) (TW cI cL cZ a b o v w f)) (hS : va_S (nwA s) s.heap H locs) (hcl : cells + 1 ≤ 1054 ∧ slots + 6 ≤ 10461) (x y : Int32) (hA1 : xs (i + 1) = x) (hA2 : xs (i + 2) = y) (hv : okS v) (hc : (inB x 512 && inB y 512) = false)
    (kk : ∀ (ls1 : Array Slot) (H1 : Heap) (locs1 : List Loc) (f1 : Nat → Int64), lv_has ls1 7 [(0, .ref sc), (1, .ref (a 0)), (2, .ref (b 0)), (3, .ref o), (4, .int (nI (i)))] → va_P (dC, dI) vwCl (TW cI cL cZ a b o v (mThx w (nI 1)) f1) H1 → va_D (nwA s) (TW cI cL cZ a b o v (mThx w (nI 1)) f1) → va_S (nwA s) s.heap H1 locs1 → W p l e room_1 s m args below meth c H1 locs1 (cells + 1) (slots + 6) Q (F0 m 886 ls1 [])) : W p l e room_1 s m args below meth c H locs cells slots Q (F0 m 120 ls []) := by
  obtain ⟨hx, hb, hml, hown, hts, hX, hsc, hK, hE, hN, hLb, hst⟩ := CX
  refine lv_aload_n hx hb dL_law_120 rfl (lv_at hl 1 rfl) ?_
  refine lv_aload_n hx hb dL_law_121 rfl (lv_at hl 0 rfl) ?_
  refine lv_iload hx hb dL_law_122 (lv_at hl 4 rfl) ?_
  refine lv_iconst (v := nI (1)) hx hb dL_law_124 (by decide) ?_
  refine lv_iadd hx hb dL_law_125 ?_
  refine rt_i (y := nI (i + 1)) (nn_add (i) (1)) ?_
  refine sc_ld (k := i + 1) (x := x) hx hb hX hsc hS (by omega) hLb hA1 dL_law_126 ?_
  refine lv_aload_n hx hb dL_law_127 rfl (lv_at hl 0 rfl) ?_
  refine lv_iload hx hb dL_law_128 (lv_at hl 4 rfl) ?_
  refine lv_iconst (v := nI (2)) hx hb dL_law_130 (by decide) ?_
  refine lv_iadd hx hb dL_law_131 ?_
  refine rt_i (y := nI (i + 2)) (nn_add (i) (2)) ?_
  refine sc_ld (k := i + 2) (x := y) hx hb hX hsc hS (by omega) hLb hA2 dL_law_132 ?_
  refine lv_aload_n hx hb dL_law_133 rfl (lv_at hl 3 rfl) ?_
  refine wx_L (X := wM cI cZ b w) (Y := []) (wo := wS cI cL a v ++ wO cL o f) (wo' := wS cI cL a v ++ wO cL o f) (As := [.ref (a 0), .int (x), .int (y), .ref o]) (rest := []) (hh := [(0, 10, 13, 13), (0, 10, 17, 15)]) hx hb hml hown hts hE hN (c_L_point_x1 l hst dC dI cI cL cZ a v o f x y hv hc) (vx_cwSW 4 hts gL_law_L_point rfl rfl rfl (by decide +kernel) ⟨Nat.le_of_ble_eq_true rfl, Nat.le_of_ble_eq_true rfl⟩) hK hP hD hS rfl rfl hl.1 rfl (Nat.le_of_ble_eq_true rfl) dL_law_134 ⟨(show cells + 1 ≤ 1054 by omega), (show slots + 6 ≤ 10461 by omega)⟩ (fun H locs hP hD hS => ?_)
  have hP : va_P (dC, dI) vwCl (TW cI cL cZ a b o v w f) H := hP
  have hD : va_D (nwA s) (TW cI cL cZ a b o v w f) := hD
  refine W.eq (g2 := F0 m 137 ls [.int (nI (1))]) rfl ?_
  refine lv_istore (lv' := [(5, .int (nI (1))), (0, .ref sc), (1, .ref (a 0)), (2, .ref (b 0)), (3, .ref o), (4, .int (nI (i)))]) hx hb dL_law_137 hl (by decide) rfl (fun ls hl => ?_)
  refine lv_aload_n hx hb dL_law_139 rfl (lv_at hl 3 rfl) ?_
  refine lv_aload_n hx hb dL_law_140 rfl (lv_at hl 1 rfl) ?_
  refine lv_iload hx hb dL_law_141 (lv_at hl 5 rfl) ?_
  refine lv_iconst (v := nI (1)) hx hb dL_law_143 (by decide) ?_
  refine lv_iadd hx hb dL_law_144 ?_
  refine rt_i (y := nI (i + 1)) (nn_add (i) (1)) ?_
  refine sc_ld (k := i + 1) (x := x) hx hb hX hsc hS (by omega) hLb hA1 dL_law_145 ?_
  refine lv_aload_n hx hb dL_law_146 rfl (lv_at hl 1 rfl) ?_
  refine lv_iload hx hb dL_law_147 (lv_at hl 5 rfl) ?_
  refine lv_iconst (v := nI (2)) hx hb dL_law_149 (by decide) ?_
  refine lv_iadd hx hb dL_law_150 ?_
  refine rt_i (y := nI (i + 2)) (nn_add (i) (2)) ?_
  refine sc_ld (k := i + 2) (x := y) hx hb hX hsc hS (by omega) hLb hA2 dL_law_151 ?_
  refine wx_V (X := []) (Y := wS cI cL a v ++ wO cL o f) (wo := wM cI cZ b w) (wo' := wM cI cZ b (mThx w (nI 1))) (As := [.int (x), .int (y)]) (rest := []) (q0 := 0) (ci := 3) hx hb hml hown hts (c_X3_point_1 l dC dI cI cL cZ b w x y hc) (cwV 2 hts gL_law_X3_point rfl rfl rfl (by decide +kernel) ⟨Nat.le_of_ble_eq_true rfl, Nat.le_of_ble_eq_true rfl⟩) hK hP hD hS rfl rfl rfl rfl hl.1 rfl (Nat.le_of_ble_eq_true rfl) dL_law_152 ⟨(show cells + 1 ≤ 1054 by omega), (show slots + 6 ≤ 10461 by omega)⟩ (fun H locs hP hD hS => ?_)
  have hP : va_P (dC, dI) vwCl (TW cI cL cZ a b o v (mThx w (nI 1)) f) H := hP
  have hD : va_D (nwA s) (TW cI cL cZ a b o v (mThx w (nI 1)) f) := hD
  refine W.eq (g2 := F0 m 155 ls [.int (nI (0))]) rfl ?_
  refine lv_istore (lv' := [(6, .int (nI (0))), (5, .int (nI (1))), (0, .ref sc), (1, .ref (a 0)), (2, .ref (b 0)), (3, .ref o), (4, .int (nI (i)))]) hx hb dL_law_155 hl (by decide) rfl (fun ls hl => ?_)
  refine lv_aload_n hx hb dL_law_157 rfl (lv_at hl 4 rfl) ?_
  refine ro_V (wo := wM cI cZ b (mThx w (nI 1))) (As := []) (rest := []) (q0 := 0) (ci := 3) hx hb hml hown hts (c_X3_thrown l dC dI cI cL cZ b (mThx w (nI 1))  ) (cwV 0 hts gL_law_X3_thrown rfl rfl rfl (by decide +kernel) ⟨Nat.le_of_ble_eq_true rfl, Nat.le_of_ble_eq_true rfl⟩) hK (pj_sub (X := []) (Y := wS cI cL a v ++ wO cL o f) hP) rfl rfl rfl hl.1 rfl (Nat.le_of_ble_eq_true rfl) dL_law_158 ⟨(show cells + 1 ≤ 1054 by omega), (show slots + 6 ≤ 10461 by omega)⟩ ?_
  refine W.eq (g2 := F0 m 161 ls [.int (nI (1))]) rfl ?_
  refine lv_iload hx hb dL_law_161 (lv_at hl 1 rfl) ?_
  refine lv_icmp_eq (tgt := 168) hx hb dL_law_163 (by decide) (fun _ => ?_) (fun c9 => absurd rfl c9)
  refine lv_iload hx hb dL_law_168 (lv_at hl 1 rfl) ?_
  refine lv_if_ne (tgt := 185) hx hb dL_law_170 (by decide) (fun _ => ?_) (fun c9 => absurd c9 (by decide))
  refine lv_goto (tgt := 886) hx hb dL_law_185 (by decide) ?_
  exact kk ls H locs _ (lv_sub hl [2, 3, 4, 5, 6] rfl) hP hD hS
set_option maxHeartbeats 4000000 in
set_option maxRecDepth 100000 in
theorem lk_point_2 (CX : LX p l s m meth c args dC dI cI cL cZ sc L xs) (v : SV) (w : MV) (i : Nat) (hi : i + 4 ≤ L) (hl : lv_has ls 7 [(0, .ref sc), (1, .ref (a 0)), (2, .ref (b 0)), (3, .ref o), (4, .int (nI (i)))]) (hP : va_P (dC, dI) vwCl (TW cI cL cZ a b o v w f) H) (hD : va_D (nwA s) (TW cI cL cZ a b o v w f)) (hS : va_S (nwA s) s.heap H locs) (hcl : cells + 1 ≤ 1054 ∧ slots + 6 ≤ 10461) (x y : Nat) (hA1 : xs (i + 1) = nI (x)) (hA2 : xs (i + 2) = nI (y)) (hv : okS v) (hp : (inB (nI (x)) 512 && inB (nI (y)) 512) = true) (hc : (decide (sPn v < 60) && decide (pAt v.1 (sPn v) (nI (x)) (nI (y)) = none)) = false) (r_hv : okM w) (r_hd : pAt w.1 (mPn w) (nI (x)) (nI (y)) = none → mPn w = 60)
    (kk : ∀ (ls1 : Array Slot) (H1 : Heap) (locs1 : List Loc) (f1 : Nat → Int64), lv_has ls1 7 [(0, .ref sc), (1, .ref (a 0)), (2, .ref (b 0)), (3, .ref o), (4, .int (nI (i)))] → va_P (dC, dI) vwCl (TW cI cL cZ a b o v (mThx w (nI 2)) f1) H1 → va_D (nwA s) (TW cI cL cZ a b o v (mThx w (nI 2)) f1) → va_S (nwA s) s.heap H1 locs1 → W p l e room_1 s m args below meth c H1 locs1 (cells + 1) (slots + 6) Q (F0 m 886 ls1 [])) : W p l e room_1 s m args below meth c H locs cells slots Q (F0 m 120 ls []) := by
  obtain ⟨hx, hb, hml, hown, hts, hX, hsc, hK, hE, hN, hLb, hst⟩ := CX
  refine lv_aload_n hx hb dL_law_120 rfl (lv_at hl 1 rfl) ?_
  refine lv_aload_n hx hb dL_law_121 rfl (lv_at hl 0 rfl) ?_
  refine lv_iload hx hb dL_law_122 (lv_at hl 4 rfl) ?_
  refine lv_iconst (v := nI (1)) hx hb dL_law_124 (by decide) ?_
  refine lv_iadd hx hb dL_law_125 ?_
  refine rt_i (y := nI (i + 1)) (nn_add (i) (1)) ?_
  refine sc_ld (k := i + 1) (x := nI (x)) hx hb hX hsc hS (by omega) hLb hA1 dL_law_126 ?_
  refine lv_aload_n hx hb dL_law_127 rfl (lv_at hl 0 rfl) ?_
  refine lv_iload hx hb dL_law_128 (lv_at hl 4 rfl) ?_
  refine lv_iconst (v := nI (2)) hx hb dL_law_130 (by decide) ?_
  refine lv_iadd hx hb dL_law_131 ?_
  refine rt_i (y := nI (i + 2)) (nn_add (i) (2)) ?_
  refine sc_ld (k := i + 2) (x := nI (y)) hx hb hX hsc hS (by omega) hLb hA2 dL_law_132 ?_
  refine lv_aload_n hx hb dL_law_133 rfl (lv_at hl 3 rfl) ?_
  refine wx_L (X := wM cI cZ b w) (Y := []) (wo := wS cI cL a v ++ wO cL o f) (wo' := wS cI cL a v ++ wO cL o f) (As := [.ref (a 0), .int (nI (x)), .int (nI (y)), .ref o]) (rest := []) (hh := [(0, 10, 13, 13), (0, 10, 17, 15)]) hx hb hml hown hts hE hN (c_L_point_x2 l hst dC dI cI cL cZ a v o f (nI (x)) (nI (y)) hv hp hc) (vx_cwSW 4 hts gL_law_L_point rfl rfl rfl (by decide +kernel) ⟨Nat.le_of_ble_eq_true rfl, Nat.le_of_ble_eq_true rfl⟩) hK hP hD hS rfl rfl hl.1 rfl (Nat.le_of_ble_eq_true rfl) dL_law_134 ⟨(show cells + 1 ≤ 1054 by omega), (show slots + 6 ≤ 10461 by omega)⟩ (fun H locs hP hD hS => ?_)
  have hP : va_P (dC, dI) vwCl (TW cI cL cZ a b o v w f) H := hP
  have hD : va_D (nwA s) (TW cI cL cZ a b o v w f) := hD
  refine W.eq (g2 := F0 m 137 ls [.int (nI (2))]) rfl ?_
  refine lv_istore (lv' := [(5, .int (nI (2))), (0, .ref sc), (1, .ref (a 0)), (2, .ref (b 0)), (3, .ref o), (4, .int (nI (i)))]) hx hb dL_law_137 hl (by decide) rfl (fun ls hl => ?_)
  refine lv_aload_n hx hb dL_law_139 rfl (lv_at hl 3 rfl) ?_
  refine lv_aload_n hx hb dL_law_140 rfl (lv_at hl 1 rfl) ?_
  refine lv_iload hx hb dL_law_141 (lv_at hl 5 rfl) ?_
  refine lv_iconst (v := nI (1)) hx hb dL_law_143 (by decide) ?_
  refine lv_iadd hx hb dL_law_144 ?_
  refine rt_i (y := nI (i + 1)) (nn_add (i) (1)) ?_
  refine sc_ld (k := i + 1) (x := nI (x)) hx hb hX hsc hS (by omega) hLb hA1 dL_law_145 ?_
  refine lv_aload_n hx hb dL_law_146 rfl (lv_at hl 1 rfl) ?_
  refine lv_iload hx hb dL_law_147 (lv_at hl 5 rfl) ?_
  refine lv_iconst (v := nI (2)) hx hb dL_law_149 (by decide) ?_
  refine lv_iadd hx hb dL_law_150 ?_
  refine rt_i (y := nI (i + 2)) (nn_add (i) (2)) ?_
  refine sc_ld (k := i + 2) (x := nI (y)) hx hb hX hsc hS (by omega) hLb hA2 dL_law_151 ?_
  refine wx_V (X := []) (Y := wS cI cL a v ++ wO cL o f) (wo := wM cI cZ b w) (wo' := wM cI cZ b (mThx w (nI 2))) (As := [.int (nI (x)), .int (nI (y))]) (rest := []) (q0 := 0) (ci := 3) hx hb hml hown hts (c_X3_point_2 l dC dI cI cL cZ b w (nI (x)) (nI (y)) r_hv hp r_hd) (cwV 2 hts gL_law_X3_point rfl rfl rfl (by decide +kernel) ⟨Nat.le_of_ble_eq_true rfl, Nat.le_of_ble_eq_true rfl⟩) hK hP hD hS rfl rfl rfl rfl hl.1 rfl (Nat.le_of_ble_eq_true rfl) dL_law_152 ⟨(show cells + 1 ≤ 1054 by omega), (show slots + 6 ≤ 10461 by omega)⟩ (fun H locs hP hD hS => ?_)
  have hP : va_P (dC, dI) vwCl (TW cI cL cZ a b o v (mThx w (nI 2)) f) H := hP
  have hD : va_D (nwA s) (TW cI cL cZ a b o v (mThx w (nI 2)) f) := hD
  refine W.eq (g2 := F0 m 155 ls [.int (nI (0))]) rfl ?_
  refine lv_istore (lv' := [(6, .int (nI (0))), (5, .int (nI (2))), (0, .ref sc), (1, .ref (a 0)), (2, .ref (b 0)), (3, .ref o), (4, .int (nI (i)))]) hx hb dL_law_155 hl (by decide) rfl (fun ls hl => ?_)
  refine lv_aload_n hx hb dL_law_157 rfl (lv_at hl 4 rfl) ?_
  refine ro_V (wo := wM cI cZ b (mThx w (nI 2))) (As := []) (rest := []) (q0 := 0) (ci := 3) hx hb hml hown hts (c_X3_thrown l dC dI cI cL cZ b (mThx w (nI 2))  ) (cwV 0 hts gL_law_X3_thrown rfl rfl rfl (by decide +kernel) ⟨Nat.le_of_ble_eq_true rfl, Nat.le_of_ble_eq_true rfl⟩) hK (pj_sub (X := []) (Y := wS cI cL a v ++ wO cL o f) hP) rfl rfl rfl hl.1 rfl (Nat.le_of_ble_eq_true rfl) dL_law_158 ⟨(show cells + 1 ≤ 1054 by omega), (show slots + 6 ≤ 10461 by omega)⟩ ?_
  refine W.eq (g2 := F0 m 161 ls [.int (nI (2))]) rfl ?_
  refine lv_iload hx hb dL_law_161 (lv_at hl 1 rfl) ?_
  refine lv_icmp_eq (tgt := 168) hx hb dL_law_163 (by decide) (fun _ => ?_) (fun c9 => absurd rfl c9)
  refine lv_iload hx hb dL_law_168 (lv_at hl 1 rfl) ?_
  refine lv_if_ne (tgt := 185) hx hb dL_law_170 (by decide) (fun _ => ?_) (fun c9 => absurd c9 (by decide))
  refine lv_goto (tgt := 886) hx hb dL_law_185 (by decide) ?_
  exact kk ls H locs _ (lv_sub hl [2, 3, 4, 5, 6] rfl) hP hD hS
set_option maxHeartbeats 4000000 in
set_option maxRecDepth 100000 in
theorem lk_move_0 (CX : LX p l s m meth c args dC dI cI cL cZ sc L xs) (v : SV) (w : MV) (i : Nat) (hi : i + 4 ≤ L) (hl : lv_has ls 7 [(0, .ref sc), (1, .ref (a 0)), (2, .ref (b 0)), (3, .ref o), (4, .int (nI (i)))]) (hP : va_P (dC, dI) vwCl (TW cI cL cZ a b o v w f) H) (hD : va_D (nwA s) (TW cI cL cZ a b o v w f)) (hS : va_S (nwA s) s.heap H locs) (hcl : cells + 1 ≤ 1054 ∧ slots + 6 ≤ 10461) (q x y : Nat) (hA1 : xs (i + 1) = nI (q)) (hA2 : xs (i + 2) = nI (x)) (hA3 : xs (i + 3) = nI (y)) (hv : okS v) (hq : q < sPn v) (hx9 : x < 512) (hy9 : y < 512) (hc : pAt v.1 (sPn v) (nI x) (nI y) = none ∨ pAt v.1 (sPn v) (nI x) (nI y) = some q) (r_hv : okM w) (r_hq : q < mPn w) (r_hc : pAt w.1 (mPn w) (nI x) (nI y) = none ∨ pAt w.1 (mPn w) (nI x) (nI y) = some q)
    (kk : ∀ (ls1 : Array Slot) (H1 : Heap) (locs1 : List Loc) (f1 : Nat → Int64), lv_has ls1 7 [(0, .ref sc), (1, .ref (a 0)), (2, .ref (b 0)), (3, .ref o), (4, .int (nI (i)))] → va_P (dC, dI) vwCl (TW cI cL cZ a b o (sPut v q x y) ((gMov w.1 q x y, nI 0, w.2.2)) f1) H1 → va_D (nwA s) (TW cI cL cZ a b o (sPut v q x y) ((gMov w.1 q x y, nI 0, w.2.2)) f1) → va_S (nwA s) s.heap H1 locs1 → W p l e room_1 s m args below meth c H1 locs1 (cells + 1) (slots + 6) Q (F0 m 886 ls1 [])) : W p l e room_1 s m args below meth c H locs cells slots Q (F0 m 188 ls []) := by
  obtain ⟨hx, hb, hml, hown, hts, hX, hsc, hK, hE, hN, hLb, hst⟩ := CX
  refine lv_aload_n hx hb dL_law_188 rfl (lv_at hl 1 rfl) ?_
  refine lv_aload_n hx hb dL_law_189 rfl (lv_at hl 0 rfl) ?_
  refine lv_iload hx hb dL_law_190 (lv_at hl 4 rfl) ?_
  refine lv_iconst (v := nI (1)) hx hb dL_law_192 (by decide) ?_
  refine lv_iadd hx hb dL_law_193 ?_
  refine rt_i (y := nI (i + 1)) (nn_add (i) (1)) ?_
  refine sc_ld (k := i + 1) (x := nI (q)) hx hb hX hsc hS (by omega) hLb hA1 dL_law_194 ?_
  refine lv_aload_n hx hb dL_law_195 rfl (lv_at hl 0 rfl) ?_
  refine lv_iload hx hb dL_law_196 (lv_at hl 4 rfl) ?_
  refine lv_iconst (v := nI (2)) hx hb dL_law_198 (by decide) ?_
  refine lv_iadd hx hb dL_law_199 ?_
  refine rt_i (y := nI (i + 2)) (nn_add (i) (2)) ?_
  refine sc_ld (k := i + 2) (x := nI (x)) hx hb hX hsc hS (by omega) hLb hA2 dL_law_200 ?_
  refine lv_aload_n hx hb dL_law_201 rfl (lv_at hl 0 rfl) ?_
  refine lv_iload hx hb dL_law_202 (lv_at hl 4 rfl) ?_
  refine lv_iconst (v := nI (3)) hx hb dL_law_204 (by decide) ?_
  refine lv_iadd hx hb dL_law_205 ?_
  refine rt_i (y := nI (i + 3)) (nn_add (i) (3)) ?_
  refine sc_ld (k := i + 3) (x := nI (y)) hx hb hX hsc hS (by omega) hLb hA3 dL_law_206 ?_
  refine wx_L (X := wM cI cZ b w) (Y := wO cL o f) (wo := wS cI cL a v) (wo' := wS cI cL a (sPut v q x y)) (As := [.ref (a 0), .int (nI (q)), .int (nI (x)), .int (nI (y))]) (rest := []) (hh := [(0, 7, 10, 21), (0, 7, 14, 13), (0, 7, 18, 15)]) hx hb hml hown hts hE hN (c_L_move_0 l dC dI cI cL cZ a v q x y hv hq hx9 hy9 hc) (vx_cwSW 4 hts gL_law_L_move rfl rfl rfl (by decide +kernel) ⟨Nat.le_of_ble_eq_true rfl, Nat.le_of_ble_eq_true rfl⟩) hK hP hD hS rfl rfl hl.1 rfl (Nat.le_of_ble_eq_true rfl) dL_law_207 ⟨(show cells + 0 ≤ 1054 by omega), (show slots + 0 ≤ 10461 by omega)⟩ (fun H locs hP hD hS => ?_)
  have hP : va_P (dC, dI) vwCl (TW cI cL cZ a b o (sPut v q x y) w f) H := hP
  have hD : va_D (nwA s) (TW cI cL cZ a b o (sPut v q x y) w f) := hD
  refine W.eq (g2 := F0 m 210 ls [.int (nI (0))]) rfl ?_
  refine lv_istore (lv' := [(5, .int (nI (0))), (0, .ref sc), (1, .ref (a 0)), (2, .ref (b 0)), (3, .ref o), (4, .int (nI (i)))]) hx hb dL_law_210 hl (by decide) rfl (fun ls hl => ?_)
  refine lv_aload_n hx hb dL_law_212 rfl (lv_at hl 3 rfl) ?_
  refine lv_aload_n hx hb dL_law_213 rfl (lv_at hl 1 rfl) ?_
  refine lv_iload hx hb dL_law_214 (lv_at hl 5 rfl) ?_
  refine lv_iconst (v := nI (1)) hx hb dL_law_216 (by decide) ?_
  refine lv_iadd hx hb dL_law_217 ?_
  refine rt_i (y := nI (i + 1)) (nn_add (i) (1)) ?_
  refine sc_ld (k := i + 1) (x := nI (q)) hx hb hX hsc hS (by omega) hLb hA1 dL_law_218 ?_
  refine lv_aload_n hx hb dL_law_219 rfl (lv_at hl 1 rfl) ?_
  refine lv_iload hx hb dL_law_220 (lv_at hl 5 rfl) ?_
  refine lv_iconst (v := nI (2)) hx hb dL_law_222 (by decide) ?_
  refine lv_iadd hx hb dL_law_223 ?_
  refine rt_i (y := nI (i + 2)) (nn_add (i) (2)) ?_
  refine sc_ld (k := i + 2) (x := nI (x)) hx hb hX hsc hS (by omega) hLb hA2 dL_law_224 ?_
  refine lv_aload_n hx hb dL_law_225 rfl (lv_at hl 1 rfl) ?_
  refine lv_iload hx hb dL_law_226 (lv_at hl 5 rfl) ?_
  refine lv_iconst (v := nI (3)) hx hb dL_law_228 (by decide) ?_
  refine lv_iadd hx hb dL_law_229 ?_
  refine rt_i (y := nI (i + 3)) (nn_add (i) (3)) ?_
  refine sc_ld (k := i + 3) (x := nI (y)) hx hb hX hsc hS (by omega) hLb hA3 dL_law_230 ?_
  refine wx_V (X := []) (Y := wS cI cL a (sPut v q x y) ++ wO cL o f) (wo := wM cI cZ b w) (wo' := wM cI cZ b ((gMov w.1 q x y, nI 0, w.2.2))) (As := [.int (nI (q)), .int (nI (x)), .int (nI (y))]) (rest := []) (q0 := 0) (ci := 3) hx hb hml hown hts (c_X3_move_0 l dC dI cI cL cZ b w q x y r_hv r_hq hx9 hy9 r_hc) (cwV 3 hts gL_law_X3_move rfl rfl rfl (by decide +kernel) ⟨Nat.le_of_ble_eq_true rfl, Nat.le_of_ble_eq_true rfl⟩) hK hP hD hS rfl rfl rfl rfl hl.1 rfl (Nat.le_of_ble_eq_true rfl) dL_law_231 ⟨(show cells ≤ 1054 by omega), (show slots ≤ 10461 by omega)⟩ (fun H locs hP hD hS => ?_)
  have hP : va_P (dC, dI) vwCl (TW cI cL cZ a b o (sPut v q x y) ((gMov w.1 q x y, nI 0, w.2.2)) f) H := hP
  have hD : va_D (nwA s) (TW cI cL cZ a b o (sPut v q x y) ((gMov w.1 q x y, nI 0, w.2.2)) f) := hD
  refine W.eq (g2 := F0 m 234 ls []) rfl ?_
  refine lv_aload_n hx hb dL_law_234 rfl (lv_at hl 3 rfl) ?_
  refine ro_V (wo := wM cI cZ b ((gMov w.1 q x y, nI 0, w.2.2))) (As := []) (rest := []) (q0 := 0) (ci := 3) hx hb hml hown hts (c_X3_thrown l dC dI cI cL cZ b ((gMov w.1 q x y, nI 0, w.2.2))  ) (cwV 0 hts gL_law_X3_thrown rfl rfl rfl (by decide +kernel) ⟨Nat.le_of_ble_eq_true rfl, Nat.le_of_ble_eq_true rfl⟩) hK (pj_sub (X := []) (Y := wS cI cL a (sPut v q x y) ++ wO cL o f) hP) rfl rfl rfl hl.1 rfl (Nat.le_of_ble_eq_true rfl) dL_law_235 ⟨(show cells ≤ 1054 by omega), (show slots ≤ 10461 by omega)⟩ ?_
  refine W.eq (g2 := F0 m 238 ls [.int (nI (0))]) rfl ?_
  refine lv_iload hx hb dL_law_238 (lv_at hl 0 rfl) ?_
  refine lv_icmp_eq (tgt := 245) hx hb dL_law_240 (by decide) (fun _ => ?_) (fun c9 => absurd rfl c9)
  refine lv_goto (tgt := 886) hx hb dL_law_245 (by decide) ?_
  refine W.widen (Nat.le_add_right cells 1) (Nat.le_add_right slots 6) ?_
  exact kk ls H locs _ (lv_sub hl [1, 2, 3, 4, 5] rfl) hP hD hS
set_option maxHeartbeats 4000000 in
set_option maxRecDepth 100000 in
theorem lk_move_1 (CX : LX p l s m meth c args dC dI cI cL cZ sc L xs) (v : SV) (w : MV) (i : Nat) (hi : i + 4 ≤ L) (hl : lv_has ls 7 [(0, .ref sc), (1, .ref (a 0)), (2, .ref (b 0)), (3, .ref o), (4, .int (nI (i)))]) (hP : va_P (dC, dI) vwCl (TW cI cL cZ a b o v w f) H) (hD : va_D (nwA s) (TW cI cL cZ a b o v w f)) (hS : va_S (nwA s) s.heap H locs) (hcl : cells + 1 ≤ 1054 ∧ slots + 6 ≤ 10461) (q x y : Int32) (hA1 : xs (i + 1) = q) (hA2 : xs (i + 2) = x) (hA3 : xs (i + 3) = y) (hv : okS v) (hc : inB q (sPn v) = false) (r_hv : okM w) (r_hc : inB q (mPn w) = false)
    (kk : ∀ (ls1 : Array Slot) (H1 : Heap) (locs1 : List Loc) (f1 : Nat → Int64), lv_has ls1 7 [(0, .ref sc), (1, .ref (a 0)), (2, .ref (b 0)), (3, .ref o), (4, .int (nI (i)))] → va_P (dC, dI) vwCl (TW cI cL cZ a b o v (mThx w (nI 1)) f1) H1 → va_D (nwA s) (TW cI cL cZ a b o v (mThx w (nI 1)) f1) → va_S (nwA s) s.heap H1 locs1 → W p l e room_1 s m args below meth c H1 locs1 (cells + 1) (slots + 6) Q (F0 m 886 ls1 [])) : W p l e room_1 s m args below meth c H locs cells slots Q (F0 m 188 ls []) := by
  obtain ⟨hx, hb, hml, hown, hts, hX, hsc, hK, hE, hN, hLb, hst⟩ := CX
  refine lv_aload_n hx hb dL_law_188 rfl (lv_at hl 1 rfl) ?_
  refine lv_aload_n hx hb dL_law_189 rfl (lv_at hl 0 rfl) ?_
  refine lv_iload hx hb dL_law_190 (lv_at hl 4 rfl) ?_
  refine lv_iconst (v := nI (1)) hx hb dL_law_192 (by decide) ?_
  refine lv_iadd hx hb dL_law_193 ?_
  refine rt_i (y := nI (i + 1)) (nn_add (i) (1)) ?_
  refine sc_ld (k := i + 1) (x := q) hx hb hX hsc hS (by omega) hLb hA1 dL_law_194 ?_
  refine lv_aload_n hx hb dL_law_195 rfl (lv_at hl 0 rfl) ?_
  refine lv_iload hx hb dL_law_196 (lv_at hl 4 rfl) ?_
  refine lv_iconst (v := nI (2)) hx hb dL_law_198 (by decide) ?_
  refine lv_iadd hx hb dL_law_199 ?_
  refine rt_i (y := nI (i + 2)) (nn_add (i) (2)) ?_
  refine sc_ld (k := i + 2) (x := x) hx hb hX hsc hS (by omega) hLb hA2 dL_law_200 ?_
  refine lv_aload_n hx hb dL_law_201 rfl (lv_at hl 0 rfl) ?_
  refine lv_iload hx hb dL_law_202 (lv_at hl 4 rfl) ?_
  refine lv_iconst (v := nI (3)) hx hb dL_law_204 (by decide) ?_
  refine lv_iadd hx hb dL_law_205 ?_
  refine rt_i (y := nI (i + 3)) (nn_add (i) (3)) ?_
  refine sc_ld (k := i + 3) (x := y) hx hb hX hsc hS (by omega) hLb hA3 dL_law_206 ?_
  refine wx_L (X := wM cI cZ b w) (Y := wO cL o f) (wo := wS cI cL a v) (wo' := wS cI cL a v) (As := [.ref (a 0), .int (q), .int (x), .int (y)]) (rest := []) (hh := [(0, 7, 10, 21), (0, 7, 14, 13), (0, 7, 18, 15)]) hx hb hml hown hts hE hN (c_L_move_x1 l hst dC dI cI cL cZ a v q x y hv hc) (vx_cwSW 4 hts gL_law_L_move rfl rfl rfl (by decide +kernel) ⟨Nat.le_of_ble_eq_true rfl, Nat.le_of_ble_eq_true rfl⟩) hK hP hD hS rfl rfl hl.1 rfl (Nat.le_of_ble_eq_true rfl) dL_law_207 ⟨(show cells + 1 ≤ 1054 by omega), (show slots + 6 ≤ 10461 by omega)⟩ (fun H locs hP hD hS => ?_)
  have hP : va_P (dC, dI) vwCl (TW cI cL cZ a b o v w f) H := hP
  have hD : va_D (nwA s) (TW cI cL cZ a b o v w f) := hD
  refine W.eq (g2 := F0 m 210 ls [.int (nI (1))]) rfl ?_
  refine lv_istore (lv' := [(5, .int (nI (1))), (0, .ref sc), (1, .ref (a 0)), (2, .ref (b 0)), (3, .ref o), (4, .int (nI (i)))]) hx hb dL_law_210 hl (by decide) rfl (fun ls hl => ?_)
  refine lv_aload_n hx hb dL_law_212 rfl (lv_at hl 3 rfl) ?_
  refine lv_aload_n hx hb dL_law_213 rfl (lv_at hl 1 rfl) ?_
  refine lv_iload hx hb dL_law_214 (lv_at hl 5 rfl) ?_
  refine lv_iconst (v := nI (1)) hx hb dL_law_216 (by decide) ?_
  refine lv_iadd hx hb dL_law_217 ?_
  refine rt_i (y := nI (i + 1)) (nn_add (i) (1)) ?_
  refine sc_ld (k := i + 1) (x := q) hx hb hX hsc hS (by omega) hLb hA1 dL_law_218 ?_
  refine lv_aload_n hx hb dL_law_219 rfl (lv_at hl 1 rfl) ?_
  refine lv_iload hx hb dL_law_220 (lv_at hl 5 rfl) ?_
  refine lv_iconst (v := nI (2)) hx hb dL_law_222 (by decide) ?_
  refine lv_iadd hx hb dL_law_223 ?_
  refine rt_i (y := nI (i + 2)) (nn_add (i) (2)) ?_
  refine sc_ld (k := i + 2) (x := x) hx hb hX hsc hS (by omega) hLb hA2 dL_law_224 ?_
  refine lv_aload_n hx hb dL_law_225 rfl (lv_at hl 1 rfl) ?_
  refine lv_iload hx hb dL_law_226 (lv_at hl 5 rfl) ?_
  refine lv_iconst (v := nI (3)) hx hb dL_law_228 (by decide) ?_
  refine lv_iadd hx hb dL_law_229 ?_
  refine rt_i (y := nI (i + 3)) (nn_add (i) (3)) ?_
  refine sc_ld (k := i + 3) (x := y) hx hb hX hsc hS (by omega) hLb hA3 dL_law_230 ?_
  refine wx_V (X := []) (Y := wS cI cL a v ++ wO cL o f) (wo := wM cI cZ b w) (wo' := wM cI cZ b (mThx w (nI 1))) (As := [.int (q), .int (x), .int (y)]) (rest := []) (q0 := 0) (ci := 3) hx hb hml hown hts (c_X3_move_1 l dC dI cI cL cZ b w q x y r_hv r_hc) (cwV 3 hts gL_law_X3_move rfl rfl rfl (by decide +kernel) ⟨Nat.le_of_ble_eq_true rfl, Nat.le_of_ble_eq_true rfl⟩) hK hP hD hS rfl rfl rfl rfl hl.1 rfl (Nat.le_of_ble_eq_true rfl) dL_law_231 ⟨(show cells + 1 ≤ 1054 by omega), (show slots + 6 ≤ 10461 by omega)⟩ (fun H locs hP hD hS => ?_)
  have hP : va_P (dC, dI) vwCl (TW cI cL cZ a b o v (mThx w (nI 1)) f) H := hP
  have hD : va_D (nwA s) (TW cI cL cZ a b o v (mThx w (nI 1)) f) := hD
  refine W.eq (g2 := F0 m 234 ls []) rfl ?_
  refine lv_aload_n hx hb dL_law_234 rfl (lv_at hl 3 rfl) ?_
  refine ro_V (wo := wM cI cZ b (mThx w (nI 1))) (As := []) (rest := []) (q0 := 0) (ci := 3) hx hb hml hown hts (c_X3_thrown l dC dI cI cL cZ b (mThx w (nI 1))  ) (cwV 0 hts gL_law_X3_thrown rfl rfl rfl (by decide +kernel) ⟨Nat.le_of_ble_eq_true rfl, Nat.le_of_ble_eq_true rfl⟩) hK (pj_sub (X := []) (Y := wS cI cL a v ++ wO cL o f) hP) rfl rfl rfl hl.1 rfl (Nat.le_of_ble_eq_true rfl) dL_law_235 ⟨(show cells + 1 ≤ 1054 by omega), (show slots + 6 ≤ 10461 by omega)⟩ ?_
  refine W.eq (g2 := F0 m 238 ls [.int (nI (1))]) rfl ?_
  refine lv_iload hx hb dL_law_238 (lv_at hl 0 rfl) ?_
  refine lv_icmp_eq (tgt := 245) hx hb dL_law_240 (by decide) (fun _ => ?_) (fun c9 => absurd rfl c9)
  refine lv_goto (tgt := 886) hx hb dL_law_245 (by decide) ?_
  exact kk ls H locs _ (lv_sub hl [1, 2, 3, 4, 5] rfl) hP hD hS
set_option maxHeartbeats 4000000 in
set_option maxRecDepth 100000 in
theorem lk_move_2 (CX : LX p l s m meth c args dC dI cI cL cZ sc L xs) (v : SV) (w : MV) (i : Nat) (hi : i + 4 ≤ L) (hl : lv_has ls 7 [(0, .ref sc), (1, .ref (a 0)), (2, .ref (b 0)), (3, .ref o), (4, .int (nI (i)))]) (hP : va_P (dC, dI) vwCl (TW cI cL cZ a b o v w f) H) (hD : va_D (nwA s) (TW cI cL cZ a b o v w f)) (hS : va_S (nwA s) s.heap H locs) (hcl : cells + 1 ≤ 1054 ∧ slots + 6 ≤ 10461) (q : Nat) (x y : Int32) (hA1 : xs (i + 1) = nI (q)) (hA2 : xs (i + 2) = x) (hA3 : xs (i + 3) = y) (hv : okS v) (hq : inB (nI (q)) (sPn v) = true) (hc : (inB x 512 && inB y 512) = false) (r_hv : okM w) (r_hc : inB (nI (q)) (mPn w) = true)
    (kk : ∀ (ls1 : Array Slot) (H1 : Heap) (locs1 : List Loc) (f1 : Nat → Int64), lv_has ls1 7 [(0, .ref sc), (1, .ref (a 0)), (2, .ref (b 0)), (3, .ref o), (4, .int (nI (i)))] → va_P (dC, dI) vwCl (TW cI cL cZ a b o v (mThx w (nI 2)) f1) H1 → va_D (nwA s) (TW cI cL cZ a b o v (mThx w (nI 2)) f1) → va_S (nwA s) s.heap H1 locs1 → W p l e room_1 s m args below meth c H1 locs1 (cells + 1) (slots + 6) Q (F0 m 886 ls1 [])) : W p l e room_1 s m args below meth c H locs cells slots Q (F0 m 188 ls []) := by
  obtain ⟨hx, hb, hml, hown, hts, hX, hsc, hK, hE, hN, hLb, hst⟩ := CX
  refine lv_aload_n hx hb dL_law_188 rfl (lv_at hl 1 rfl) ?_
  refine lv_aload_n hx hb dL_law_189 rfl (lv_at hl 0 rfl) ?_
  refine lv_iload hx hb dL_law_190 (lv_at hl 4 rfl) ?_
  refine lv_iconst (v := nI (1)) hx hb dL_law_192 (by decide) ?_
  refine lv_iadd hx hb dL_law_193 ?_
  refine rt_i (y := nI (i + 1)) (nn_add (i) (1)) ?_
  refine sc_ld (k := i + 1) (x := nI (q)) hx hb hX hsc hS (by omega) hLb hA1 dL_law_194 ?_
  refine lv_aload_n hx hb dL_law_195 rfl (lv_at hl 0 rfl) ?_
  refine lv_iload hx hb dL_law_196 (lv_at hl 4 rfl) ?_
  refine lv_iconst (v := nI (2)) hx hb dL_law_198 (by decide) ?_
  refine lv_iadd hx hb dL_law_199 ?_
  refine rt_i (y := nI (i + 2)) (nn_add (i) (2)) ?_
  refine sc_ld (k := i + 2) (x := x) hx hb hX hsc hS (by omega) hLb hA2 dL_law_200 ?_
  refine lv_aload_n hx hb dL_law_201 rfl (lv_at hl 0 rfl) ?_
  refine lv_iload hx hb dL_law_202 (lv_at hl 4 rfl) ?_
  refine lv_iconst (v := nI (3)) hx hb dL_law_204 (by decide) ?_
  refine lv_iadd hx hb dL_law_205 ?_
  refine rt_i (y := nI (i + 3)) (nn_add (i) (3)) ?_
  refine sc_ld (k := i + 3) (x := y) hx hb hX hsc hS (by omega) hLb hA3 dL_law_206 ?_
  refine wx_L (X := wM cI cZ b w) (Y := wO cL o f) (wo := wS cI cL a v) (wo' := wS cI cL a v) (As := [.ref (a 0), .int (nI (q)), .int (x), .int (y)]) (rest := []) (hh := [(0, 7, 10, 21), (0, 7, 14, 13), (0, 7, 18, 15)]) hx hb hml hown hts hE hN (c_L_move_x2 l hst dC dI cI cL cZ a v (nI (q)) x y hv hq hc) (vx_cwSW 4 hts gL_law_L_move rfl rfl rfl (by decide +kernel) ⟨Nat.le_of_ble_eq_true rfl, Nat.le_of_ble_eq_true rfl⟩) hK hP hD hS rfl rfl hl.1 rfl (Nat.le_of_ble_eq_true rfl) dL_law_207 ⟨(show cells + 1 ≤ 1054 by omega), (show slots + 6 ≤ 10461 by omega)⟩ (fun H locs hP hD hS => ?_)
  have hP : va_P (dC, dI) vwCl (TW cI cL cZ a b o v w f) H := hP
  have hD : va_D (nwA s) (TW cI cL cZ a b o v w f) := hD
  refine W.eq (g2 := F0 m 210 ls [.int (nI (2))]) rfl ?_
  refine lv_istore (lv' := [(5, .int (nI (2))), (0, .ref sc), (1, .ref (a 0)), (2, .ref (b 0)), (3, .ref o), (4, .int (nI (i)))]) hx hb dL_law_210 hl (by decide) rfl (fun ls hl => ?_)
  refine lv_aload_n hx hb dL_law_212 rfl (lv_at hl 3 rfl) ?_
  refine lv_aload_n hx hb dL_law_213 rfl (lv_at hl 1 rfl) ?_
  refine lv_iload hx hb dL_law_214 (lv_at hl 5 rfl) ?_
  refine lv_iconst (v := nI (1)) hx hb dL_law_216 (by decide) ?_
  refine lv_iadd hx hb dL_law_217 ?_
  refine rt_i (y := nI (i + 1)) (nn_add (i) (1)) ?_
  refine sc_ld (k := i + 1) (x := nI (q)) hx hb hX hsc hS (by omega) hLb hA1 dL_law_218 ?_
  refine lv_aload_n hx hb dL_law_219 rfl (lv_at hl 1 rfl) ?_
  refine lv_iload hx hb dL_law_220 (lv_at hl 5 rfl) ?_
  refine lv_iconst (v := nI (2)) hx hb dL_law_222 (by decide) ?_
  refine lv_iadd hx hb dL_law_223 ?_
  refine rt_i (y := nI (i + 2)) (nn_add (i) (2)) ?_
  refine sc_ld (k := i + 2) (x := x) hx hb hX hsc hS (by omega) hLb hA2 dL_law_224 ?_
  refine lv_aload_n hx hb dL_law_225 rfl (lv_at hl 1 rfl) ?_
  refine lv_iload hx hb dL_law_226 (lv_at hl 5 rfl) ?_
  refine lv_iconst (v := nI (3)) hx hb dL_law_228 (by decide) ?_
  refine lv_iadd hx hb dL_law_229 ?_
  refine rt_i (y := nI (i + 3)) (nn_add (i) (3)) ?_
  refine sc_ld (k := i + 3) (x := y) hx hb hX hsc hS (by omega) hLb hA3 dL_law_230 ?_
  refine wx_V (X := []) (Y := wS cI cL a v ++ wO cL o f) (wo := wM cI cZ b w) (wo' := wM cI cZ b (mThx w (nI 2))) (As := [.int (nI (q)), .int (x), .int (y)]) (rest := []) (q0 := 0) (ci := 3) hx hb hml hown hts (c_X3_move_2 l dC dI cI cL cZ b w (nI (q)) x y r_hv r_hc hc) (cwV 3 hts gL_law_X3_move rfl rfl rfl (by decide +kernel) ⟨Nat.le_of_ble_eq_true rfl, Nat.le_of_ble_eq_true rfl⟩) hK hP hD hS rfl rfl rfl rfl hl.1 rfl (Nat.le_of_ble_eq_true rfl) dL_law_231 ⟨(show cells + 1 ≤ 1054 by omega), (show slots + 6 ≤ 10461 by omega)⟩ (fun H locs hP hD hS => ?_)
  have hP : va_P (dC, dI) vwCl (TW cI cL cZ a b o v (mThx w (nI 2)) f) H := hP
  have hD : va_D (nwA s) (TW cI cL cZ a b o v (mThx w (nI 2)) f) := hD
  refine W.eq (g2 := F0 m 234 ls []) rfl ?_
  refine lv_aload_n hx hb dL_law_234 rfl (lv_at hl 3 rfl) ?_
  refine ro_V (wo := wM cI cZ b (mThx w (nI 2))) (As := []) (rest := []) (q0 := 0) (ci := 3) hx hb hml hown hts (c_X3_thrown l dC dI cI cL cZ b (mThx w (nI 2))  ) (cwV 0 hts gL_law_X3_thrown rfl rfl rfl (by decide +kernel) ⟨Nat.le_of_ble_eq_true rfl, Nat.le_of_ble_eq_true rfl⟩) hK (pj_sub (X := []) (Y := wS cI cL a v ++ wO cL o f) hP) rfl rfl rfl hl.1 rfl (Nat.le_of_ble_eq_true rfl) dL_law_235 ⟨(show cells + 1 ≤ 1054 by omega), (show slots + 6 ≤ 10461 by omega)⟩ ?_
  refine W.eq (g2 := F0 m 238 ls [.int (nI (2))]) rfl ?_
  refine lv_iload hx hb dL_law_238 (lv_at hl 0 rfl) ?_
  refine lv_icmp_eq (tgt := 245) hx hb dL_law_240 (by decide) (fun _ => ?_) (fun c9 => absurd rfl c9)
  refine lv_goto (tgt := 886) hx hb dL_law_245 (by decide) ?_
  exact kk ls H locs _ (lv_sub hl [1, 2, 3, 4, 5] rfl) hP hD hS
set_option maxHeartbeats 4000000 in
set_option maxRecDepth 100000 in
theorem lk_move_3 (CX : LX p l s m meth c args dC dI cI cL cZ sc L xs) (v : SV) (w : MV) (i : Nat) (hi : i + 4 ≤ L) (hl : lv_has ls 7 [(0, .ref sc), (1, .ref (a 0)), (2, .ref (b 0)), (3, .ref o), (4, .int (nI (i)))]) (hP : va_P (dC, dI) vwCl (TW cI cL cZ a b o v w f) H) (hD : va_D (nwA s) (TW cI cL cZ a b o v w f)) (hS : va_S (nwA s) s.heap H locs) (hcl : cells + 1 ≤ 1054 ∧ slots + 6 ≤ 10461) (q u x y : Nat) (hA1 : xs (i + 1) = nI (q)) (hA2 : xs (i + 2) = nI (x)) (hA3 : xs (i + 3) = nI (y)) (hv : okS v) (hq : q < sPn v) (hp : (inB (nI (x)) 512 && inB (nI (y)) 512) = true) (hc : pAt v.1 (sPn v) (nI (x)) (nI (y)) = some u) (hd : u ≠ q) (r_hv : okM w) (r_hq : q < mPn w) (r_hx9 : x < 512) (r_hy9 : y < 512) (r_hc : pAt w.1 (mPn w) (nI x) (nI y) = some u)
    (kk : ∀ (ls1 : Array Slot) (H1 : Heap) (locs1 : List Loc) (f1 : Nat → Int64), lv_has ls1 7 [(0, .ref sc), (1, .ref (a 0)), (2, .ref (b 0)), (3, .ref o), (4, .int (nI (i)))] → va_P (dC, dI) vwCl (TW cI cL cZ a b o v (mThx w (nI 3)) f1) H1 → va_D (nwA s) (TW cI cL cZ a b o v (mThx w (nI 3)) f1) → va_S (nwA s) s.heap H1 locs1 → W p l e room_1 s m args below meth c H1 locs1 (cells + 1) (slots + 6) Q (F0 m 886 ls1 [])) : W p l e room_1 s m args below meth c H locs cells slots Q (F0 m 188 ls []) := by
  obtain ⟨hx, hb, hml, hown, hts, hX, hsc, hK, hE, hN, hLb, hst⟩ := CX
  refine lv_aload_n hx hb dL_law_188 rfl (lv_at hl 1 rfl) ?_
  refine lv_aload_n hx hb dL_law_189 rfl (lv_at hl 0 rfl) ?_
  refine lv_iload hx hb dL_law_190 (lv_at hl 4 rfl) ?_
  refine lv_iconst (v := nI (1)) hx hb dL_law_192 (by decide) ?_
  refine lv_iadd hx hb dL_law_193 ?_
  refine rt_i (y := nI (i + 1)) (nn_add (i) (1)) ?_
  refine sc_ld (k := i + 1) (x := nI (q)) hx hb hX hsc hS (by omega) hLb hA1 dL_law_194 ?_
  refine lv_aload_n hx hb dL_law_195 rfl (lv_at hl 0 rfl) ?_
  refine lv_iload hx hb dL_law_196 (lv_at hl 4 rfl) ?_
  refine lv_iconst (v := nI (2)) hx hb dL_law_198 (by decide) ?_
  refine lv_iadd hx hb dL_law_199 ?_
  refine rt_i (y := nI (i + 2)) (nn_add (i) (2)) ?_
  refine sc_ld (k := i + 2) (x := nI (x)) hx hb hX hsc hS (by omega) hLb hA2 dL_law_200 ?_
  refine lv_aload_n hx hb dL_law_201 rfl (lv_at hl 0 rfl) ?_
  refine lv_iload hx hb dL_law_202 (lv_at hl 4 rfl) ?_
  refine lv_iconst (v := nI (3)) hx hb dL_law_204 (by decide) ?_
  refine lv_iadd hx hb dL_law_205 ?_
  refine rt_i (y := nI (i + 3)) (nn_add (i) (3)) ?_
  refine sc_ld (k := i + 3) (x := nI (y)) hx hb hX hsc hS (by omega) hLb hA3 dL_law_206 ?_
  refine wx_L (X := wM cI cZ b w) (Y := wO cL o f) (wo := wS cI cL a v) (wo' := wS cI cL a v) (As := [.ref (a 0), .int (nI (q)), .int (nI (x)), .int (nI (y))]) (rest := []) (hh := [(0, 7, 10, 21), (0, 7, 14, 13), (0, 7, 18, 15)]) hx hb hml hown hts hE hN (c_L_move_x3 l hst dC dI cI cL cZ a v q u (nI (x)) (nI (y)) hv hq hp hc hd) (vx_cwSW 4 hts gL_law_L_move rfl rfl rfl (by decide +kernel) ⟨Nat.le_of_ble_eq_true rfl, Nat.le_of_ble_eq_true rfl⟩) hK hP hD hS rfl rfl hl.1 rfl (Nat.le_of_ble_eq_true rfl) dL_law_207 ⟨(show cells + 1 ≤ 1054 by omega), (show slots + 6 ≤ 10461 by omega)⟩ (fun H locs hP hD hS => ?_)
  have hP : va_P (dC, dI) vwCl (TW cI cL cZ a b o v w f) H := hP
  have hD : va_D (nwA s) (TW cI cL cZ a b o v w f) := hD
  refine W.eq (g2 := F0 m 210 ls [.int (nI (3))]) rfl ?_
  refine lv_istore (lv' := [(5, .int (nI (3))), (0, .ref sc), (1, .ref (a 0)), (2, .ref (b 0)), (3, .ref o), (4, .int (nI (i)))]) hx hb dL_law_210 hl (by decide) rfl (fun ls hl => ?_)
  refine lv_aload_n hx hb dL_law_212 rfl (lv_at hl 3 rfl) ?_
  refine lv_aload_n hx hb dL_law_213 rfl (lv_at hl 1 rfl) ?_
  refine lv_iload hx hb dL_law_214 (lv_at hl 5 rfl) ?_
  refine lv_iconst (v := nI (1)) hx hb dL_law_216 (by decide) ?_
  refine lv_iadd hx hb dL_law_217 ?_
  refine rt_i (y := nI (i + 1)) (nn_add (i) (1)) ?_
  refine sc_ld (k := i + 1) (x := nI (q)) hx hb hX hsc hS (by omega) hLb hA1 dL_law_218 ?_
  refine lv_aload_n hx hb dL_law_219 rfl (lv_at hl 1 rfl) ?_
  refine lv_iload hx hb dL_law_220 (lv_at hl 5 rfl) ?_
  refine lv_iconst (v := nI (2)) hx hb dL_law_222 (by decide) ?_
  refine lv_iadd hx hb dL_law_223 ?_
  refine rt_i (y := nI (i + 2)) (nn_add (i) (2)) ?_
  refine sc_ld (k := i + 2) (x := nI (x)) hx hb hX hsc hS (by omega) hLb hA2 dL_law_224 ?_
  refine lv_aload_n hx hb dL_law_225 rfl (lv_at hl 1 rfl) ?_
  refine lv_iload hx hb dL_law_226 (lv_at hl 5 rfl) ?_
  refine lv_iconst (v := nI (3)) hx hb dL_law_228 (by decide) ?_
  refine lv_iadd hx hb dL_law_229 ?_
  refine rt_i (y := nI (i + 3)) (nn_add (i) (3)) ?_
  refine sc_ld (k := i + 3) (x := nI (y)) hx hb hX hsc hS (by omega) hLb hA3 dL_law_230 ?_
  refine wx_V (X := []) (Y := wS cI cL a v ++ wO cL o f) (wo := wM cI cZ b w) (wo' := wM cI cZ b (mThx w (nI 3))) (As := [.int (nI (q)), .int (nI (x)), .int (nI (y))]) (rest := []) (q0 := 0) (ci := 3) hx hb hml hown hts (c_X3_move_3 l dC dI cI cL cZ b w q x y u r_hv r_hq r_hx9 r_hy9 r_hc hd) (cwV 3 hts gL_law_X3_move rfl rfl rfl (by decide +kernel) ⟨Nat.le_of_ble_eq_true rfl, Nat.le_of_ble_eq_true rfl⟩) hK hP hD hS rfl rfl rfl rfl hl.1 rfl (Nat.le_of_ble_eq_true rfl) dL_law_231 ⟨(show cells + 1 ≤ 1054 by omega), (show slots + 6 ≤ 10461 by omega)⟩ (fun H locs hP hD hS => ?_)
  have hP : va_P (dC, dI) vwCl (TW cI cL cZ a b o v (mThx w (nI 3)) f) H := hP
  have hD : va_D (nwA s) (TW cI cL cZ a b o v (mThx w (nI 3)) f) := hD
  refine W.eq (g2 := F0 m 234 ls []) rfl ?_
  refine lv_aload_n hx hb dL_law_234 rfl (lv_at hl 3 rfl) ?_
  refine ro_V (wo := wM cI cZ b (mThx w (nI 3))) (As := []) (rest := []) (q0 := 0) (ci := 3) hx hb hml hown hts (c_X3_thrown l dC dI cI cL cZ b (mThx w (nI 3))  ) (cwV 0 hts gL_law_X3_thrown rfl rfl rfl (by decide +kernel) ⟨Nat.le_of_ble_eq_true rfl, Nat.le_of_ble_eq_true rfl⟩) hK (pj_sub (X := []) (Y := wS cI cL a v ++ wO cL o f) hP) rfl rfl rfl hl.1 rfl (Nat.le_of_ble_eq_true rfl) dL_law_235 ⟨(show cells + 1 ≤ 1054 by omega), (show slots + 6 ≤ 10461 by omega)⟩ ?_
  refine W.eq (g2 := F0 m 238 ls [.int (nI (3))]) rfl ?_
  refine lv_iload hx hb dL_law_238 (lv_at hl 0 rfl) ?_
  refine lv_icmp_eq (tgt := 245) hx hb dL_law_240 (by decide) (fun _ => ?_) (fun c9 => absurd rfl c9)
  refine lv_goto (tgt := 886) hx hb dL_law_245 (by decide) ?_
  exact kk ls H locs _ (lv_sub hl [1, 2, 3, 4, 5] rfl) hP hD hS
set_option maxHeartbeats 4000000 in
set_option maxRecDepth 100000 in
theorem lk_triangle_0 (CX : LX p l s m meth c args dC dI cI cL cZ sc L xs) (v : SV) (w : MV) (i : Nat) (hi : i + 4 ≤ L) (hl : lv_has ls 7 [(0, .ref sc), (1, .ref (a 0)), (2, .ref (b 0)), (3, .ref o), (4, .int (nI (i)))]) (hP : va_P (dC, dI) vwCl (TW cI cL cZ a b o v w f) H) (hD : va_D (nwA s) (TW cI cL cZ a b o v w f)) (hS : va_S (nwA s) s.heap H locs) (hcl : cells + 1 ≤ 1054 ∧ slots + 6 ≤ 10461) (x y z : Nat) (hA1 : xs (i + 1) = nI (x)) (hA2 : xs (i + 2) = nI (y)) (hA3 : xs (i + 3) = nI (z)) (hv : okS v) (hi : x < sPn v) (hj : y < sPn v) (hq : z < sPn v) (hc : x ≠ y ∧ y ≠ z ∧ x ≠ z) (hd : sTn v < 60 ∧ sTm v < 200) (r_hv : okM w) (r_hi : x < mPn w) (r_hj : y < mPn w) (r_hq : z < mPn w) (r_hd : mTn w < 60 ∧ mTm w < 200) (heq : sTm v = mTm w) (hbd : mTm w < 2 ^ 31)
    (kk : ∀ (ls1 : Array Slot) (H1 : Heap) (locs1 : List Loc) (f1 : Nat → Int64), lv_has ls1 7 [(0, .ref sc), (1, .ref (a 0)), (2, .ref (b 0)), (3, .ref o), (4, .int (nI (i)))] → va_P (dC, dI) vwCl (TW cI cL cZ a b o (sAddT v x y z) (mAdd (mThx w (nI 0)) x y z) f1) H1 → va_D (nwA s) (TW cI cL cZ a b o (sAddT v x y z) (mAdd (mThx w (nI 0)) x y z) f1) → va_S (nwA s) s.heap H1 locs1 → W p l e room_1 s m args below meth c H1 locs1 (cells + 1) (slots + 6) Q (F0 m 886 ls1 [])) : W p l e room_1 s m args below meth c H locs cells slots Q (F0 m 248 ls []) := by
  obtain ⟨hx, hb, hml, hown, hts, hX, hsc, hK, hE, hN, hLb, hst⟩ := CX
  refine lv_aload_n hx hb dL_law_248 rfl (lv_at hl 1 rfl) ?_
  refine lv_aload_n hx hb dL_law_249 rfl (lv_at hl 0 rfl) ?_
  refine lv_iload hx hb dL_law_250 (lv_at hl 4 rfl) ?_
  refine lv_iconst (v := nI (1)) hx hb dL_law_252 (by decide) ?_
  refine lv_iadd hx hb dL_law_253 ?_
  refine rt_i (y := nI (i + 1)) (nn_add (i) (1)) ?_
  refine sc_ld (k := i + 1) (x := nI (x)) hx hb hX hsc hS (by omega) hLb hA1 dL_law_254 ?_
  refine lv_aload_n hx hb dL_law_255 rfl (lv_at hl 0 rfl) ?_
  refine lv_iload hx hb dL_law_256 (lv_at hl 4 rfl) ?_
  refine lv_iconst (v := nI (2)) hx hb dL_law_258 (by decide) ?_
  refine lv_iadd hx hb dL_law_259 ?_
  refine rt_i (y := nI (i + 2)) (nn_add (i) (2)) ?_
  refine sc_ld (k := i + 2) (x := nI (y)) hx hb hX hsc hS (by omega) hLb hA2 dL_law_260 ?_
  refine lv_aload_n hx hb dL_law_261 rfl (lv_at hl 0 rfl) ?_
  refine lv_iload hx hb dL_law_262 (lv_at hl 4 rfl) ?_
  refine lv_iconst (v := nI (3)) hx hb dL_law_264 (by decide) ?_
  refine lv_iadd hx hb dL_law_265 ?_
  refine rt_i (y := nI (i + 3)) (nn_add (i) (3)) ?_
  refine sc_ld (k := i + 3) (x := nI (z)) hx hb hX hsc hS (by omega) hLb hA3 dL_law_266 ?_
  refine lv_aload_n hx hb dL_law_267 rfl (lv_at hl 3 rfl) ?_
  refine wx_L (X := wM cI cZ b w) (Y := []) (wo := wS cI cL a v ++ wO cL o f) (wo' := wS cI cL a (sAddT v x y z) ++ wO cL o (va_up f 0 (lI (((sTm v) : Nat) : Int)))) (As := [.ref (a 0), .int (nI (x)), .int (nI (y)), .int (nI (z)), .ref o]) (rest := []) (hh := [(0, 12, 15, 21), (0, 12, 19, 13), (0, 12, 23, 15)]) hx hb hml hown hts hE hN (c_L_triangle_0 l dC dI cI cL cZ a v o f x y z hv hi hj hq hc hd) (vx_cwSW 5 hts gL_law_L_triangle rfl rfl rfl (by decide +kernel) ⟨Nat.le_of_ble_eq_true rfl, Nat.le_of_ble_eq_true rfl⟩) hK hP hD hS rfl rfl hl.1 rfl (Nat.le_of_ble_eq_true rfl) dL_law_268 ⟨(show cells + 0 ≤ 1054 by omega), (show slots + 0 ≤ 10461 by omega)⟩ (fun H locs hP hD hS => ?_)
  have hP : va_P (dC, dI) vwCl (TW cI cL cZ a b o (sAddT v x y z) w (va_up f 0 (lI (((sTm v) : Nat) : Int)))) H := hP
  have hD : va_D (nwA s) (TW cI cL cZ a b o (sAddT v x y z) w (va_up f 0 (lI (((sTm v) : Nat) : Int)))) := hD
  refine W.eq (g2 := F0 m 271 ls [.int (nI (0))]) rfl ?_
  refine lv_istore (lv' := [(5, .int (nI (0))), (0, .ref sc), (1, .ref (a 0)), (2, .ref (b 0)), (3, .ref o), (4, .int (nI (i)))]) hx hb dL_law_271 hl (by decide) rfl (fun ls hl => ?_)
  refine lv_aload_n hx hb dL_law_273 rfl (lv_at hl 3 rfl) ?_
  refine lv_aload_n hx hb dL_law_274 rfl (lv_at hl 1 rfl) ?_
  refine lv_iload hx hb dL_law_275 (lv_at hl 5 rfl) ?_
  refine lv_iconst (v := nI (1)) hx hb dL_law_277 (by decide) ?_
  refine lv_iadd hx hb dL_law_278 ?_
  refine rt_i (y := nI (i + 1)) (nn_add (i) (1)) ?_
  refine sc_ld (k := i + 1) (x := nI (x)) hx hb hX hsc hS (by omega) hLb hA1 dL_law_279 ?_
  refine lv_aload_n hx hb dL_law_280 rfl (lv_at hl 1 rfl) ?_
  refine lv_iload hx hb dL_law_281 (lv_at hl 5 rfl) ?_
  refine lv_iconst (v := nI (2)) hx hb dL_law_283 (by decide) ?_
  refine lv_iadd hx hb dL_law_284 ?_
  refine rt_i (y := nI (i + 2)) (nn_add (i) (2)) ?_
  refine sc_ld (k := i + 2) (x := nI (y)) hx hb hX hsc hS (by omega) hLb hA2 dL_law_285 ?_
  refine lv_aload_n hx hb dL_law_286 rfl (lv_at hl 1 rfl) ?_
  refine lv_iload hx hb dL_law_287 (lv_at hl 5 rfl) ?_
  refine lv_iconst (v := nI (3)) hx hb dL_law_289 (by decide) ?_
  refine lv_iadd hx hb dL_law_290 ?_
  refine rt_i (y := nI (i + 3)) (nn_add (i) (3)) ?_
  refine sc_ld (k := i + 3) (x := nI (z)) hx hb hX hsc hS (by omega) hLb hA3 dL_law_291 ?_
  refine wx_V (X := []) (Y := wS cI cL a (sAddT v x y z) ++ wO cL o (va_up f 0 (lI (((sTm v) : Nat) : Int)))) (wo := wM cI cZ b w) (wo' := wM cI cZ b (mAdd (mThx w (nI 0)) x y z)) (As := [.int (nI (x)), .int (nI (y)), .int (nI (z))]) (rest := []) (q0 := 0) (ci := 3) hx hb hml hown hts (c_X3_triangle_0 l dC dI cI cL cZ b w x y z r_hv r_hi r_hj r_hq hc r_hd) (cwV 3 hts gL_law_X3_triangle rfl rfl rfl (by decide +kernel) ⟨Nat.le_of_ble_eq_true rfl, Nat.le_of_ble_eq_true rfl⟩) hK hP hD hS rfl rfl rfl rfl hl.1 rfl (Nat.le_of_ble_eq_true rfl) dL_law_292 ⟨(show cells ≤ 1054 by omega), (show slots ≤ 10461 by omega)⟩ (fun H locs hP hD hS => ?_)
  have hP : va_P (dC, dI) vwCl (TW cI cL cZ a b o (sAddT v x y z) (mAdd (mThx w (nI 0)) x y z) (va_up f 0 (lI (((sTm v) : Nat) : Int)))) H := hP
  have hD : va_D (nwA s) (TW cI cL cZ a b o (sAddT v x y z) (mAdd (mThx w (nI 0)) x y z) (va_up f 0 (lI (((sTm v) : Nat) : Int)))) := hD
  refine W.eq (g2 := F0 m 295 ls [.int (nI (mTm w))]) rfl ?_
  refine lv_istore (lv' := [(6, .int (nI (mTm w))), (5, .int (nI (0))), (0, .ref sc), (1, .ref (a 0)), (2, .ref (b 0)), (3, .ref o), (4, .int (nI (i)))]) hx hb dL_law_295 hl (by decide) rfl (fun ls hl => ?_)
  refine lv_aload_n hx hb dL_law_297 rfl (lv_at hl 4 rfl) ?_
  refine ro_V (wo := wM cI cZ b (mAdd (mThx w (nI 0)) x y z)) (As := []) (rest := []) (q0 := 0) (ci := 3) hx hb hml hown hts (c_X3_thrown l dC dI cI cL cZ b (mAdd (mThx w (nI 0)) x y z)  ) (cwV 0 hts gL_law_X3_thrown rfl rfl rfl (by decide +kernel) ⟨Nat.le_of_ble_eq_true rfl, Nat.le_of_ble_eq_true rfl⟩) hK (pj_sub (X := []) (Y := wS cI cL a (sAddT v x y z) ++ wO cL o (va_up f 0 (lI (((sTm v) : Nat) : Int)))) hP) rfl rfl rfl hl.1 rfl (Nat.le_of_ble_eq_true rfl) dL_law_298 ⟨(show cells ≤ 1054 by omega), (show slots ≤ 10461 by omega)⟩ ?_
  refine W.eq (g2 := F0 m 301 ls [.int (nI (0))]) rfl ?_
  refine lv_iload hx hb dL_law_301 (lv_at hl 1 rfl) ?_
  refine lv_icmp_eq (tgt := 308) hx hb dL_law_303 (by decide) (fun _ => ?_) (fun c9 => absurd rfl c9)
  refine lv_iload hx hb dL_law_308 (lv_at hl 1 rfl) ?_
  refine lv_if_ne (tgt := 325) hx hb dL_law_310 (by decide) (fun c9 => absurd (by decide) c9) (fun _ => ?_)
  refine lv_aload_n hx hb dL_law_313 rfl (lv_at hl 5 rfl) ?_
  refine lv_iconst (v := nI (0)) hx hb dL_law_314 (by decide) ?_
  refine la_ld (k := 0) hx hb hK hP 15 1 rfl rfl (by decide) (by decide) dL_law_315 ?_
  refine rt_l (y := lI (((sTm v) : Nat) : Int)) rfl ?_
  refine lv_iload hx hb dL_law_316 (lv_at hl 0 rfl) ?_
  refine lv_i2l (v := lI (((mTm w) : Nat) : Int)) hx hb dL_law_318 (nzI_l hbd) ?_
  refine rt_l (y := lI (((sTm v) : Nat) : Int)) (by rw [heq]) ?_
  refine W.lcmp hx hb dL_law_319 ?_
  refine lv_if_eq (tgt := 325) hx hb dL_law_320 (by decide) (fun _ => ?_) (fun c9 => absurd (lg_self _) c9)
  refine lv_goto (tgt := 886) hx hb dL_law_325 (by decide) ?_
  refine W.widen (Nat.le_add_right cells 1) (Nat.le_add_right slots 6) ?_
  exact kk ls H locs _ (lv_sub hl [2, 3, 4, 5, 6] rfl) hP hD hS
set_option maxHeartbeats 4000000 in
set_option maxRecDepth 100000 in
theorem lk_triangle_1 (CX : LX p l s m meth c args dC dI cI cL cZ sc L xs) (v : SV) (w : MV) (i : Nat) (hi : i + 4 ≤ L) (hl : lv_has ls 7 [(0, .ref sc), (1, .ref (a 0)), (2, .ref (b 0)), (3, .ref o), (4, .int (nI (i)))]) (hP : va_P (dC, dI) vwCl (TW cI cL cZ a b o v w f) H) (hD : va_D (nwA s) (TW cI cL cZ a b o v w f)) (hS : va_S (nwA s) s.heap H locs) (hcl : cells + 1 ≤ 1054 ∧ slots + 6 ≤ 10461) (x y z : Int32) (hA1 : xs (i + 1) = x) (hA2 : xs (i + 2) = y) (hA3 : xs (i + 3) = z) (hv : okS v) (hc : (inB x (sPn v) && (inB y (sPn v) && inB z (sPn v))) = false) (r_hv : okM w) (r_hc : (inB x (mPn w) && (inB y (mPn w) && inB z (mPn w))) = false)
    (kk : ∀ (ls1 : Array Slot) (H1 : Heap) (locs1 : List Loc) (f1 : Nat → Int64), lv_has ls1 7 [(0, .ref sc), (1, .ref (a 0)), (2, .ref (b 0)), (3, .ref o), (4, .int (nI (i)))] → va_P (dC, dI) vwCl (TW cI cL cZ a b o v (mThx w (nI 1)) f1) H1 → va_D (nwA s) (TW cI cL cZ a b o v (mThx w (nI 1)) f1) → va_S (nwA s) s.heap H1 locs1 → W p l e room_1 s m args below meth c H1 locs1 (cells + 1) (slots + 6) Q (F0 m 886 ls1 [])) : W p l e room_1 s m args below meth c H locs cells slots Q (F0 m 248 ls []) := by
  obtain ⟨hx, hb, hml, hown, hts, hX, hsc, hK, hE, hN, hLb, hst⟩ := CX
  refine lv_aload_n hx hb dL_law_248 rfl (lv_at hl 1 rfl) ?_
  refine lv_aload_n hx hb dL_law_249 rfl (lv_at hl 0 rfl) ?_
  refine lv_iload hx hb dL_law_250 (lv_at hl 4 rfl) ?_
  refine lv_iconst (v := nI (1)) hx hb dL_law_252 (by decide) ?_
  refine lv_iadd hx hb dL_law_253 ?_
  refine rt_i (y := nI (i + 1)) (nn_add (i) (1)) ?_
  refine sc_ld (k := i + 1) (x := x) hx hb hX hsc hS (by omega) hLb hA1 dL_law_254 ?_
  refine lv_aload_n hx hb dL_law_255 rfl (lv_at hl 0 rfl) ?_
  refine lv_iload hx hb dL_law_256 (lv_at hl 4 rfl) ?_
  refine lv_iconst (v := nI (2)) hx hb dL_law_258 (by decide) ?_
  refine lv_iadd hx hb dL_law_259 ?_
  refine rt_i (y := nI (i + 2)) (nn_add (i) (2)) ?_
  refine sc_ld (k := i + 2) (x := y) hx hb hX hsc hS (by omega) hLb hA2 dL_law_260 ?_
  refine lv_aload_n hx hb dL_law_261 rfl (lv_at hl 0 rfl) ?_
  refine lv_iload hx hb dL_law_262 (lv_at hl 4 rfl) ?_
  refine lv_iconst (v := nI (3)) hx hb dL_law_264 (by decide) ?_
  refine lv_iadd hx hb dL_law_265 ?_
  refine rt_i (y := nI (i + 3)) (nn_add (i) (3)) ?_
  refine sc_ld (k := i + 3) (x := z) hx hb hX hsc hS (by omega) hLb hA3 dL_law_266 ?_
  refine lv_aload_n hx hb dL_law_267 rfl (lv_at hl 3 rfl) ?_
  refine wx_L (X := wM cI cZ b w) (Y := []) (wo := wS cI cL a v ++ wO cL o f) (wo' := wS cI cL a v ++ wO cL o f) (As := [.ref (a 0), .int (x), .int (y), .int (z), .ref o]) (rest := []) (hh := [(0, 12, 15, 21), (0, 12, 19, 13), (0, 12, 23, 15)]) hx hb hml hown hts hE hN (c_L_triangle_x1 l hst dC dI cI cL cZ a v o f x y z hv hc) (vx_cwSW 5 hts gL_law_L_triangle rfl rfl rfl (by decide +kernel) ⟨Nat.le_of_ble_eq_true rfl, Nat.le_of_ble_eq_true rfl⟩) hK hP hD hS rfl rfl hl.1 rfl (Nat.le_of_ble_eq_true rfl) dL_law_268 ⟨(show cells + 1 ≤ 1054 by omega), (show slots + 6 ≤ 10461 by omega)⟩ (fun H locs hP hD hS => ?_)
  have hP : va_P (dC, dI) vwCl (TW cI cL cZ a b o v w f) H := hP
  have hD : va_D (nwA s) (TW cI cL cZ a b o v w f) := hD
  refine W.eq (g2 := F0 m 271 ls [.int (nI (1))]) rfl ?_
  refine lv_istore (lv' := [(5, .int (nI (1))), (0, .ref sc), (1, .ref (a 0)), (2, .ref (b 0)), (3, .ref o), (4, .int (nI (i)))]) hx hb dL_law_271 hl (by decide) rfl (fun ls hl => ?_)
  refine lv_aload_n hx hb dL_law_273 rfl (lv_at hl 3 rfl) ?_
  refine lv_aload_n hx hb dL_law_274 rfl (lv_at hl 1 rfl) ?_
  refine lv_iload hx hb dL_law_275 (lv_at hl 5 rfl) ?_
  refine lv_iconst (v := nI (1)) hx hb dL_law_277 (by decide) ?_
  refine lv_iadd hx hb dL_law_278 ?_
  refine rt_i (y := nI (i + 1)) (nn_add (i) (1)) ?_
  refine sc_ld (k := i + 1) (x := x) hx hb hX hsc hS (by omega) hLb hA1 dL_law_279 ?_
  refine lv_aload_n hx hb dL_law_280 rfl (lv_at hl 1 rfl) ?_
  refine lv_iload hx hb dL_law_281 (lv_at hl 5 rfl) ?_
  refine lv_iconst (v := nI (2)) hx hb dL_law_283 (by decide) ?_
  refine lv_iadd hx hb dL_law_284 ?_
  refine rt_i (y := nI (i + 2)) (nn_add (i) (2)) ?_
  refine sc_ld (k := i + 2) (x := y) hx hb hX hsc hS (by omega) hLb hA2 dL_law_285 ?_
  refine lv_aload_n hx hb dL_law_286 rfl (lv_at hl 1 rfl) ?_
  refine lv_iload hx hb dL_law_287 (lv_at hl 5 rfl) ?_
  refine lv_iconst (v := nI (3)) hx hb dL_law_289 (by decide) ?_
  refine lv_iadd hx hb dL_law_290 ?_
  refine rt_i (y := nI (i + 3)) (nn_add (i) (3)) ?_
  refine sc_ld (k := i + 3) (x := z) hx hb hX hsc hS (by omega) hLb hA3 dL_law_291 ?_
  refine wx_V (X := []) (Y := wS cI cL a v ++ wO cL o f) (wo := wM cI cZ b w) (wo' := wM cI cZ b (mThx w (nI 1))) (As := [.int (x), .int (y), .int (z)]) (rest := []) (q0 := 0) (ci := 3) hx hb hml hown hts (c_X3_triangle_1 l dC dI cI cL cZ b w x y z r_hv r_hc) (cwV 3 hts gL_law_X3_triangle rfl rfl rfl (by decide +kernel) ⟨Nat.le_of_ble_eq_true rfl, Nat.le_of_ble_eq_true rfl⟩) hK hP hD hS rfl rfl rfl rfl hl.1 rfl (Nat.le_of_ble_eq_true rfl) dL_law_292 ⟨(show cells + 1 ≤ 1054 by omega), (show slots + 6 ≤ 10461 by omega)⟩ (fun H locs hP hD hS => ?_)
  have hP : va_P (dC, dI) vwCl (TW cI cL cZ a b o v (mThx w (nI 1)) f) H := hP
  have hD : va_D (nwA s) (TW cI cL cZ a b o v (mThx w (nI 1)) f) := hD
  refine W.eq (g2 := F0 m 295 ls [.int (nI (0))]) rfl ?_
  refine lv_istore (lv' := [(6, .int (nI (0))), (5, .int (nI (1))), (0, .ref sc), (1, .ref (a 0)), (2, .ref (b 0)), (3, .ref o), (4, .int (nI (i)))]) hx hb dL_law_295 hl (by decide) rfl (fun ls hl => ?_)
  refine lv_aload_n hx hb dL_law_297 rfl (lv_at hl 4 rfl) ?_
  refine ro_V (wo := wM cI cZ b (mThx w (nI 1))) (As := []) (rest := []) (q0 := 0) (ci := 3) hx hb hml hown hts (c_X3_thrown l dC dI cI cL cZ b (mThx w (nI 1))  ) (cwV 0 hts gL_law_X3_thrown rfl rfl rfl (by decide +kernel) ⟨Nat.le_of_ble_eq_true rfl, Nat.le_of_ble_eq_true rfl⟩) hK (pj_sub (X := []) (Y := wS cI cL a v ++ wO cL o f) hP) rfl rfl rfl hl.1 rfl (Nat.le_of_ble_eq_true rfl) dL_law_298 ⟨(show cells + 1 ≤ 1054 by omega), (show slots + 6 ≤ 10461 by omega)⟩ ?_
  refine W.eq (g2 := F0 m 301 ls [.int (nI (1))]) rfl ?_
  refine lv_iload hx hb dL_law_301 (lv_at hl 1 rfl) ?_
  refine lv_icmp_eq (tgt := 308) hx hb dL_law_303 (by decide) (fun _ => ?_) (fun c9 => absurd rfl c9)
  refine lv_iload hx hb dL_law_308 (lv_at hl 1 rfl) ?_
  refine lv_if_ne (tgt := 325) hx hb dL_law_310 (by decide) (fun _ => ?_) (fun c9 => absurd c9 (by decide))
  refine lv_goto (tgt := 886) hx hb dL_law_325 (by decide) ?_
  exact kk ls H locs _ (lv_sub hl [2, 3, 4, 5, 6] rfl) hP hD hS
set_option maxHeartbeats 4000000 in
set_option maxRecDepth 100000 in
theorem lk_triangle_2 (CX : LX p l s m meth c args dC dI cI cL cZ sc L xs) (v : SV) (w : MV) (i : Nat) (hi : i + 4 ≤ L) (hl : lv_has ls 7 [(0, .ref sc), (1, .ref (a 0)), (2, .ref (b 0)), (3, .ref o), (4, .int (nI (i)))]) (hP : va_P (dC, dI) vwCl (TW cI cL cZ a b o v w f) H) (hD : va_D (nwA s) (TW cI cL cZ a b o v w f)) (hS : va_S (nwA s) s.heap H locs) (hcl : cells + 1 ≤ 1054 ∧ slots + 6 ≤ 10461) (x y z : Nat) (hA1 : xs (i + 1) = nI (x)) (hA2 : xs (i + 2) = nI (y)) (hA3 : xs (i + 3) = nI (z)) (hv : okS v) (hi : x < sPn v) (hj : y < sPn v) (hq : z < sPn v) (hc : ¬ (x ≠ y ∧ y ≠ z ∧ x ≠ z)) (r_hv : okM w) (r_hi : x < mPn w) (r_hj : y < mPn w) (r_hq : z < mPn w) (r_hc : x = y ∨ y = z ∨ x = z)
    (kk : ∀ (ls1 : Array Slot) (H1 : Heap) (locs1 : List Loc) (f1 : Nat → Int64), lv_has ls1 7 [(0, .ref sc), (1, .ref (a 0)), (2, .ref (b 0)), (3, .ref o), (4, .int (nI (i)))] → va_P (dC, dI) vwCl (TW cI cL cZ a b o v (mThx w (nI 2)) f1) H1 → va_D (nwA s) (TW cI cL cZ a b o v (mThx w (nI 2)) f1) → va_S (nwA s) s.heap H1 locs1 → W p l e room_1 s m args below meth c H1 locs1 (cells + 1) (slots + 6) Q (F0 m 886 ls1 [])) : W p l e room_1 s m args below meth c H locs cells slots Q (F0 m 248 ls []) := by
  obtain ⟨hx, hb, hml, hown, hts, hX, hsc, hK, hE, hN, hLb, hst⟩ := CX
  refine lv_aload_n hx hb dL_law_248 rfl (lv_at hl 1 rfl) ?_
  refine lv_aload_n hx hb dL_law_249 rfl (lv_at hl 0 rfl) ?_
  refine lv_iload hx hb dL_law_250 (lv_at hl 4 rfl) ?_
  refine lv_iconst (v := nI (1)) hx hb dL_law_252 (by decide) ?_
  refine lv_iadd hx hb dL_law_253 ?_
  refine rt_i (y := nI (i + 1)) (nn_add (i) (1)) ?_
  refine sc_ld (k := i + 1) (x := nI (x)) hx hb hX hsc hS (by omega) hLb hA1 dL_law_254 ?_
  refine lv_aload_n hx hb dL_law_255 rfl (lv_at hl 0 rfl) ?_
  refine lv_iload hx hb dL_law_256 (lv_at hl 4 rfl) ?_
  refine lv_iconst (v := nI (2)) hx hb dL_law_258 (by decide) ?_
  refine lv_iadd hx hb dL_law_259 ?_
  refine rt_i (y := nI (i + 2)) (nn_add (i) (2)) ?_
  refine sc_ld (k := i + 2) (x := nI (y)) hx hb hX hsc hS (by omega) hLb hA2 dL_law_260 ?_
  refine lv_aload_n hx hb dL_law_261 rfl (lv_at hl 0 rfl) ?_
  refine lv_iload hx hb dL_law_262 (lv_at hl 4 rfl) ?_
  refine lv_iconst (v := nI (3)) hx hb dL_law_264 (by decide) ?_
  refine lv_iadd hx hb dL_law_265 ?_
  refine rt_i (y := nI (i + 3)) (nn_add (i) (3)) ?_
  refine sc_ld (k := i + 3) (x := nI (z)) hx hb hX hsc hS (by omega) hLb hA3 dL_law_266 ?_
  refine lv_aload_n hx hb dL_law_267 rfl (lv_at hl 3 rfl) ?_
  refine wx_L (X := wM cI cZ b w) (Y := []) (wo := wS cI cL a v ++ wO cL o f) (wo' := wS cI cL a v ++ wO cL o f) (As := [.ref (a 0), .int (nI (x)), .int (nI (y)), .int (nI (z)), .ref o]) (rest := []) (hh := [(0, 12, 15, 21), (0, 12, 19, 13), (0, 12, 23, 15)]) hx hb hml hown hts hE hN (c_L_triangle_x2 l hst dC dI cI cL cZ a v o f x y z hv hi hj hq hc) (vx_cwSW 5 hts gL_law_L_triangle rfl rfl rfl (by decide +kernel) ⟨Nat.le_of_ble_eq_true rfl, Nat.le_of_ble_eq_true rfl⟩) hK hP hD hS rfl rfl hl.1 rfl (Nat.le_of_ble_eq_true rfl) dL_law_268 ⟨(show cells + 1 ≤ 1054 by omega), (show slots + 6 ≤ 10461 by omega)⟩ (fun H locs hP hD hS => ?_)
  have hP : va_P (dC, dI) vwCl (TW cI cL cZ a b o v w f) H := hP
  have hD : va_D (nwA s) (TW cI cL cZ a b o v w f) := hD
  refine W.eq (g2 := F0 m 271 ls [.int (nI (2))]) rfl ?_
  refine lv_istore (lv' := [(5, .int (nI (2))), (0, .ref sc), (1, .ref (a 0)), (2, .ref (b 0)), (3, .ref o), (4, .int (nI (i)))]) hx hb dL_law_271 hl (by decide) rfl (fun ls hl => ?_)
  refine lv_aload_n hx hb dL_law_273 rfl (lv_at hl 3 rfl) ?_
  refine lv_aload_n hx hb dL_law_274 rfl (lv_at hl 1 rfl) ?_
  refine lv_iload hx hb dL_law_275 (lv_at hl 5 rfl) ?_
  refine lv_iconst (v := nI (1)) hx hb dL_law_277 (by decide) ?_
  refine lv_iadd hx hb dL_law_278 ?_
  refine rt_i (y := nI (i + 1)) (nn_add (i) (1)) ?_
  refine sc_ld (k := i + 1) (x := nI (x)) hx hb hX hsc hS (by omega) hLb hA1 dL_law_279 ?_
  refine lv_aload_n hx hb dL_law_280 rfl (lv_at hl 1 rfl) ?_
  refine lv_iload hx hb dL_law_281 (lv_at hl 5 rfl) ?_
  refine lv_iconst (v := nI (2)) hx hb dL_law_283 (by decide) ?_
  refine lv_iadd hx hb dL_law_284 ?_
  refine rt_i (y := nI (i + 2)) (nn_add (i) (2)) ?_
  refine sc_ld (k := i + 2) (x := nI (y)) hx hb hX hsc hS (by omega) hLb hA2 dL_law_285 ?_
  refine lv_aload_n hx hb dL_law_286 rfl (lv_at hl 1 rfl) ?_
  refine lv_iload hx hb dL_law_287 (lv_at hl 5 rfl) ?_
  refine lv_iconst (v := nI (3)) hx hb dL_law_289 (by decide) ?_
  refine lv_iadd hx hb dL_law_290 ?_
  refine rt_i (y := nI (i + 3)) (nn_add (i) (3)) ?_
  refine sc_ld (k := i + 3) (x := nI (z)) hx hb hX hsc hS (by omega) hLb hA3 dL_law_291 ?_
  refine wx_V (X := []) (Y := wS cI cL a v ++ wO cL o f) (wo := wM cI cZ b w) (wo' := wM cI cZ b (mThx w (nI 2))) (As := [.int (nI (x)), .int (nI (y)), .int (nI (z))]) (rest := []) (q0 := 0) (ci := 3) hx hb hml hown hts (c_X3_triangle_2 l dC dI cI cL cZ b w x y z r_hv r_hi r_hj r_hq r_hc) (cwV 3 hts gL_law_X3_triangle rfl rfl rfl (by decide +kernel) ⟨Nat.le_of_ble_eq_true rfl, Nat.le_of_ble_eq_true rfl⟩) hK hP hD hS rfl rfl rfl rfl hl.1 rfl (Nat.le_of_ble_eq_true rfl) dL_law_292 ⟨(show cells + 1 ≤ 1054 by omega), (show slots + 6 ≤ 10461 by omega)⟩ (fun H locs hP hD hS => ?_)
  have hP : va_P (dC, dI) vwCl (TW cI cL cZ a b o v (mThx w (nI 2)) f) H := hP
  have hD : va_D (nwA s) (TW cI cL cZ a b o v (mThx w (nI 2)) f) := hD
  refine W.eq (g2 := F0 m 295 ls [.int (nI (0))]) rfl ?_
  refine lv_istore (lv' := [(6, .int (nI (0))), (5, .int (nI (2))), (0, .ref sc), (1, .ref (a 0)), (2, .ref (b 0)), (3, .ref o), (4, .int (nI (i)))]) hx hb dL_law_295 hl (by decide) rfl (fun ls hl => ?_)
  refine lv_aload_n hx hb dL_law_297 rfl (lv_at hl 4 rfl) ?_
  refine ro_V (wo := wM cI cZ b (mThx w (nI 2))) (As := []) (rest := []) (q0 := 0) (ci := 3) hx hb hml hown hts (c_X3_thrown l dC dI cI cL cZ b (mThx w (nI 2))  ) (cwV 0 hts gL_law_X3_thrown rfl rfl rfl (by decide +kernel) ⟨Nat.le_of_ble_eq_true rfl, Nat.le_of_ble_eq_true rfl⟩) hK (pj_sub (X := []) (Y := wS cI cL a v ++ wO cL o f) hP) rfl rfl rfl hl.1 rfl (Nat.le_of_ble_eq_true rfl) dL_law_298 ⟨(show cells + 1 ≤ 1054 by omega), (show slots + 6 ≤ 10461 by omega)⟩ ?_
  refine W.eq (g2 := F0 m 301 ls [.int (nI (2))]) rfl ?_
  refine lv_iload hx hb dL_law_301 (lv_at hl 1 rfl) ?_
  refine lv_icmp_eq (tgt := 308) hx hb dL_law_303 (by decide) (fun _ => ?_) (fun c9 => absurd rfl c9)
  refine lv_iload hx hb dL_law_308 (lv_at hl 1 rfl) ?_
  refine lv_if_ne (tgt := 325) hx hb dL_law_310 (by decide) (fun _ => ?_) (fun c9 => absurd c9 (by decide))
  refine lv_goto (tgt := 886) hx hb dL_law_325 (by decide) ?_
  exact kk ls H locs _ (lv_sub hl [2, 3, 4, 5, 6] rfl) hP hD hS
set_option maxHeartbeats 4000000 in
set_option maxRecDepth 100000 in
theorem lk_triangle_3 (CX : LX p l s m meth c args dC dI cI cL cZ sc L xs) (v : SV) (w : MV) (i : Nat) (hi : i + 4 ≤ L) (hl : lv_has ls 7 [(0, .ref sc), (1, .ref (a 0)), (2, .ref (b 0)), (3, .ref o), (4, .int (nI (i)))]) (hP : va_P (dC, dI) vwCl (TW cI cL cZ a b o v w f) H) (hD : va_D (nwA s) (TW cI cL cZ a b o v w f)) (hS : va_S (nwA s) s.heap H locs) (hcl : cells + 1 ≤ 1054 ∧ slots + 6 ≤ 10461) (x y z : Nat) (hA1 : xs (i + 1) = nI (x)) (hA2 : xs (i + 2) = nI (y)) (hA3 : xs (i + 3) = nI (z)) (hv : okS v) (hi : x < sPn v) (hj : y < sPn v) (hq : z < sPn v) (hc : x ≠ y ∧ y ≠ z ∧ x ≠ z) (hd : ¬ (sTn v < 60 ∧ sTm v < 200)) (r_hv : okM w) (r_hi : x < mPn w) (r_hj : y < mPn w) (r_hq : z < mPn w) (r_hd : mTn w = 60 ∨ mTm w = 200)
    (kk : ∀ (ls1 : Array Slot) (H1 : Heap) (locs1 : List Loc) (f1 : Nat → Int64), lv_has ls1 7 [(0, .ref sc), (1, .ref (a 0)), (2, .ref (b 0)), (3, .ref o), (4, .int (nI (i)))] → va_P (dC, dI) vwCl (TW cI cL cZ a b o v (mThx w (nI 3)) f1) H1 → va_D (nwA s) (TW cI cL cZ a b o v (mThx w (nI 3)) f1) → va_S (nwA s) s.heap H1 locs1 → W p l e room_1 s m args below meth c H1 locs1 (cells + 1) (slots + 6) Q (F0 m 886 ls1 [])) : W p l e room_1 s m args below meth c H locs cells slots Q (F0 m 248 ls []) := by
  obtain ⟨hx, hb, hml, hown, hts, hX, hsc, hK, hE, hN, hLb, hst⟩ := CX
  refine lv_aload_n hx hb dL_law_248 rfl (lv_at hl 1 rfl) ?_
  refine lv_aload_n hx hb dL_law_249 rfl (lv_at hl 0 rfl) ?_
  refine lv_iload hx hb dL_law_250 (lv_at hl 4 rfl) ?_
  refine lv_iconst (v := nI (1)) hx hb dL_law_252 (by decide) ?_
  refine lv_iadd hx hb dL_law_253 ?_
  refine rt_i (y := nI (i + 1)) (nn_add (i) (1)) ?_
  refine sc_ld (k := i + 1) (x := nI (x)) hx hb hX hsc hS (by omega) hLb hA1 dL_law_254 ?_
  refine lv_aload_n hx hb dL_law_255 rfl (lv_at hl 0 rfl) ?_
  refine lv_iload hx hb dL_law_256 (lv_at hl 4 rfl) ?_
  refine lv_iconst (v := nI (2)) hx hb dL_law_258 (by decide) ?_
  refine lv_iadd hx hb dL_law_259 ?_
  refine rt_i (y := nI (i + 2)) (nn_add (i) (2)) ?_
  refine sc_ld (k := i + 2) (x := nI (y)) hx hb hX hsc hS (by omega) hLb hA2 dL_law_260 ?_
  refine lv_aload_n hx hb dL_law_261 rfl (lv_at hl 0 rfl) ?_
  refine lv_iload hx hb dL_law_262 (lv_at hl 4 rfl) ?_
  refine lv_iconst (v := nI (3)) hx hb dL_law_264 (by decide) ?_
  refine lv_iadd hx hb dL_law_265 ?_
  refine rt_i (y := nI (i + 3)) (nn_add (i) (3)) ?_
  refine sc_ld (k := i + 3) (x := nI (z)) hx hb hX hsc hS (by omega) hLb hA3 dL_law_266 ?_
  refine lv_aload_n hx hb dL_law_267 rfl (lv_at hl 3 rfl) ?_
  refine wx_L (X := wM cI cZ b w) (Y := []) (wo := wS cI cL a v ++ wO cL o f) (wo' := wS cI cL a v ++ wO cL o f) (As := [.ref (a 0), .int (nI (x)), .int (nI (y)), .int (nI (z)), .ref o]) (rest := []) (hh := [(0, 12, 15, 21), (0, 12, 19, 13), (0, 12, 23, 15)]) hx hb hml hown hts hE hN (c_L_triangle_x3 l hst dC dI cI cL cZ a v o f x y z hv hi hj hq hc hd) (vx_cwSW 5 hts gL_law_L_triangle rfl rfl rfl (by decide +kernel) ⟨Nat.le_of_ble_eq_true rfl, Nat.le_of_ble_eq_true rfl⟩) hK hP hD hS rfl rfl hl.1 rfl (Nat.le_of_ble_eq_true rfl) dL_law_268 ⟨(show cells + 1 ≤ 1054 by omega), (show slots + 6 ≤ 10461 by omega)⟩ (fun H locs hP hD hS => ?_)
  have hP : va_P (dC, dI) vwCl (TW cI cL cZ a b o v w f) H := hP
  have hD : va_D (nwA s) (TW cI cL cZ a b o v w f) := hD
  refine W.eq (g2 := F0 m 271 ls [.int (nI (3))]) rfl ?_
  refine lv_istore (lv' := [(5, .int (nI (3))), (0, .ref sc), (1, .ref (a 0)), (2, .ref (b 0)), (3, .ref o), (4, .int (nI (i)))]) hx hb dL_law_271 hl (by decide) rfl (fun ls hl => ?_)
  refine lv_aload_n hx hb dL_law_273 rfl (lv_at hl 3 rfl) ?_
  refine lv_aload_n hx hb dL_law_274 rfl (lv_at hl 1 rfl) ?_
  refine lv_iload hx hb dL_law_275 (lv_at hl 5 rfl) ?_
  refine lv_iconst (v := nI (1)) hx hb dL_law_277 (by decide) ?_
  refine lv_iadd hx hb dL_law_278 ?_
  refine rt_i (y := nI (i + 1)) (nn_add (i) (1)) ?_
  refine sc_ld (k := i + 1) (x := nI (x)) hx hb hX hsc hS (by omega) hLb hA1 dL_law_279 ?_
  refine lv_aload_n hx hb dL_law_280 rfl (lv_at hl 1 rfl) ?_
  refine lv_iload hx hb dL_law_281 (lv_at hl 5 rfl) ?_
  refine lv_iconst (v := nI (2)) hx hb dL_law_283 (by decide) ?_
  refine lv_iadd hx hb dL_law_284 ?_
  refine rt_i (y := nI (i + 2)) (nn_add (i) (2)) ?_
  refine sc_ld (k := i + 2) (x := nI (y)) hx hb hX hsc hS (by omega) hLb hA2 dL_law_285 ?_
  refine lv_aload_n hx hb dL_law_286 rfl (lv_at hl 1 rfl) ?_
  refine lv_iload hx hb dL_law_287 (lv_at hl 5 rfl) ?_
  refine lv_iconst (v := nI (3)) hx hb dL_law_289 (by decide) ?_
  refine lv_iadd hx hb dL_law_290 ?_
  refine rt_i (y := nI (i + 3)) (nn_add (i) (3)) ?_
  refine sc_ld (k := i + 3) (x := nI (z)) hx hb hX hsc hS (by omega) hLb hA3 dL_law_291 ?_
  refine wx_V (X := []) (Y := wS cI cL a v ++ wO cL o f) (wo := wM cI cZ b w) (wo' := wM cI cZ b (mThx w (nI 3))) (As := [.int (nI (x)), .int (nI (y)), .int (nI (z))]) (rest := []) (q0 := 0) (ci := 3) hx hb hml hown hts (c_X3_triangle_3 l dC dI cI cL cZ b w x y z r_hv r_hi r_hj r_hq hc r_hd) (cwV 3 hts gL_law_X3_triangle rfl rfl rfl (by decide +kernel) ⟨Nat.le_of_ble_eq_true rfl, Nat.le_of_ble_eq_true rfl⟩) hK hP hD hS rfl rfl rfl rfl hl.1 rfl (Nat.le_of_ble_eq_true rfl) dL_law_292 ⟨(show cells + 1 ≤ 1054 by omega), (show slots + 6 ≤ 10461 by omega)⟩ (fun H locs hP hD hS => ?_)
  have hP : va_P (dC, dI) vwCl (TW cI cL cZ a b o v (mThx w (nI 3)) f) H := hP
  have hD : va_D (nwA s) (TW cI cL cZ a b o v (mThx w (nI 3)) f) := hD
  refine W.eq (g2 := F0 m 295 ls [.int (nI (0))]) rfl ?_
  refine lv_istore (lv' := [(6, .int (nI (0))), (5, .int (nI (3))), (0, .ref sc), (1, .ref (a 0)), (2, .ref (b 0)), (3, .ref o), (4, .int (nI (i)))]) hx hb dL_law_295 hl (by decide) rfl (fun ls hl => ?_)
  refine lv_aload_n hx hb dL_law_297 rfl (lv_at hl 4 rfl) ?_
  refine ro_V (wo := wM cI cZ b (mThx w (nI 3))) (As := []) (rest := []) (q0 := 0) (ci := 3) hx hb hml hown hts (c_X3_thrown l dC dI cI cL cZ b (mThx w (nI 3))  ) (cwV 0 hts gL_law_X3_thrown rfl rfl rfl (by decide +kernel) ⟨Nat.le_of_ble_eq_true rfl, Nat.le_of_ble_eq_true rfl⟩) hK (pj_sub (X := []) (Y := wS cI cL a v ++ wO cL o f) hP) rfl rfl rfl hl.1 rfl (Nat.le_of_ble_eq_true rfl) dL_law_298 ⟨(show cells + 1 ≤ 1054 by omega), (show slots + 6 ≤ 10461 by omega)⟩ ?_
  refine W.eq (g2 := F0 m 301 ls [.int (nI (3))]) rfl ?_
  refine lv_iload hx hb dL_law_301 (lv_at hl 1 rfl) ?_
  refine lv_icmp_eq (tgt := 308) hx hb dL_law_303 (by decide) (fun _ => ?_) (fun c9 => absurd rfl c9)
  refine lv_iload hx hb dL_law_308 (lv_at hl 1 rfl) ?_
  refine lv_if_ne (tgt := 325) hx hb dL_law_310 (by decide) (fun _ => ?_) (fun c9 => absurd c9 (by decide))
  refine lv_goto (tgt := 886) hx hb dL_law_325 (by decide) ?_
  exact kk ls H locs _ (lv_sub hl [2, 3, 4, 5, 6] rfl) hP hD hS
set_option maxHeartbeats 4000000 in
set_option maxRecDepth 100000 in
theorem lk_take_0 (CX : LX p l s m meth c args dC dI cI cL cZ sc L xs) (v : SV) (w : MV) (i : Nat) (hi : i + 4 ≤ L) (hl : lv_has ls 7 [(0, .ref sc), (1, .ref (a 0)), (2, .ref (b 0)), (3, .ref o), (4, .int (nI (i)))]) (hP : va_P (dC, dI) vwCl (TW cI cL cZ a b o v w f) H) (hD : va_D (nwA s) (TW cI cL cZ a b o v w f)) (hS : va_S (nwA s) s.heap H locs) (hcl : cells + 1 ≤ 1054 ∧ slots + 6 ≤ 10461) (t : Nat) (hA1 : xs (i + 1) = nI (t)) (hv : okS v) (ht : t < 200) (hc : thB (sTh v) (sTn v) (nI t) = true) (r_hv : okM w) (r_hc : mth w (nI t) = true) (r_hn : 0 < mTn w)
    (kk : ∀ (ls1 : Array Slot) (H1 : Heap) (locs1 : List Loc) (f1 : Nat → Int64), lv_has ls1 7 [(0, .ref sc), (1, .ref (a 0)), (2, .ref (b 0)), (3, .ref o), (4, .int (nI (i)))] → va_P (dC, dI) vwCl (TW cI cL cZ a b o (sRem v t) ((w.1, nI 0, mPn w, mTm w, mTn w - 1, va_up (mIs w) t false, w.2.2.2.2.2.2)) f1) H1 → va_D (nwA s) (TW cI cL cZ a b o (sRem v t) ((w.1, nI 0, mPn w, mTm w, mTn w - 1, va_up (mIs w) t false, w.2.2.2.2.2.2)) f1) → va_S (nwA s) s.heap H1 locs1 → W p l e room_1 s m args below meth c H1 locs1 (cells + 1) (slots + 6) Q (F0 m 886 ls1 [])) : W p l e room_1 s m args below meth c H locs cells slots Q (F0 m 328 ls []) := by
  obtain ⟨hx, hb, hml, hown, hts, hX, hsc, hK, hE, hN, hLb, hst⟩ := CX
  refine lv_aload_n hx hb dL_law_328 rfl (lv_at hl 1 rfl) ?_
  refine lv_aload_n hx hb dL_law_329 rfl (lv_at hl 0 rfl) ?_
  refine lv_iload hx hb dL_law_330 (lv_at hl 4 rfl) ?_
  refine lv_iconst (v := nI (1)) hx hb dL_law_332 (by decide) ?_
  refine lv_iadd hx hb dL_law_333 ?_
  refine rt_i (y := nI (i + 1)) (nn_add (i) (1)) ?_
  refine sc_ld (k := i + 1) (x := nI (t)) hx hb hX hsc hS (by omega) hLb hA1 dL_law_334 ?_
  refine wx_L (X := wM cI cZ b w) (Y := wO cL o f) (wo := wS cI cL a v) (wo' := wS cI cL a (sRem v t)) (As := [.ref (a 0), .int (nI (t))]) (rest := []) (hh := [(0, 5, 8, 21)]) hx hb hml hown hts hE hN (c_L_take_0 l dC dI cI cL cZ a v t hv ht hc) (vx_cwSW 2 hts gL_law_L_take rfl rfl rfl (by decide +kernel) ⟨Nat.le_of_ble_eq_true rfl, Nat.le_of_ble_eq_true rfl⟩) hK hP hD hS rfl rfl hl.1 rfl (Nat.le_of_ble_eq_true rfl) dL_law_335 ⟨(show cells + 0 ≤ 1054 by omega), (show slots + 0 ≤ 10461 by omega)⟩ (fun H locs hP hD hS => ?_)
  have hP : va_P (dC, dI) vwCl (TW cI cL cZ a b o (sRem v t) w f) H := hP
  have hD : va_D (nwA s) (TW cI cL cZ a b o (sRem v t) w f) := hD
  refine W.eq (g2 := F0 m 338 ls [.int (nI (0))]) rfl ?_
  refine lv_istore (lv' := [(5, .int (nI (0))), (0, .ref sc), (1, .ref (a 0)), (2, .ref (b 0)), (3, .ref o), (4, .int (nI (i)))]) hx hb dL_law_338 hl (by decide) rfl (fun ls hl => ?_)
  refine lv_aload_n hx hb dL_law_340 rfl (lv_at hl 3 rfl) ?_
  refine lv_aload_n hx hb dL_law_341 rfl (lv_at hl 1 rfl) ?_
  refine lv_iload hx hb dL_law_342 (lv_at hl 5 rfl) ?_
  refine lv_iconst (v := nI (1)) hx hb dL_law_344 (by decide) ?_
  refine lv_iadd hx hb dL_law_345 ?_
  refine rt_i (y := nI (i + 1)) (nn_add (i) (1)) ?_
  refine sc_ld (k := i + 1) (x := nI (t)) hx hb hX hsc hS (by omega) hLb hA1 dL_law_346 ?_
  refine wx_V (X := []) (Y := wS cI cL a (sRem v t) ++ wO cL o f) (wo := wM cI cZ b w) (wo' := wM cI cZ b ((w.1, nI 0, mPn w, mTm w, mTn w - 1, va_up (mIs w) t false, w.2.2.2.2.2.2))) (As := [.int (nI (t))]) (rest := []) (q0 := 0) (ci := 3) hx hb hml hown hts (c_X3_take_0 l dC dI cI cL cZ b w t r_hv ht r_hc r_hn) (cwV 1 hts gL_law_X3_take rfl rfl rfl (by decide +kernel) ⟨Nat.le_of_ble_eq_true rfl, Nat.le_of_ble_eq_true rfl⟩) hK hP hD hS rfl rfl rfl rfl hl.1 rfl (Nat.le_of_ble_eq_true rfl) dL_law_347 ⟨(show cells ≤ 1054 by omega), (show slots ≤ 10461 by omega)⟩ (fun H locs hP hD hS => ?_)
  have hP : va_P (dC, dI) vwCl (TW cI cL cZ a b o (sRem v t) ((w.1, nI 0, mPn w, mTm w, mTn w - 1, va_up (mIs w) t false, w.2.2.2.2.2.2)) f) H := hP
  have hD : va_D (nwA s) (TW cI cL cZ a b o (sRem v t) ((w.1, nI 0, mPn w, mTm w, mTn w - 1, va_up (mIs w) t false, w.2.2.2.2.2.2)) f) := hD
  refine W.eq (g2 := F0 m 350 ls []) rfl ?_
  refine lv_aload_n hx hb dL_law_350 rfl (lv_at hl 3 rfl) ?_
  refine ro_V (wo := wM cI cZ b ((w.1, nI 0, mPn w, mTm w, mTn w - 1, va_up (mIs w) t false, w.2.2.2.2.2.2))) (As := []) (rest := []) (q0 := 0) (ci := 3) hx hb hml hown hts (c_X3_thrown l dC dI cI cL cZ b ((w.1, nI 0, mPn w, mTm w, mTn w - 1, va_up (mIs w) t false, w.2.2.2.2.2.2))  ) (cwV 0 hts gL_law_X3_thrown rfl rfl rfl (by decide +kernel) ⟨Nat.le_of_ble_eq_true rfl, Nat.le_of_ble_eq_true rfl⟩) hK (pj_sub (X := []) (Y := wS cI cL a (sRem v t) ++ wO cL o f) hP) rfl rfl rfl hl.1 rfl (Nat.le_of_ble_eq_true rfl) dL_law_351 ⟨(show cells ≤ 1054 by omega), (show slots ≤ 10461 by omega)⟩ ?_
  refine W.eq (g2 := F0 m 354 ls [.int (nI (0))]) rfl ?_
  refine lv_iload hx hb dL_law_354 (lv_at hl 0 rfl) ?_
  refine lv_icmp_eq (tgt := 361) hx hb dL_law_356 (by decide) (fun _ => ?_) (fun c9 => absurd rfl c9)
  refine lv_goto (tgt := 886) hx hb dL_law_361 (by decide) ?_
  refine W.widen (Nat.le_add_right cells 1) (Nat.le_add_right slots 6) ?_
  exact kk ls H locs _ (lv_sub hl [1, 2, 3, 4, 5] rfl) hP hD hS
set_option maxHeartbeats 4000000 in
set_option maxRecDepth 100000 in
theorem lk_take_1 (CX : LX p l s m meth c args dC dI cI cL cZ sc L xs) (v : SV) (w : MV) (i : Nat) (hi : i + 4 ≤ L) (hl : lv_has ls 7 [(0, .ref sc), (1, .ref (a 0)), (2, .ref (b 0)), (3, .ref o), (4, .int (nI (i)))]) (hP : va_P (dC, dI) vwCl (TW cI cL cZ a b o v w f) H) (hD : va_D (nwA s) (TW cI cL cZ a b o v w f)) (hS : va_S (nwA s) s.heap H locs) (hcl : cells + 1 ≤ 1054 ∧ slots + 6 ≤ 10461) (t : Int32) (hA1 : xs (i + 1) = t) (hv : okS v) (hc : thB (sTh v) (sTn v) t = false) (r_hv : okM w) (r_hc : mth w t = false)
    (kk : ∀ (ls1 : Array Slot) (H1 : Heap) (locs1 : List Loc) (f1 : Nat → Int64), lv_has ls1 7 [(0, .ref sc), (1, .ref (a 0)), (2, .ref (b 0)), (3, .ref o), (4, .int (nI (i)))] → va_P (dC, dI) vwCl (TW cI cL cZ a b o v (mThx w (nI 1)) f1) H1 → va_D (nwA s) (TW cI cL cZ a b o v (mThx w (nI 1)) f1) → va_S (nwA s) s.heap H1 locs1 → W p l e room_1 s m args below meth c H1 locs1 (cells + 1) (slots + 6) Q (F0 m 886 ls1 [])) : W p l e room_1 s m args below meth c H locs cells slots Q (F0 m 328 ls []) := by
  obtain ⟨hx, hb, hml, hown, hts, hX, hsc, hK, hE, hN, hLb, hst⟩ := CX
  refine lv_aload_n hx hb dL_law_328 rfl (lv_at hl 1 rfl) ?_
  refine lv_aload_n hx hb dL_law_329 rfl (lv_at hl 0 rfl) ?_
  refine lv_iload hx hb dL_law_330 (lv_at hl 4 rfl) ?_
  refine lv_iconst (v := nI (1)) hx hb dL_law_332 (by decide) ?_
  refine lv_iadd hx hb dL_law_333 ?_
  refine rt_i (y := nI (i + 1)) (nn_add (i) (1)) ?_
  refine sc_ld (k := i + 1) (x := t) hx hb hX hsc hS (by omega) hLb hA1 dL_law_334 ?_
  refine wx_L (X := wM cI cZ b w) (Y := wO cL o f) (wo := wS cI cL a v) (wo' := wS cI cL a v) (As := [.ref (a 0), .int (t)]) (rest := []) (hh := [(0, 5, 8, 21)]) hx hb hml hown hts hE hN (c_L_take_x1 l hst dC dI cI cL cZ a v t hv hc) (vx_cwSW 2 hts gL_law_L_take rfl rfl rfl (by decide +kernel) ⟨Nat.le_of_ble_eq_true rfl, Nat.le_of_ble_eq_true rfl⟩) hK hP hD hS rfl rfl hl.1 rfl (Nat.le_of_ble_eq_true rfl) dL_law_335 ⟨(show cells + 1 ≤ 1054 by omega), (show slots + 6 ≤ 10461 by omega)⟩ (fun H locs hP hD hS => ?_)
  have hP : va_P (dC, dI) vwCl (TW cI cL cZ a b o v w f) H := hP
  have hD : va_D (nwA s) (TW cI cL cZ a b o v w f) := hD
  refine W.eq (g2 := F0 m 338 ls [.int (nI (1))]) rfl ?_
  refine lv_istore (lv' := [(5, .int (nI (1))), (0, .ref sc), (1, .ref (a 0)), (2, .ref (b 0)), (3, .ref o), (4, .int (nI (i)))]) hx hb dL_law_338 hl (by decide) rfl (fun ls hl => ?_)
  refine lv_aload_n hx hb dL_law_340 rfl (lv_at hl 3 rfl) ?_
  refine lv_aload_n hx hb dL_law_341 rfl (lv_at hl 1 rfl) ?_
  refine lv_iload hx hb dL_law_342 (lv_at hl 5 rfl) ?_
  refine lv_iconst (v := nI (1)) hx hb dL_law_344 (by decide) ?_
  refine lv_iadd hx hb dL_law_345 ?_
  refine rt_i (y := nI (i + 1)) (nn_add (i) (1)) ?_
  refine sc_ld (k := i + 1) (x := t) hx hb hX hsc hS (by omega) hLb hA1 dL_law_346 ?_
  refine wx_V (X := []) (Y := wS cI cL a v ++ wO cL o f) (wo := wM cI cZ b w) (wo' := wM cI cZ b (mThx w (nI 1))) (As := [.int (t)]) (rest := []) (q0 := 0) (ci := 3) hx hb hml hown hts (c_X3_take_1 l dC dI cI cL cZ b w t r_hv r_hc) (cwV 1 hts gL_law_X3_take rfl rfl rfl (by decide +kernel) ⟨Nat.le_of_ble_eq_true rfl, Nat.le_of_ble_eq_true rfl⟩) hK hP hD hS rfl rfl rfl rfl hl.1 rfl (Nat.le_of_ble_eq_true rfl) dL_law_347 ⟨(show cells + 1 ≤ 1054 by omega), (show slots + 6 ≤ 10461 by omega)⟩ (fun H locs hP hD hS => ?_)
  have hP : va_P (dC, dI) vwCl (TW cI cL cZ a b o v (mThx w (nI 1)) f) H := hP
  have hD : va_D (nwA s) (TW cI cL cZ a b o v (mThx w (nI 1)) f) := hD
  refine W.eq (g2 := F0 m 350 ls []) rfl ?_
  refine lv_aload_n hx hb dL_law_350 rfl (lv_at hl 3 rfl) ?_
  refine ro_V (wo := wM cI cZ b (mThx w (nI 1))) (As := []) (rest := []) (q0 := 0) (ci := 3) hx hb hml hown hts (c_X3_thrown l dC dI cI cL cZ b (mThx w (nI 1))  ) (cwV 0 hts gL_law_X3_thrown rfl rfl rfl (by decide +kernel) ⟨Nat.le_of_ble_eq_true rfl, Nat.le_of_ble_eq_true rfl⟩) hK (pj_sub (X := []) (Y := wS cI cL a v ++ wO cL o f) hP) rfl rfl rfl hl.1 rfl (Nat.le_of_ble_eq_true rfl) dL_law_351 ⟨(show cells + 1 ≤ 1054 by omega), (show slots + 6 ≤ 10461 by omega)⟩ ?_
  refine W.eq (g2 := F0 m 354 ls [.int (nI (1))]) rfl ?_
  refine lv_iload hx hb dL_law_354 (lv_at hl 0 rfl) ?_
  refine lv_icmp_eq (tgt := 361) hx hb dL_law_356 (by decide) (fun _ => ?_) (fun c9 => absurd rfl c9)
  refine lv_goto (tgt := 886) hx hb dL_law_361 (by decide) ?_
  exact kk ls H locs _ (lv_sub hl [1, 2, 3, 4, 5] rfl) hP hD hS
set_option maxHeartbeats 4000000 in
set_option maxRecDepth 100000 in
theorem lk_part_0 (CX : LX p l s m meth c args dC dI cI cL cZ sc L xs) (v : SV) (w : MV) (i : Nat) (hi : i + 4 ≤ L) (hl : lv_has ls 7 [(0, .ref sc), (1, .ref (a 0)), (2, .ref (b 0)), (3, .ref o), (4, .int (nI (i)))]) (hP : va_P (dC, dI) vwCl (TW cI cL cZ a b o v w f) H) (hD : va_D (nwA s) (TW cI cL cZ a b o v w f)) (hS : va_S (nwA s) s.heap H locs) (hcl : cells + 1 ≤ 1054 ∧ slots + 6 ≤ 10461) (t x y : Nat) (hA1 : xs (i + 1) = nI (t)) (hA2 : xs (i + 2) = nI (x)) (hA3 : xs (i + 3) = nI (y)) (hv : okS v) (ht : t < 200) (hx9 : x < 512) (hy9 : y < 512) (hc : thB (sTh v) (sTn v) (nI t) = true) (hd : wit v.1 t (x : Int) (y : Int) = true) (he : pAt v.1 (sPn v) (nI x) (nI y) = none ∧ sPn v < 60 ∧ sTn v + 2 ≤ 60 ∧ sTm v + 2 ≤ 200) (r_hv : okM w) (r_hc : mth (mThx w (nI 0)) (nI t) = true) (r_hd : wit (mThx w (nI 0)).1 t (x : Int) (y : Int) = true) (r_he : pAt (mThx w (nI 0)).1 (mPn (mThx w (nI 0))) (nI x) (nI y) = none ∧ mPn (mThx w (nI 0)) < 60 ∧ mTn (mThx w (nI 0)) + 2 ≤ 60 ∧ mTm (mThx w (nI 0)) + 2 ≤ 200) (heq : sPn v = mPn (mThx w (nI 0))) (hbd : mPn (mThx w (nI 0)) < 2 ^ 31)
    (kk : ∀ (ls1 : Array Slot) (H1 : Heap) (locs1 : List Loc) (f1 : Nat → Int64), lv_has ls1 7 [(0, .ref sc), (1, .ref (a 0)), (2, .ref (b 0)), (3, .ref o), (4, .int (nI (i)))] → va_P (dC, dI) vwCl (TW cI cL cZ a b o (sPar v t x y) (mPar (mThx w (nI 0)) t x y) f1) H1 → va_D (nwA s) (TW cI cL cZ a b o (sPar v t x y) (mPar (mThx w (nI 0)) t x y) f1) → va_S (nwA s) s.heap H1 locs1 → W p l e room_1 s m args below meth c H1 locs1 (cells + 1) (slots + 6) Q (F0 m 886 ls1 [])) : W p l e room_1 s m args below meth c H locs cells slots Q (F0 m 364 ls []) := by
  obtain ⟨hx, hb, hml, hown, hts, hX, hsc, hK, hE, hN, hLb, hst⟩ := CX
  refine lv_aload_n hx hb dL_law_364 rfl (lv_at hl 1 rfl) ?_
  refine lv_aload_n hx hb dL_law_365 rfl (lv_at hl 0 rfl) ?_
  refine lv_iload hx hb dL_law_366 (lv_at hl 4 rfl) ?_
  refine lv_iconst (v := nI (1)) hx hb dL_law_368 (by decide) ?_
  refine lv_iadd hx hb dL_law_369 ?_
  refine rt_i (y := nI (i + 1)) (nn_add (i) (1)) ?_
  refine sc_ld (k := i + 1) (x := nI (t)) hx hb hX hsc hS (by omega) hLb hA1 dL_law_370 ?_
  refine lv_aload_n hx hb dL_law_371 rfl (lv_at hl 0 rfl) ?_
  refine lv_iload hx hb dL_law_372 (lv_at hl 4 rfl) ?_
  refine lv_iconst (v := nI (2)) hx hb dL_law_374 (by decide) ?_
  refine lv_iadd hx hb dL_law_375 ?_
  refine rt_i (y := nI (i + 2)) (nn_add (i) (2)) ?_
  refine sc_ld (k := i + 2) (x := nI (x)) hx hb hX hsc hS (by omega) hLb hA2 dL_law_376 ?_
  refine lv_aload_n hx hb dL_law_377 rfl (lv_at hl 0 rfl) ?_
  refine lv_iload hx hb dL_law_378 (lv_at hl 4 rfl) ?_
  refine lv_iconst (v := nI (3)) hx hb dL_law_380 (by decide) ?_
  refine lv_iadd hx hb dL_law_381 ?_
  refine rt_i (y := nI (i + 3)) (nn_add (i) (3)) ?_
  refine sc_ld (k := i + 3) (x := nI (y)) hx hb hX hsc hS (by omega) hLb hA3 dL_law_382 ?_
  refine lv_aload_n hx hb dL_law_383 rfl (lv_at hl 3 rfl) ?_
  refine wx_L (X := wM cI cZ b w) (Y := []) (wo := wS cI cL a v ++ wO cL o f) (wo' := wS cI cL a (sPar v t x y) ++ wO cL o (va_up f 0 (lI (((sPn v) : Nat) : Int)))) (As := [.ref (a 0), .int (nI (t)), .int (nI (x)), .int (nI (y)), .ref o]) (rest := []) (hh := [(0, 12, 15, 21), (0, 12, 19, 13), (0, 12, 23, 15)]) hx hb hml hown hts hE hN (c_L_part_0 l dC dI cI cL cZ a v o f t x y hv ht hx9 hy9 hc hd he) (vx_cwSW 5 hts gL_law_L_part rfl rfl rfl (by decide +kernel) ⟨Nat.le_of_ble_eq_true rfl, Nat.le_of_ble_eq_true rfl⟩) hK hP hD hS rfl rfl hl.1 rfl (Nat.le_of_ble_eq_true rfl) dL_law_384 ⟨(show cells + 0 ≤ 1054 by omega), (show slots + 0 ≤ 10461 by omega)⟩ (fun H locs hP hD hS => ?_)
  have hP : va_P (dC, dI) vwCl (TW cI cL cZ a b o (sPar v t x y) w (va_up f 0 (lI (((sPn v) : Nat) : Int)))) H := hP
  have hD : va_D (nwA s) (TW cI cL cZ a b o (sPar v t x y) w (va_up f 0 (lI (((sPn v) : Nat) : Int)))) := hD
  refine W.eq (g2 := F0 m 387 ls [.int (nI (0))]) rfl ?_
  refine lv_istore (lv' := [(5, .int (nI (0))), (0, .ref sc), (1, .ref (a 0)), (2, .ref (b 0)), (3, .ref o), (4, .int (nI (i)))]) hx hb dL_law_387 hl (by decide) rfl (fun ls hl => ?_)
  refine lv_aload_n hx hb dL_law_389 rfl (lv_at hl 3 rfl) ?_
  refine lv_aload_n hx hb dL_law_390 rfl (lv_at hl 1 rfl) ?_
  refine lv_iload hx hb dL_law_391 (lv_at hl 5 rfl) ?_
  refine lv_iconst (v := nI (1)) hx hb dL_law_393 (by decide) ?_
  refine lv_iadd hx hb dL_law_394 ?_
  refine rt_i (y := nI (i + 1)) (nn_add (i) (1)) ?_
  refine sc_ld (k := i + 1) (x := nI (t)) hx hb hX hsc hS (by omega) hLb hA1 dL_law_395 ?_
  refine lv_aload_n hx hb dL_law_396 rfl (lv_at hl 1 rfl) ?_
  refine lv_iload hx hb dL_law_397 (lv_at hl 5 rfl) ?_
  refine lv_iconst (v := nI (2)) hx hb dL_law_399 (by decide) ?_
  refine lv_iadd hx hb dL_law_400 ?_
  refine rt_i (y := nI (i + 2)) (nn_add (i) (2)) ?_
  refine sc_ld (k := i + 2) (x := nI (x)) hx hb hX hsc hS (by omega) hLb hA2 dL_law_401 ?_
  refine lv_aload_n hx hb dL_law_402 rfl (lv_at hl 1 rfl) ?_
  refine lv_iload hx hb dL_law_403 (lv_at hl 5 rfl) ?_
  refine lv_iconst (v := nI (3)) hx hb dL_law_405 (by decide) ?_
  refine lv_iadd hx hb dL_law_406 ?_
  refine rt_i (y := nI (i + 3)) (nn_add (i) (3)) ?_
  refine sc_ld (k := i + 3) (x := nI (y)) hx hb hX hsc hS (by omega) hLb hA3 dL_law_407 ?_
  refine wx_V (X := []) (Y := wS cI cL a (sPar v t x y) ++ wO cL o (va_up f 0 (lI (((sPn v) : Nat) : Int)))) (wo := wM cI cZ b w) (wo' := wM cI cZ b (mPar (mThx w (nI 0)) t x y)) (As := [.int (nI (t)), .int (nI (x)), .int (nI (y))]) (rest := []) (q0 := 0) (ci := 3) hx hb hml hown hts (c_X3_part_0 l dC dI cI cL cZ b w t x y r_hv ht hx9 hy9 r_hc r_hd r_he) (cwV 3 hts gL_law_X3_part rfl rfl rfl (by decide +kernel) ⟨Nat.le_of_ble_eq_true rfl, Nat.le_of_ble_eq_true rfl⟩) hK hP hD hS rfl rfl rfl rfl hl.1 rfl (Nat.le_of_ble_eq_true rfl) dL_law_408 ⟨(show cells ≤ 1054 by omega), (show slots ≤ 10461 by omega)⟩ (fun H locs hP hD hS => ?_)
  have hP : va_P (dC, dI) vwCl (TW cI cL cZ a b o (sPar v t x y) (mPar (mThx w (nI 0)) t x y) (va_up f 0 (lI (((sPn v) : Nat) : Int)))) H := hP
  have hD : va_D (nwA s) (TW cI cL cZ a b o (sPar v t x y) (mPar (mThx w (nI 0)) t x y) (va_up f 0 (lI (((sPn v) : Nat) : Int)))) := hD
  refine W.eq (g2 := F0 m 411 ls [.int (nI (mPn (mThx w (nI 0))))]) rfl ?_
  refine lv_istore (lv' := [(6, .int (nI (mPn (mThx w (nI 0))))), (5, .int (nI (0))), (0, .ref sc), (1, .ref (a 0)), (2, .ref (b 0)), (3, .ref o), (4, .int (nI (i)))]) hx hb dL_law_411 hl (by decide) rfl (fun ls hl => ?_)
  refine lv_aload_n hx hb dL_law_413 rfl (lv_at hl 4 rfl) ?_
  refine ro_V (wo := wM cI cZ b (mPar (mThx w (nI 0)) t x y)) (As := []) (rest := []) (q0 := 0) (ci := 3) hx hb hml hown hts (c_X3_thrown l dC dI cI cL cZ b (mPar (mThx w (nI 0)) t x y)  ) (cwV 0 hts gL_law_X3_thrown rfl rfl rfl (by decide +kernel) ⟨Nat.le_of_ble_eq_true rfl, Nat.le_of_ble_eq_true rfl⟩) hK (pj_sub (X := []) (Y := wS cI cL a (sPar v t x y) ++ wO cL o (va_up f 0 (lI (((sPn v) : Nat) : Int)))) hP) rfl rfl rfl hl.1 rfl (Nat.le_of_ble_eq_true rfl) dL_law_414 ⟨(show cells ≤ 1054 by omega), (show slots ≤ 10461 by omega)⟩ ?_
  refine W.eq (g2 := F0 m 417 ls [.int (nI (0))]) rfl ?_
  refine lv_iload hx hb dL_law_417 (lv_at hl 1 rfl) ?_
  refine lv_icmp_eq (tgt := 424) hx hb dL_law_419 (by decide) (fun _ => ?_) (fun c9 => absurd rfl c9)
  refine lv_iload hx hb dL_law_424 (lv_at hl 1 rfl) ?_
  refine lv_if_ne (tgt := 441) hx hb dL_law_426 (by decide) (fun c9 => absurd (by decide) c9) (fun _ => ?_)
  refine lv_aload_n hx hb dL_law_429 rfl (lv_at hl 5 rfl) ?_
  refine lv_iconst (v := nI (0)) hx hb dL_law_430 (by decide) ?_
  refine la_ld (k := 0) hx hb hK hP 15 1 rfl rfl (by decide) (by decide) dL_law_431 ?_
  refine rt_l (y := lI (((sPn v) : Nat) : Int)) rfl ?_
  refine lv_iload hx hb dL_law_432 (lv_at hl 0 rfl) ?_
  refine lv_i2l (v := lI (((mPn (mThx w (nI 0))) : Nat) : Int)) hx hb dL_law_434 (nzI_l hbd) ?_
  refine rt_l (y := lI (((sPn v) : Nat) : Int)) (by rw [heq]) ?_
  refine W.lcmp hx hb dL_law_435 ?_
  refine lv_if_eq (tgt := 441) hx hb dL_law_436 (by decide) (fun _ => ?_) (fun c9 => absurd (lg_self _) c9)
  refine lv_goto (tgt := 886) hx hb dL_law_441 (by decide) ?_
  refine W.widen (Nat.le_add_right cells 1) (Nat.le_add_right slots 6) ?_
  exact kk ls H locs _ (lv_sub hl [2, 3, 4, 5, 6] rfl) hP hD hS
set_option maxHeartbeats 4000000 in
set_option maxRecDepth 100000 in
theorem lk_part_1 (CX : LX p l s m meth c args dC dI cI cL cZ sc L xs) (v : SV) (w : MV) (i : Nat) (hi : i + 4 ≤ L) (hl : lv_has ls 7 [(0, .ref sc), (1, .ref (a 0)), (2, .ref (b 0)), (3, .ref o), (4, .int (nI (i)))]) (hP : va_P (dC, dI) vwCl (TW cI cL cZ a b o v w f) H) (hD : va_D (nwA s) (TW cI cL cZ a b o v w f)) (hS : va_S (nwA s) s.heap H locs) (hcl : cells + 1 ≤ 1054 ∧ slots + 6 ≤ 10461) (t x y : Int32) (hA1 : xs (i + 1) = t) (hA2 : xs (i + 2) = x) (hA3 : xs (i + 3) = y) (hv : okS v) (hc : thB (sTh v) (sTn v) t = false) (r_hv : okM w) (r_hc : mth w t = false)
    (kk : ∀ (ls1 : Array Slot) (H1 : Heap) (locs1 : List Loc) (f1 : Nat → Int64), lv_has ls1 7 [(0, .ref sc), (1, .ref (a 0)), (2, .ref (b 0)), (3, .ref o), (4, .int (nI (i)))] → va_P (dC, dI) vwCl (TW cI cL cZ a b o v (mThx w (nI 1)) f1) H1 → va_D (nwA s) (TW cI cL cZ a b o v (mThx w (nI 1)) f1) → va_S (nwA s) s.heap H1 locs1 → W p l e room_1 s m args below meth c H1 locs1 (cells + 1) (slots + 6) Q (F0 m 886 ls1 [])) : W p l e room_1 s m args below meth c H locs cells slots Q (F0 m 364 ls []) := by
  obtain ⟨hx, hb, hml, hown, hts, hX, hsc, hK, hE, hN, hLb, hst⟩ := CX
  refine lv_aload_n hx hb dL_law_364 rfl (lv_at hl 1 rfl) ?_
  refine lv_aload_n hx hb dL_law_365 rfl (lv_at hl 0 rfl) ?_
  refine lv_iload hx hb dL_law_366 (lv_at hl 4 rfl) ?_
  refine lv_iconst (v := nI (1)) hx hb dL_law_368 (by decide) ?_
  refine lv_iadd hx hb dL_law_369 ?_
  refine rt_i (y := nI (i + 1)) (nn_add (i) (1)) ?_
  refine sc_ld (k := i + 1) (x := t) hx hb hX hsc hS (by omega) hLb hA1 dL_law_370 ?_
  refine lv_aload_n hx hb dL_law_371 rfl (lv_at hl 0 rfl) ?_
  refine lv_iload hx hb dL_law_372 (lv_at hl 4 rfl) ?_
  refine lv_iconst (v := nI (2)) hx hb dL_law_374 (by decide) ?_
  refine lv_iadd hx hb dL_law_375 ?_
  refine rt_i (y := nI (i + 2)) (nn_add (i) (2)) ?_
  refine sc_ld (k := i + 2) (x := x) hx hb hX hsc hS (by omega) hLb hA2 dL_law_376 ?_
  refine lv_aload_n hx hb dL_law_377 rfl (lv_at hl 0 rfl) ?_
  refine lv_iload hx hb dL_law_378 (lv_at hl 4 rfl) ?_
  refine lv_iconst (v := nI (3)) hx hb dL_law_380 (by decide) ?_
  refine lv_iadd hx hb dL_law_381 ?_
  refine rt_i (y := nI (i + 3)) (nn_add (i) (3)) ?_
  refine sc_ld (k := i + 3) (x := y) hx hb hX hsc hS (by omega) hLb hA3 dL_law_382 ?_
  refine lv_aload_n hx hb dL_law_383 rfl (lv_at hl 3 rfl) ?_
  refine wx_L (X := wM cI cZ b w) (Y := []) (wo := wS cI cL a v ++ wO cL o f) (wo' := wS cI cL a v ++ wO cL o f) (As := [.ref (a 0), .int (t), .int (x), .int (y), .ref o]) (rest := []) (hh := [(0, 12, 15, 21), (0, 12, 19, 13), (0, 12, 23, 15)]) hx hb hml hown hts hE hN (c_L_part_x1 l hst dC dI cI cL cZ a v o f t x y hv hc) (vx_cwSW 5 hts gL_law_L_part rfl rfl rfl (by decide +kernel) ⟨Nat.le_of_ble_eq_true rfl, Nat.le_of_ble_eq_true rfl⟩) hK hP hD hS rfl rfl hl.1 rfl (Nat.le_of_ble_eq_true rfl) dL_law_384 ⟨(show cells + 1 ≤ 1054 by omega), (show slots + 6 ≤ 10461 by omega)⟩ (fun H locs hP hD hS => ?_)
  have hP : va_P (dC, dI) vwCl (TW cI cL cZ a b o v w f) H := hP
  have hD : va_D (nwA s) (TW cI cL cZ a b o v w f) := hD
  refine W.eq (g2 := F0 m 387 ls [.int (nI (1))]) rfl ?_
  refine lv_istore (lv' := [(5, .int (nI (1))), (0, .ref sc), (1, .ref (a 0)), (2, .ref (b 0)), (3, .ref o), (4, .int (nI (i)))]) hx hb dL_law_387 hl (by decide) rfl (fun ls hl => ?_)
  refine lv_aload_n hx hb dL_law_389 rfl (lv_at hl 3 rfl) ?_
  refine lv_aload_n hx hb dL_law_390 rfl (lv_at hl 1 rfl) ?_
  refine lv_iload hx hb dL_law_391 (lv_at hl 5 rfl) ?_
  refine lv_iconst (v := nI (1)) hx hb dL_law_393 (by decide) ?_
  refine lv_iadd hx hb dL_law_394 ?_
  refine rt_i (y := nI (i + 1)) (nn_add (i) (1)) ?_
  refine sc_ld (k := i + 1) (x := t) hx hb hX hsc hS (by omega) hLb hA1 dL_law_395 ?_
  refine lv_aload_n hx hb dL_law_396 rfl (lv_at hl 1 rfl) ?_
  refine lv_iload hx hb dL_law_397 (lv_at hl 5 rfl) ?_
  refine lv_iconst (v := nI (2)) hx hb dL_law_399 (by decide) ?_
  refine lv_iadd hx hb dL_law_400 ?_
  refine rt_i (y := nI (i + 2)) (nn_add (i) (2)) ?_
  refine sc_ld (k := i + 2) (x := x) hx hb hX hsc hS (by omega) hLb hA2 dL_law_401 ?_
  refine lv_aload_n hx hb dL_law_402 rfl (lv_at hl 1 rfl) ?_
  refine lv_iload hx hb dL_law_403 (lv_at hl 5 rfl) ?_
  refine lv_iconst (v := nI (3)) hx hb dL_law_405 (by decide) ?_
  refine lv_iadd hx hb dL_law_406 ?_
  refine rt_i (y := nI (i + 3)) (nn_add (i) (3)) ?_
  refine sc_ld (k := i + 3) (x := y) hx hb hX hsc hS (by omega) hLb hA3 dL_law_407 ?_
  refine wx_V (X := []) (Y := wS cI cL a v ++ wO cL o f) (wo := wM cI cZ b w) (wo' := wM cI cZ b (mThx w (nI 1))) (As := [.int (t), .int (x), .int (y)]) (rest := []) (q0 := 0) (ci := 3) hx hb hml hown hts (c_X3_part_1 l dC dI cI cL cZ b w t x y r_hv r_hc) (cwV 3 hts gL_law_X3_part rfl rfl rfl (by decide +kernel) ⟨Nat.le_of_ble_eq_true rfl, Nat.le_of_ble_eq_true rfl⟩) hK hP hD hS rfl rfl rfl rfl hl.1 rfl (Nat.le_of_ble_eq_true rfl) dL_law_408 ⟨(show cells + 1 ≤ 1054 by omega), (show slots + 6 ≤ 10461 by omega)⟩ (fun H locs hP hD hS => ?_)
  have hP : va_P (dC, dI) vwCl (TW cI cL cZ a b o v (mThx w (nI 1)) f) H := hP
  have hD : va_D (nwA s) (TW cI cL cZ a b o v (mThx w (nI 1)) f) := hD
  refine W.eq (g2 := F0 m 411 ls [.int (nI (0))]) rfl ?_
  refine lv_istore (lv' := [(6, .int (nI (0))), (5, .int (nI (1))), (0, .ref sc), (1, .ref (a 0)), (2, .ref (b 0)), (3, .ref o), (4, .int (nI (i)))]) hx hb dL_law_411 hl (by decide) rfl (fun ls hl => ?_)
  refine lv_aload_n hx hb dL_law_413 rfl (lv_at hl 4 rfl) ?_
  refine ro_V (wo := wM cI cZ b (mThx w (nI 1))) (As := []) (rest := []) (q0 := 0) (ci := 3) hx hb hml hown hts (c_X3_thrown l dC dI cI cL cZ b (mThx w (nI 1))  ) (cwV 0 hts gL_law_X3_thrown rfl rfl rfl (by decide +kernel) ⟨Nat.le_of_ble_eq_true rfl, Nat.le_of_ble_eq_true rfl⟩) hK (pj_sub (X := []) (Y := wS cI cL a v ++ wO cL o f) hP) rfl rfl rfl hl.1 rfl (Nat.le_of_ble_eq_true rfl) dL_law_414 ⟨(show cells + 1 ≤ 1054 by omega), (show slots + 6 ≤ 10461 by omega)⟩ ?_
  refine W.eq (g2 := F0 m 417 ls [.int (nI (1))]) rfl ?_
  refine lv_iload hx hb dL_law_417 (lv_at hl 1 rfl) ?_
  refine lv_icmp_eq (tgt := 424) hx hb dL_law_419 (by decide) (fun _ => ?_) (fun c9 => absurd rfl c9)
  refine lv_iload hx hb dL_law_424 (lv_at hl 1 rfl) ?_
  refine lv_if_ne (tgt := 441) hx hb dL_law_426 (by decide) (fun _ => ?_) (fun c9 => absurd c9 (by decide))
  refine lv_goto (tgt := 886) hx hb dL_law_441 (by decide) ?_
  exact kk ls H locs _ (lv_sub hl [2, 3, 4, 5, 6] rfl) hP hD hS
set_option maxHeartbeats 4000000 in
set_option maxRecDepth 100000 in
theorem lk_part_2 (CX : LX p l s m meth c args dC dI cI cL cZ sc L xs) (v : SV) (w : MV) (i : Nat) (hi : i + 4 ≤ L) (hl : lv_has ls 7 [(0, .ref sc), (1, .ref (a 0)), (2, .ref (b 0)), (3, .ref o), (4, .int (nI (i)))]) (hP : va_P (dC, dI) vwCl (TW cI cL cZ a b o v w f) H) (hD : va_D (nwA s) (TW cI cL cZ a b o v w f)) (hS : va_S (nwA s) s.heap H locs) (hcl : cells + 1 ≤ 1054 ∧ slots + 6 ≤ 10461) (t : Nat) (x y : Int32) (hA1 : xs (i + 1) = nI (t)) (hA2 : xs (i + 2) = x) (hA3 : xs (i + 3) = y) (hv : okS v) (ht : thB (sTh v) (sTn v) (nI (t)) = true) (hc : (inB x 512 && inB y 512) = false) (r_hv : okM w) (r_ht : t < 200) (r_hc : mth (mThx w (nI 0)) (nI t) = true) (r_hd : ((inB x 512 && inB y 512) && wit (mThx w (nI 0)).1 t x.toInt y.toInt) = false)
    (kk : ∀ (ls1 : Array Slot) (H1 : Heap) (locs1 : List Loc) (f1 : Nat → Int64), lv_has ls1 7 [(0, .ref sc), (1, .ref (a 0)), (2, .ref (b 0)), (3, .ref o), (4, .int (nI (i)))] → va_P (dC, dI) vwCl (TW cI cL cZ a b o v (mThx (mThx w (nI 0)) (nI 2)) f1) H1 → va_D (nwA s) (TW cI cL cZ a b o v (mThx (mThx w (nI 0)) (nI 2)) f1) → va_S (nwA s) s.heap H1 locs1 → W p l e room_1 s m args below meth c H1 locs1 (cells + 1) (slots + 6) Q (F0 m 886 ls1 [])) : W p l e room_1 s m args below meth c H locs cells slots Q (F0 m 364 ls []) := by
  obtain ⟨hx, hb, hml, hown, hts, hX, hsc, hK, hE, hN, hLb, hst⟩ := CX
  refine lv_aload_n hx hb dL_law_364 rfl (lv_at hl 1 rfl) ?_
  refine lv_aload_n hx hb dL_law_365 rfl (lv_at hl 0 rfl) ?_
  refine lv_iload hx hb dL_law_366 (lv_at hl 4 rfl) ?_
  refine lv_iconst (v := nI (1)) hx hb dL_law_368 (by decide) ?_
  refine lv_iadd hx hb dL_law_369 ?_
  refine rt_i (y := nI (i + 1)) (nn_add (i) (1)) ?_
  refine sc_ld (k := i + 1) (x := nI (t)) hx hb hX hsc hS (by omega) hLb hA1 dL_law_370 ?_
  refine lv_aload_n hx hb dL_law_371 rfl (lv_at hl 0 rfl) ?_
  refine lv_iload hx hb dL_law_372 (lv_at hl 4 rfl) ?_
  refine lv_iconst (v := nI (2)) hx hb dL_law_374 (by decide) ?_
  refine lv_iadd hx hb dL_law_375 ?_
  refine rt_i (y := nI (i + 2)) (nn_add (i) (2)) ?_
  refine sc_ld (k := i + 2) (x := x) hx hb hX hsc hS (by omega) hLb hA2 dL_law_376 ?_
  refine lv_aload_n hx hb dL_law_377 rfl (lv_at hl 0 rfl) ?_
  refine lv_iload hx hb dL_law_378 (lv_at hl 4 rfl) ?_
  refine lv_iconst (v := nI (3)) hx hb dL_law_380 (by decide) ?_
  refine lv_iadd hx hb dL_law_381 ?_
  refine rt_i (y := nI (i + 3)) (nn_add (i) (3)) ?_
  refine sc_ld (k := i + 3) (x := y) hx hb hX hsc hS (by omega) hLb hA3 dL_law_382 ?_
  refine lv_aload_n hx hb dL_law_383 rfl (lv_at hl 3 rfl) ?_
  refine wx_L (X := wM cI cZ b w) (Y := []) (wo := wS cI cL a v ++ wO cL o f) (wo' := wS cI cL a v ++ wO cL o f) (As := [.ref (a 0), .int (nI (t)), .int (x), .int (y), .ref o]) (rest := []) (hh := [(0, 12, 15, 21), (0, 12, 19, 13), (0, 12, 23, 15)]) hx hb hml hown hts hE hN (c_L_part_x2 l hst dC dI cI cL cZ a v o f (nI (t)) x y hv ht hc) (vx_cwSW 5 hts gL_law_L_part rfl rfl rfl (by decide +kernel) ⟨Nat.le_of_ble_eq_true rfl, Nat.le_of_ble_eq_true rfl⟩) hK hP hD hS rfl rfl hl.1 rfl (Nat.le_of_ble_eq_true rfl) dL_law_384 ⟨(show cells + 1 ≤ 1054 by omega), (show slots + 6 ≤ 10461 by omega)⟩ (fun H locs hP hD hS => ?_)
  have hP : va_P (dC, dI) vwCl (TW cI cL cZ a b o v w f) H := hP
  have hD : va_D (nwA s) (TW cI cL cZ a b o v w f) := hD
  refine W.eq (g2 := F0 m 387 ls [.int (nI (2))]) rfl ?_
  refine lv_istore (lv' := [(5, .int (nI (2))), (0, .ref sc), (1, .ref (a 0)), (2, .ref (b 0)), (3, .ref o), (4, .int (nI (i)))]) hx hb dL_law_387 hl (by decide) rfl (fun ls hl => ?_)
  refine lv_aload_n hx hb dL_law_389 rfl (lv_at hl 3 rfl) ?_
  refine lv_aload_n hx hb dL_law_390 rfl (lv_at hl 1 rfl) ?_
  refine lv_iload hx hb dL_law_391 (lv_at hl 5 rfl) ?_
  refine lv_iconst (v := nI (1)) hx hb dL_law_393 (by decide) ?_
  refine lv_iadd hx hb dL_law_394 ?_
  refine rt_i (y := nI (i + 1)) (nn_add (i) (1)) ?_
  refine sc_ld (k := i + 1) (x := nI (t)) hx hb hX hsc hS (by omega) hLb hA1 dL_law_395 ?_
  refine lv_aload_n hx hb dL_law_396 rfl (lv_at hl 1 rfl) ?_
  refine lv_iload hx hb dL_law_397 (lv_at hl 5 rfl) ?_
  refine lv_iconst (v := nI (2)) hx hb dL_law_399 (by decide) ?_
  refine lv_iadd hx hb dL_law_400 ?_
  refine rt_i (y := nI (i + 2)) (nn_add (i) (2)) ?_
  refine sc_ld (k := i + 2) (x := x) hx hb hX hsc hS (by omega) hLb hA2 dL_law_401 ?_
  refine lv_aload_n hx hb dL_law_402 rfl (lv_at hl 1 rfl) ?_
  refine lv_iload hx hb dL_law_403 (lv_at hl 5 rfl) ?_
  refine lv_iconst (v := nI (3)) hx hb dL_law_405 (by decide) ?_
  refine lv_iadd hx hb dL_law_406 ?_
  refine rt_i (y := nI (i + 3)) (nn_add (i) (3)) ?_
  refine sc_ld (k := i + 3) (x := y) hx hb hX hsc hS (by omega) hLb hA3 dL_law_407 ?_
  refine wx_V (X := []) (Y := wS cI cL a v ++ wO cL o f) (wo := wM cI cZ b w) (wo' := wM cI cZ b (mThx (mThx w (nI 0)) (nI 2))) (As := [.int (nI (t)), .int (x), .int (y)]) (rest := []) (q0 := 0) (ci := 3) hx hb hml hown hts (c_X3_part_2 l dC dI cI cL cZ b w t x y r_hv r_ht r_hc r_hd) (cwV 3 hts gL_law_X3_part rfl rfl rfl (by decide +kernel) ⟨Nat.le_of_ble_eq_true rfl, Nat.le_of_ble_eq_true rfl⟩) hK hP hD hS rfl rfl rfl rfl hl.1 rfl (Nat.le_of_ble_eq_true rfl) dL_law_408 ⟨(show cells + 1 ≤ 1054 by omega), (show slots + 6 ≤ 10461 by omega)⟩ (fun H locs hP hD hS => ?_)
  have hP : va_P (dC, dI) vwCl (TW cI cL cZ a b o v (mThx (mThx w (nI 0)) (nI 2)) f) H := hP
  have hD : va_D (nwA s) (TW cI cL cZ a b o v (mThx (mThx w (nI 0)) (nI 2)) f) := hD
  refine W.eq (g2 := F0 m 411 ls [.int (nI (0))]) rfl ?_
  refine lv_istore (lv' := [(6, .int (nI (0))), (5, .int (nI (2))), (0, .ref sc), (1, .ref (a 0)), (2, .ref (b 0)), (3, .ref o), (4, .int (nI (i)))]) hx hb dL_law_411 hl (by decide) rfl (fun ls hl => ?_)
  refine lv_aload_n hx hb dL_law_413 rfl (lv_at hl 4 rfl) ?_
  refine ro_V (wo := wM cI cZ b (mThx (mThx w (nI 0)) (nI 2))) (As := []) (rest := []) (q0 := 0) (ci := 3) hx hb hml hown hts (c_X3_thrown l dC dI cI cL cZ b (mThx (mThx w (nI 0)) (nI 2))  ) (cwV 0 hts gL_law_X3_thrown rfl rfl rfl (by decide +kernel) ⟨Nat.le_of_ble_eq_true rfl, Nat.le_of_ble_eq_true rfl⟩) hK (pj_sub (X := []) (Y := wS cI cL a v ++ wO cL o f) hP) rfl rfl rfl hl.1 rfl (Nat.le_of_ble_eq_true rfl) dL_law_414 ⟨(show cells + 1 ≤ 1054 by omega), (show slots + 6 ≤ 10461 by omega)⟩ ?_
  refine W.eq (g2 := F0 m 417 ls [.int (nI (2))]) rfl ?_
  refine lv_iload hx hb dL_law_417 (lv_at hl 1 rfl) ?_
  refine lv_icmp_eq (tgt := 424) hx hb dL_law_419 (by decide) (fun _ => ?_) (fun c9 => absurd rfl c9)
  refine lv_iload hx hb dL_law_424 (lv_at hl 1 rfl) ?_
  refine lv_if_ne (tgt := 441) hx hb dL_law_426 (by decide) (fun _ => ?_) (fun c9 => absurd c9 (by decide))
  refine lv_goto (tgt := 886) hx hb dL_law_441 (by decide) ?_
  exact kk ls H locs _ (lv_sub hl [2, 3, 4, 5, 6] rfl) hP hD hS
set_option maxHeartbeats 4000000 in
set_option maxRecDepth 100000 in
theorem lk_part_2b (CX : LX p l s m meth c args dC dI cI cL cZ sc L xs) (v : SV) (w : MV) (i : Nat) (hi : i + 4 ≤ L) (hl : lv_has ls 7 [(0, .ref sc), (1, .ref (a 0)), (2, .ref (b 0)), (3, .ref o), (4, .int (nI (i)))]) (hP : va_P (dC, dI) vwCl (TW cI cL cZ a b o v w f) H) (hD : va_D (nwA s) (TW cI cL cZ a b o v w f)) (hS : va_S (nwA s) s.heap H locs) (hcl : cells + 1 ≤ 1054 ∧ slots + 6 ≤ 10461) (t x y : Nat) (hA1 : xs (i + 1) = nI (t)) (hA2 : xs (i + 2) = nI (x)) (hA3 : xs (i + 3) = nI (y)) (hv : okS v) (ht : t < 200) (hx9 : x < 512) (hy9 : y < 512) (hc : thB (sTh v) (sTn v) (nI t) = true) (hd : wit v.1 t (x : Int) (y : Int) = false) (r_hv : okM w) (r_hc : mth (mThx w (nI 0)) (nI t) = true) (r_hd : ((inB (nI (x)) 512 && inB (nI (y)) 512) && wit (mThx w (nI 0)).1 t (nI (x)).toInt (nI (y)).toInt) = false)
    (kk : ∀ (ls1 : Array Slot) (H1 : Heap) (locs1 : List Loc) (f1 : Nat → Int64), lv_has ls1 7 [(0, .ref sc), (1, .ref (a 0)), (2, .ref (b 0)), (3, .ref o), (4, .int (nI (i)))] → va_P (dC, dI) vwCl (TW cI cL cZ a b o v (mThx (mThx w (nI 0)) (nI 2)) f1) H1 → va_D (nwA s) (TW cI cL cZ a b o v (mThx (mThx w (nI 0)) (nI 2)) f1) → va_S (nwA s) s.heap H1 locs1 → W p l e room_1 s m args below meth c H1 locs1 (cells + 1) (slots + 6) Q (F0 m 886 ls1 [])) : W p l e room_1 s m args below meth c H locs cells slots Q (F0 m 364 ls []) := by
  obtain ⟨hx, hb, hml, hown, hts, hX, hsc, hK, hE, hN, hLb, hst⟩ := CX
  refine lv_aload_n hx hb dL_law_364 rfl (lv_at hl 1 rfl) ?_
  refine lv_aload_n hx hb dL_law_365 rfl (lv_at hl 0 rfl) ?_
  refine lv_iload hx hb dL_law_366 (lv_at hl 4 rfl) ?_
  refine lv_iconst (v := nI (1)) hx hb dL_law_368 (by decide) ?_
  refine lv_iadd hx hb dL_law_369 ?_
  refine rt_i (y := nI (i + 1)) (nn_add (i) (1)) ?_
  refine sc_ld (k := i + 1) (x := nI (t)) hx hb hX hsc hS (by omega) hLb hA1 dL_law_370 ?_
  refine lv_aload_n hx hb dL_law_371 rfl (lv_at hl 0 rfl) ?_
  refine lv_iload hx hb dL_law_372 (lv_at hl 4 rfl) ?_
  refine lv_iconst (v := nI (2)) hx hb dL_law_374 (by decide) ?_
  refine lv_iadd hx hb dL_law_375 ?_
  refine rt_i (y := nI (i + 2)) (nn_add (i) (2)) ?_
  refine sc_ld (k := i + 2) (x := nI (x)) hx hb hX hsc hS (by omega) hLb hA2 dL_law_376 ?_
  refine lv_aload_n hx hb dL_law_377 rfl (lv_at hl 0 rfl) ?_
  refine lv_iload hx hb dL_law_378 (lv_at hl 4 rfl) ?_
  refine lv_iconst (v := nI (3)) hx hb dL_law_380 (by decide) ?_
  refine lv_iadd hx hb dL_law_381 ?_
  refine rt_i (y := nI (i + 3)) (nn_add (i) (3)) ?_
  refine sc_ld (k := i + 3) (x := nI (y)) hx hb hX hsc hS (by omega) hLb hA3 dL_law_382 ?_
  refine lv_aload_n hx hb dL_law_383 rfl (lv_at hl 3 rfl) ?_
  refine wx_L (X := wM cI cZ b w) (Y := []) (wo := wS cI cL a v ++ wO cL o f) (wo' := wS cI cL a v ++ wO cL o f) (As := [.ref (a 0), .int (nI (t)), .int (nI (x)), .int (nI (y)), .ref o]) (rest := []) (hh := [(0, 12, 15, 21), (0, 12, 19, 13), (0, 12, 23, 15)]) hx hb hml hown hts hE hN (c_L_part_x2b l hst dC dI cI cL cZ a v o f t x y hv ht hx9 hy9 hc hd) (vx_cwSW 5 hts gL_law_L_part rfl rfl rfl (by decide +kernel) ⟨Nat.le_of_ble_eq_true rfl, Nat.le_of_ble_eq_true rfl⟩) hK hP hD hS rfl rfl hl.1 rfl (Nat.le_of_ble_eq_true rfl) dL_law_384 ⟨(show cells + 1 ≤ 1054 by omega), (show slots + 6 ≤ 10461 by omega)⟩ (fun H locs hP hD hS => ?_)
  have hP : va_P (dC, dI) vwCl (TW cI cL cZ a b o v w f) H := hP
  have hD : va_D (nwA s) (TW cI cL cZ a b o v w f) := hD
  refine W.eq (g2 := F0 m 387 ls [.int (nI (2))]) rfl ?_
  refine lv_istore (lv' := [(5, .int (nI (2))), (0, .ref sc), (1, .ref (a 0)), (2, .ref (b 0)), (3, .ref o), (4, .int (nI (i)))]) hx hb dL_law_387 hl (by decide) rfl (fun ls hl => ?_)
  refine lv_aload_n hx hb dL_law_389 rfl (lv_at hl 3 rfl) ?_
  refine lv_aload_n hx hb dL_law_390 rfl (lv_at hl 1 rfl) ?_
  refine lv_iload hx hb dL_law_391 (lv_at hl 5 rfl) ?_
  refine lv_iconst (v := nI (1)) hx hb dL_law_393 (by decide) ?_
  refine lv_iadd hx hb dL_law_394 ?_
  refine rt_i (y := nI (i + 1)) (nn_add (i) (1)) ?_
  refine sc_ld (k := i + 1) (x := nI (t)) hx hb hX hsc hS (by omega) hLb hA1 dL_law_395 ?_
  refine lv_aload_n hx hb dL_law_396 rfl (lv_at hl 1 rfl) ?_
  refine lv_iload hx hb dL_law_397 (lv_at hl 5 rfl) ?_
  refine lv_iconst (v := nI (2)) hx hb dL_law_399 (by decide) ?_
  refine lv_iadd hx hb dL_law_400 ?_
  refine rt_i (y := nI (i + 2)) (nn_add (i) (2)) ?_
  refine sc_ld (k := i + 2) (x := nI (x)) hx hb hX hsc hS (by omega) hLb hA2 dL_law_401 ?_
  refine lv_aload_n hx hb dL_law_402 rfl (lv_at hl 1 rfl) ?_
  refine lv_iload hx hb dL_law_403 (lv_at hl 5 rfl) ?_
  refine lv_iconst (v := nI (3)) hx hb dL_law_405 (by decide) ?_
  refine lv_iadd hx hb dL_law_406 ?_
  refine rt_i (y := nI (i + 3)) (nn_add (i) (3)) ?_
  refine sc_ld (k := i + 3) (x := nI (y)) hx hb hX hsc hS (by omega) hLb hA3 dL_law_407 ?_
  refine wx_V (X := []) (Y := wS cI cL a v ++ wO cL o f) (wo := wM cI cZ b w) (wo' := wM cI cZ b (mThx (mThx w (nI 0)) (nI 2))) (As := [.int (nI (t)), .int (nI (x)), .int (nI (y))]) (rest := []) (q0 := 0) (ci := 3) hx hb hml hown hts (c_X3_part_2 l dC dI cI cL cZ b w t (nI (x)) (nI (y)) r_hv ht r_hc r_hd) (cwV 3 hts gL_law_X3_part rfl rfl rfl (by decide +kernel) ⟨Nat.le_of_ble_eq_true rfl, Nat.le_of_ble_eq_true rfl⟩) hK hP hD hS rfl rfl rfl rfl hl.1 rfl (Nat.le_of_ble_eq_true rfl) dL_law_408 ⟨(show cells + 1 ≤ 1054 by omega), (show slots + 6 ≤ 10461 by omega)⟩ (fun H locs hP hD hS => ?_)
  have hP : va_P (dC, dI) vwCl (TW cI cL cZ a b o v (mThx (mThx w (nI 0)) (nI 2)) f) H := hP
  have hD : va_D (nwA s) (TW cI cL cZ a b o v (mThx (mThx w (nI 0)) (nI 2)) f) := hD
  refine W.eq (g2 := F0 m 411 ls [.int (nI (0))]) rfl ?_
  refine lv_istore (lv' := [(6, .int (nI (0))), (5, .int (nI (2))), (0, .ref sc), (1, .ref (a 0)), (2, .ref (b 0)), (3, .ref o), (4, .int (nI (i)))]) hx hb dL_law_411 hl (by decide) rfl (fun ls hl => ?_)
  refine lv_aload_n hx hb dL_law_413 rfl (lv_at hl 4 rfl) ?_
  refine ro_V (wo := wM cI cZ b (mThx (mThx w (nI 0)) (nI 2))) (As := []) (rest := []) (q0 := 0) (ci := 3) hx hb hml hown hts (c_X3_thrown l dC dI cI cL cZ b (mThx (mThx w (nI 0)) (nI 2))  ) (cwV 0 hts gL_law_X3_thrown rfl rfl rfl (by decide +kernel) ⟨Nat.le_of_ble_eq_true rfl, Nat.le_of_ble_eq_true rfl⟩) hK (pj_sub (X := []) (Y := wS cI cL a v ++ wO cL o f) hP) rfl rfl rfl hl.1 rfl (Nat.le_of_ble_eq_true rfl) dL_law_414 ⟨(show cells + 1 ≤ 1054 by omega), (show slots + 6 ≤ 10461 by omega)⟩ ?_
  refine W.eq (g2 := F0 m 417 ls [.int (nI (2))]) rfl ?_
  refine lv_iload hx hb dL_law_417 (lv_at hl 1 rfl) ?_
  refine lv_icmp_eq (tgt := 424) hx hb dL_law_419 (by decide) (fun _ => ?_) (fun c9 => absurd rfl c9)
  refine lv_iload hx hb dL_law_424 (lv_at hl 1 rfl) ?_
  refine lv_if_ne (tgt := 441) hx hb dL_law_426 (by decide) (fun _ => ?_) (fun c9 => absurd c9 (by decide))
  refine lv_goto (tgt := 886) hx hb dL_law_441 (by decide) ?_
  exact kk ls H locs _ (lv_sub hl [2, 3, 4, 5, 6] rfl) hP hD hS
set_option maxHeartbeats 4000000 in
set_option maxRecDepth 100000 in
theorem lk_part_3 (CX : LX p l s m meth c args dC dI cI cL cZ sc L xs) (v : SV) (w : MV) (i : Nat) (hi : i + 4 ≤ L) (hl : lv_has ls 7 [(0, .ref sc), (1, .ref (a 0)), (2, .ref (b 0)), (3, .ref o), (4, .int (nI (i)))]) (hP : va_P (dC, dI) vwCl (TW cI cL cZ a b o v w f) H) (hD : va_D (nwA s) (TW cI cL cZ a b o v w f)) (hS : va_S (nwA s) s.heap H locs) (hcl : cells + 1 ≤ 1054 ∧ slots + 6 ≤ 10461) (t x y : Nat) (hA1 : xs (i + 1) = nI (t)) (hA2 : xs (i + 2) = nI (x)) (hA3 : xs (i + 3) = nI (y)) (hv : okS v) (ht : t < 200) (hx9 : x < 512) (hy9 : y < 512) (hc : thB (sTh v) (sTn v) (nI t) = true) (hd : wit v.1 t (x : Int) (y : Int) = true) (he : ¬ (pAt v.1 (sPn v) (nI x) (nI y) = none ∧ sPn v < 60 ∧ sTn v + 2 ≤ 60 ∧ sTm v + 2 ≤ 200)) (r_hv : okM w) (r_hc : mth (mThx w (nI 0)) (nI t) = true) (r_hd : wit (mThx w (nI 0)).1 t (x : Int) (y : Int) = true) (r_he : pAt (mThx w (nI 0)).1 (mPn (mThx w (nI 0))) (nI x) (nI y) = none → (mPn (mThx w (nI 0)) = 60 ∨ 60 < mTn (mThx w (nI 0)) + 2 ∨ 200 < mTm (mThx w (nI 0)) + 2))
    (kk : ∀ (ls1 : Array Slot) (H1 : Heap) (locs1 : List Loc) (f1 : Nat → Int64), lv_has ls1 7 [(0, .ref sc), (1, .ref (a 0)), (2, .ref (b 0)), (3, .ref o), (4, .int (nI (i)))] → va_P (dC, dI) vwCl (TW cI cL cZ a b o v (mThx (mThx w (nI 0)) (nI 3)) f1) H1 → va_D (nwA s) (TW cI cL cZ a b o v (mThx (mThx w (nI 0)) (nI 3)) f1) → va_S (nwA s) s.heap H1 locs1 → W p l e room_1 s m args below meth c H1 locs1 (cells + 1) (slots + 6) Q (F0 m 886 ls1 [])) : W p l e room_1 s m args below meth c H locs cells slots Q (F0 m 364 ls []) := by
  obtain ⟨hx, hb, hml, hown, hts, hX, hsc, hK, hE, hN, hLb, hst⟩ := CX
  refine lv_aload_n hx hb dL_law_364 rfl (lv_at hl 1 rfl) ?_
  refine lv_aload_n hx hb dL_law_365 rfl (lv_at hl 0 rfl) ?_
  refine lv_iload hx hb dL_law_366 (lv_at hl 4 rfl) ?_
  refine lv_iconst (v := nI (1)) hx hb dL_law_368 (by decide) ?_
  refine lv_iadd hx hb dL_law_369 ?_
  refine rt_i (y := nI (i + 1)) (nn_add (i) (1)) ?_
  refine sc_ld (k := i + 1) (x := nI (t)) hx hb hX hsc hS (by omega) hLb hA1 dL_law_370 ?_
  refine lv_aload_n hx hb dL_law_371 rfl (lv_at hl 0 rfl) ?_
  refine lv_iload hx hb dL_law_372 (lv_at hl 4 rfl) ?_
  refine lv_iconst (v := nI (2)) hx hb dL_law_374 (by decide) ?_
  refine lv_iadd hx hb dL_law_375 ?_
  refine rt_i (y := nI (i + 2)) (nn_add (i) (2)) ?_
  refine sc_ld (k := i + 2) (x := nI (x)) hx hb hX hsc hS (by omega) hLb hA2 dL_law_376 ?_
  refine lv_aload_n hx hb dL_law_377 rfl (lv_at hl 0 rfl) ?_
  refine lv_iload hx hb dL_law_378 (lv_at hl 4 rfl) ?_
  refine lv_iconst (v := nI (3)) hx hb dL_law_380 (by decide) ?_
  refine lv_iadd hx hb dL_law_381 ?_
  refine rt_i (y := nI (i + 3)) (nn_add (i) (3)) ?_
  refine sc_ld (k := i + 3) (x := nI (y)) hx hb hX hsc hS (by omega) hLb hA3 dL_law_382 ?_
  refine lv_aload_n hx hb dL_law_383 rfl (lv_at hl 3 rfl) ?_
  refine wx_L (X := wM cI cZ b w) (Y := []) (wo := wS cI cL a v ++ wO cL o f) (wo' := wS cI cL a v ++ wO cL o f) (As := [.ref (a 0), .int (nI (t)), .int (nI (x)), .int (nI (y)), .ref o]) (rest := []) (hh := [(0, 12, 15, 21), (0, 12, 19, 13), (0, 12, 23, 15)]) hx hb hml hown hts hE hN (c_L_part_x3 l hst dC dI cI cL cZ a v o f t x y hv ht hx9 hy9 hc hd he) (vx_cwSW 5 hts gL_law_L_part rfl rfl rfl (by decide +kernel) ⟨Nat.le_of_ble_eq_true rfl, Nat.le_of_ble_eq_true rfl⟩) hK hP hD hS rfl rfl hl.1 rfl (Nat.le_of_ble_eq_true rfl) dL_law_384 ⟨(show cells + 1 ≤ 1054 by omega), (show slots + 6 ≤ 10461 by omega)⟩ (fun H locs hP hD hS => ?_)
  have hP : va_P (dC, dI) vwCl (TW cI cL cZ a b o v w f) H := hP
  have hD : va_D (nwA s) (TW cI cL cZ a b o v w f) := hD
  refine W.eq (g2 := F0 m 387 ls [.int (nI (3))]) rfl ?_
  refine lv_istore (lv' := [(5, .int (nI (3))), (0, .ref sc), (1, .ref (a 0)), (2, .ref (b 0)), (3, .ref o), (4, .int (nI (i)))]) hx hb dL_law_387 hl (by decide) rfl (fun ls hl => ?_)
  refine lv_aload_n hx hb dL_law_389 rfl (lv_at hl 3 rfl) ?_
  refine lv_aload_n hx hb dL_law_390 rfl (lv_at hl 1 rfl) ?_
  refine lv_iload hx hb dL_law_391 (lv_at hl 5 rfl) ?_
  refine lv_iconst (v := nI (1)) hx hb dL_law_393 (by decide) ?_
  refine lv_iadd hx hb dL_law_394 ?_
  refine rt_i (y := nI (i + 1)) (nn_add (i) (1)) ?_
  refine sc_ld (k := i + 1) (x := nI (t)) hx hb hX hsc hS (by omega) hLb hA1 dL_law_395 ?_
  refine lv_aload_n hx hb dL_law_396 rfl (lv_at hl 1 rfl) ?_
  refine lv_iload hx hb dL_law_397 (lv_at hl 5 rfl) ?_
  refine lv_iconst (v := nI (2)) hx hb dL_law_399 (by decide) ?_
  refine lv_iadd hx hb dL_law_400 ?_
  refine rt_i (y := nI (i + 2)) (nn_add (i) (2)) ?_
  refine sc_ld (k := i + 2) (x := nI (x)) hx hb hX hsc hS (by omega) hLb hA2 dL_law_401 ?_
  refine lv_aload_n hx hb dL_law_402 rfl (lv_at hl 1 rfl) ?_
  refine lv_iload hx hb dL_law_403 (lv_at hl 5 rfl) ?_
  refine lv_iconst (v := nI (3)) hx hb dL_law_405 (by decide) ?_
  refine lv_iadd hx hb dL_law_406 ?_
  refine rt_i (y := nI (i + 3)) (nn_add (i) (3)) ?_
  refine sc_ld (k := i + 3) (x := nI (y)) hx hb hX hsc hS (by omega) hLb hA3 dL_law_407 ?_
  refine wx_V (X := []) (Y := wS cI cL a v ++ wO cL o f) (wo := wM cI cZ b w) (wo' := wM cI cZ b (mThx (mThx w (nI 0)) (nI 3))) (As := [.int (nI (t)), .int (nI (x)), .int (nI (y))]) (rest := []) (q0 := 0) (ci := 3) hx hb hml hown hts (c_X3_part_3 l dC dI cI cL cZ b w t x y r_hv ht hx9 hy9 r_hc r_hd r_he) (cwV 3 hts gL_law_X3_part rfl rfl rfl (by decide +kernel) ⟨Nat.le_of_ble_eq_true rfl, Nat.le_of_ble_eq_true rfl⟩) hK hP hD hS rfl rfl rfl rfl hl.1 rfl (Nat.le_of_ble_eq_true rfl) dL_law_408 ⟨(show cells + 1 ≤ 1054 by omega), (show slots + 6 ≤ 10461 by omega)⟩ (fun H locs hP hD hS => ?_)
  have hP : va_P (dC, dI) vwCl (TW cI cL cZ a b o v (mThx (mThx w (nI 0)) (nI 3)) f) H := hP
  have hD : va_D (nwA s) (TW cI cL cZ a b o v (mThx (mThx w (nI 0)) (nI 3)) f) := hD
  refine W.eq (g2 := F0 m 411 ls [.int (nI (0))]) rfl ?_
  refine lv_istore (lv' := [(6, .int (nI (0))), (5, .int (nI (3))), (0, .ref sc), (1, .ref (a 0)), (2, .ref (b 0)), (3, .ref o), (4, .int (nI (i)))]) hx hb dL_law_411 hl (by decide) rfl (fun ls hl => ?_)
  refine lv_aload_n hx hb dL_law_413 rfl (lv_at hl 4 rfl) ?_
  refine ro_V (wo := wM cI cZ b (mThx (mThx w (nI 0)) (nI 3))) (As := []) (rest := []) (q0 := 0) (ci := 3) hx hb hml hown hts (c_X3_thrown l dC dI cI cL cZ b (mThx (mThx w (nI 0)) (nI 3))  ) (cwV 0 hts gL_law_X3_thrown rfl rfl rfl (by decide +kernel) ⟨Nat.le_of_ble_eq_true rfl, Nat.le_of_ble_eq_true rfl⟩) hK (pj_sub (X := []) (Y := wS cI cL a v ++ wO cL o f) hP) rfl rfl rfl hl.1 rfl (Nat.le_of_ble_eq_true rfl) dL_law_414 ⟨(show cells + 1 ≤ 1054 by omega), (show slots + 6 ≤ 10461 by omega)⟩ ?_
  refine W.eq (g2 := F0 m 417 ls [.int (nI (3))]) rfl ?_
  refine lv_iload hx hb dL_law_417 (lv_at hl 1 rfl) ?_
  refine lv_icmp_eq (tgt := 424) hx hb dL_law_419 (by decide) (fun _ => ?_) (fun c9 => absurd rfl c9)
  refine lv_iload hx hb dL_law_424 (lv_at hl 1 rfl) ?_
  refine lv_if_ne (tgt := 441) hx hb dL_law_426 (by decide) (fun _ => ?_) (fun c9 => absurd c9 (by decide))
  refine lv_goto (tgt := 886) hx hb dL_law_441 (by decide) ?_
  exact kk ls H locs _ (lv_sub hl [2, 3, 4, 5, 6] rfl) hP hD hS
set_option maxHeartbeats 4000000 in
set_option maxRecDepth 100000 in
theorem lk_turn_0 (CX : LX p l s m meth c args dC dI cI cL cZ sc L xs) (v : SV) (w : MV) (i : Nat) (hi : i + 4 ≤ L) (hl : lv_has ls 7 [(0, .ref sc), (1, .ref (a 0)), (2, .ref (b 0)), (3, .ref o), (4, .int (nI (i)))]) (hP : va_P (dC, dI) vwCl (TW cI cL cZ a b o v w f) H) (hD : va_D (nwA s) (TW cI cL cZ a b o v w f)) (hS : va_S (nwA s) s.heap H locs) (hcl : cells + 1 ≤ 1054 ∧ slots + 6 ≤ 10461) (t j : Nat) (hA1 : xs (i + 1) = nI (t)) (hA2 : xs (i + 2) = nI (j)) (hv : okS v) (ht : t < 200) (hj : j < 3) (hc : thB (sTh v) (sTn v) (nI t) = true) (r_hv : okM w) (r_hc : mth w (nI t) = true) (heq : (tuB v.1 (sTh v) (sTn v) t j) = mtB (mThx w (nI 0)) t j)
    (kk : ∀ (ls1 : Array Slot) (H1 : Heap) (locs1 : List Loc) (f1 : Nat → Int64), lv_has ls1 7 [(0, .ref sc), (1, .ref (a 0)), (2, .ref (b 0)), (3, .ref o), (4, .int (nI (i)))] → va_P (dC, dI) vwCl (TW cI cL cZ a b o (tuS v t j) (mtS (mThx w (nI 0)) t j) f1) H1 → va_D (nwA s) (TW cI cL cZ a b o (tuS v t j) (mtS (mThx w (nI 0)) t j) f1) → va_S (nwA s) s.heap H1 locs1 → W p l e room_1 s m args below meth c H1 locs1 (cells + 1) (slots + 6) Q (F0 m 886 ls1 [])) : W p l e room_1 s m args below meth c H locs cells slots Q (F0 m 444 ls []) := by
  obtain ⟨hx, hb, hml, hown, hts, hX, hsc, hK, hE, hN, hLb, hst⟩ := CX
  refine lv_aload_n hx hb dL_law_444 rfl (lv_at hl 1 rfl) ?_
  refine lv_aload_n hx hb dL_law_445 rfl (lv_at hl 0 rfl) ?_
  refine lv_iload hx hb dL_law_446 (lv_at hl 4 rfl) ?_
  refine lv_iconst (v := nI (1)) hx hb dL_law_448 (by decide) ?_
  refine lv_iadd hx hb dL_law_449 ?_
  refine rt_i (y := nI (i + 1)) (nn_add (i) (1)) ?_
  refine sc_ld (k := i + 1) (x := nI (t)) hx hb hX hsc hS (by omega) hLb hA1 dL_law_450 ?_
  refine lv_aload_n hx hb dL_law_451 rfl (lv_at hl 0 rfl) ?_
  refine lv_iload hx hb dL_law_452 (lv_at hl 4 rfl) ?_
  refine lv_iconst (v := nI (2)) hx hb dL_law_454 (by decide) ?_
  refine lv_iadd hx hb dL_law_455 ?_
  refine rt_i (y := nI (i + 2)) (nn_add (i) (2)) ?_
  refine sc_ld (k := i + 2) (x := nI (j)) hx hb hX hsc hS (by omega) hLb hA2 dL_law_456 ?_
  refine lv_aload_n hx hb dL_law_457 rfl (lv_at hl 3 rfl) ?_
  refine wx_L (X := wM cI cZ b w) (Y := []) (wo := wS cI cL a v ++ wO cL o f) (wo' := wS cI cL a (tuS v t j) ++ wO cL o (va_up f 0 (if (tuB v.1 (sTh v) (sTn v) t j) = true then 1 else 0))) (As := [.ref (a 0), .int (nI (t)), .int (nI (j)), .ref o]) (rest := []) (hh := [(0, 17, 20, 21)]) hx hb hml hown hts hE hN (c_L_turn_0 l dC dI cI cL cZ a v o f t j hv ht hj hc) (vx_cwSW 4 hts gL_law_L_turn rfl rfl rfl (by decide +kernel) ⟨Nat.le_of_ble_eq_true rfl, Nat.le_of_ble_eq_true rfl⟩) hK hP hD hS rfl rfl hl.1 rfl (Nat.le_of_ble_eq_true rfl) dL_law_458 ⟨(show cells + 0 ≤ 1054 by omega), (show slots + 0 ≤ 10461 by omega)⟩ (fun H locs hP hD hS => ?_)
  have hP : va_P (dC, dI) vwCl (TW cI cL cZ a b o (tuS v t j) w (va_up f 0 (if (tuB v.1 (sTh v) (sTn v) t j) = true then 1 else 0))) H := hP
  have hD : va_D (nwA s) (TW cI cL cZ a b o (tuS v t j) w (va_up f 0 (if (tuB v.1 (sTh v) (sTn v) t j) = true then 1 else 0))) := hD
  refine W.eq (g2 := F0 m 461 ls [.int (nI (0))]) rfl ?_
  refine lv_istore (lv' := [(5, .int (nI (0))), (0, .ref sc), (1, .ref (a 0)), (2, .ref (b 0)), (3, .ref o), (4, .int (nI (i)))]) hx hb dL_law_461 hl (by decide) rfl (fun ls hl => ?_)
  refine lv_aload_n hx hb dL_law_463 rfl (lv_at hl 3 rfl) ?_
  refine lv_aload_n hx hb dL_law_464 rfl (lv_at hl 1 rfl) ?_
  refine lv_iload hx hb dL_law_465 (lv_at hl 5 rfl) ?_
  refine lv_iconst (v := nI (1)) hx hb dL_law_467 (by decide) ?_
  refine lv_iadd hx hb dL_law_468 ?_
  refine rt_i (y := nI (i + 1)) (nn_add (i) (1)) ?_
  refine sc_ld (k := i + 1) (x := nI (t)) hx hb hX hsc hS (by omega) hLb hA1 dL_law_469 ?_
  refine lv_aload_n hx hb dL_law_470 rfl (lv_at hl 1 rfl) ?_
  refine lv_iload hx hb dL_law_471 (lv_at hl 5 rfl) ?_
  refine lv_iconst (v := nI (2)) hx hb dL_law_473 (by decide) ?_
  refine lv_iadd hx hb dL_law_474 ?_
  refine rt_i (y := nI (i + 2)) (nn_add (i) (2)) ?_
  refine sc_ld (k := i + 2) (x := nI (j)) hx hb hX hsc hS (by omega) hLb hA2 dL_law_475 ?_
  refine wx_V (X := []) (Y := wS cI cL a (tuS v t j) ++ wO cL o (va_up f 0 (if (tuB v.1 (sTh v) (sTn v) t j) = true then 1 else 0))) (wo := wM cI cZ b w) (wo' := wM cI cZ b (mtS (mThx w (nI 0)) t j)) (As := [.int (nI (t)), .int (nI (j))]) (rest := []) (q0 := 0) (ci := 3) hx hb hml hown hts (c_X3_turn_0 l dC dI cI cL cZ b w t j r_hv ht hj r_hc) (cwV 2 hts gL_law_X3_turn rfl rfl rfl (by decide +kernel) ⟨Nat.le_of_ble_eq_true rfl, Nat.le_of_ble_eq_true rfl⟩) hK hP hD hS rfl rfl rfl rfl hl.1 rfl (Nat.le_of_ble_eq_true rfl) dL_law_476 ⟨(show cells ≤ 1054 by omega), (show slots ≤ 10461 by omega)⟩ (fun H locs hP hD hS => ?_)
  have hP : va_P (dC, dI) vwCl (TW cI cL cZ a b o (tuS v t j) (mtS (mThx w (nI 0)) t j) (va_up f 0 (if (tuB v.1 (sTh v) (sTn v) t j) = true then 1 else 0))) H := hP
  have hD : va_D (nwA s) (TW cI cL cZ a b o (tuS v t j) (mtS (mThx w (nI 0)) t j) (va_up f 0 (if (tuB v.1 (sTh v) (sTn v) t j) = true then 1 else 0))) := hD
  refine W.eq (g2 := F0 m 479 ls [.int (bI (mtB (mThx w (nI 0)) t j))]) rfl ?_
  refine lv_istore (lv' := [(6, .int (bI (mtB (mThx w (nI 0)) t j))), (5, .int (nI (0))), (0, .ref sc), (1, .ref (a 0)), (2, .ref (b 0)), (3, .ref o), (4, .int (nI (i)))]) hx hb dL_law_479 hl (by decide) rfl (fun ls hl => ?_)
  refine lv_aload_n hx hb dL_law_481 rfl (lv_at hl 4 rfl) ?_
  refine ro_V (wo := wM cI cZ b (mtS (mThx w (nI 0)) t j)) (As := []) (rest := []) (q0 := 0) (ci := 3) hx hb hml hown hts (c_X3_thrown l dC dI cI cL cZ b (mtS (mThx w (nI 0)) t j)  ) (cwV 0 hts gL_law_X3_thrown rfl rfl rfl (by decide +kernel) ⟨Nat.le_of_ble_eq_true rfl, Nat.le_of_ble_eq_true rfl⟩) hK (pj_sub (X := []) (Y := wS cI cL a (tuS v t j) ++ wO cL o (va_up f 0 (if (tuB v.1 (sTh v) (sTn v) t j) = true then 1 else 0))) hP) rfl rfl rfl hl.1 rfl (Nat.le_of_ble_eq_true rfl) dL_law_482 ⟨(show cells ≤ 1054 by omega), (show slots ≤ 10461 by omega)⟩ ?_
  refine W.eq (g2 := F0 m 485 ls [.int (nI (0))]) (by rw [show mThr (mtS (mThx w (nI 0)) t j) = nI 0 from congrArg Prod.fst mtS_2]) ?_
  refine lv_iload hx hb dL_law_485 (lv_at hl 1 rfl) ?_
  refine lv_icmp_eq (tgt := 492) hx hb dL_law_487 (by decide) (fun _ => ?_) (fun c9 => absurd rfl c9)
  refine lv_iload hx hb dL_law_492 (lv_at hl 1 rfl) ?_
  refine lv_if_ne (tgt := 516) hx hb dL_law_494 (by decide) (fun c9 => absurd (by decide) c9) (fun _ => ?_)
  refine lv_aload_n hx hb dL_law_497 rfl (lv_at hl 5 rfl) ?_
  refine lv_iconst (v := nI (0)) hx hb dL_law_498 (by decide) ?_
  refine la_ld (k := 0) hx hb hK hP 15 1 rfl rfl (by decide) (by decide) dL_law_499 ?_
  refine rt_l (y := if (tuB v.1 (sTh v) (sTn v) t j) = true then 1 else 0) rfl ?_
  refine lv_iload hx hb dL_law_500 (lv_at hl 0 rfl) ?_
  refine lv_if_eq (tgt := 509) hx hb dL_law_502 (by decide) (fun c9 => ?_) (fun c9 => ?_)
  · skip
    have c9 : mtB (mThx w (nI 0)) t j = false := bI_f c9
    refine lv_lconst (v := 0) hx hb dL_law_509 (by decide) ?_
    refine W.eq (g2 := F0 m 510 ls [.long 0, .long 0]) (by rw [heq, c9]; rfl) ?_
    refine W.lcmp hx hb dL_law_510 ?_
    refine lv_if_eq (tgt := 516) hx hb dL_law_511 (by decide) (fun _ => ?_) (fun c9 => absurd (lg_self _) c9)
    refine lv_goto (tgt := 886) hx hb dL_law_516 (by decide) ?_
    refine W.widen (Nat.le_add_right cells 1) (Nat.le_add_right slots 6) ?_
    exact kk ls H locs _ (lv_sub hl [2, 3, 4, 5, 6] rfl) hP hD hS
  · skip
    have c9 : mtB (mThx w (nI 0)) t j = true := bI_t c9
    refine lv_lconst (v := 1) hx hb dL_law_505 (by decide) ?_
    refine lv_goto (tgt := 510) hx hb dL_law_506 (by decide) ?_
    refine W.eq (g2 := F0 m 510 ls [.long 1, .long 1]) (by rw [heq, c9]; rfl) ?_
    refine W.lcmp hx hb dL_law_510 ?_
    refine lv_if_eq (tgt := 516) hx hb dL_law_511 (by decide) (fun _ => ?_) (fun c9 => absurd (lg_self _) c9)
    refine lv_goto (tgt := 886) hx hb dL_law_516 (by decide) ?_
    refine W.widen (Nat.le_add_right cells 1) (Nat.le_add_right slots 6) ?_
    exact kk ls H locs _ (lv_sub hl [2, 3, 4, 5, 6] rfl) hP hD hS
set_option maxHeartbeats 4000000 in
set_option maxRecDepth 100000 in
theorem lk_turn_1 (CX : LX p l s m meth c args dC dI cI cL cZ sc L xs) (v : SV) (w : MV) (i : Nat) (hi : i + 4 ≤ L) (hl : lv_has ls 7 [(0, .ref sc), (1, .ref (a 0)), (2, .ref (b 0)), (3, .ref o), (4, .int (nI (i)))]) (hP : va_P (dC, dI) vwCl (TW cI cL cZ a b o v w f) H) (hD : va_D (nwA s) (TW cI cL cZ a b o v w f)) (hS : va_S (nwA s) s.heap H locs) (hcl : cells + 1 ≤ 1054 ∧ slots + 6 ≤ 10461) (t j : Int32) (hA1 : xs (i + 1) = t) (hA2 : xs (i + 2) = j) (hv : okS v) (hc : (inB j 3 && thB (sTh v) (sTn v) t) = false) (r_hv : okM w) (r_hc : (mth w t && inB j 3) = false)
    (kk : ∀ (ls1 : Array Slot) (H1 : Heap) (locs1 : List Loc) (f1 : Nat → Int64), lv_has ls1 7 [(0, .ref sc), (1, .ref (a 0)), (2, .ref (b 0)), (3, .ref o), (4, .int (nI (i)))] → va_P (dC, dI) vwCl (TW cI cL cZ a b o v (mThx w (nI 1)) f1) H1 → va_D (nwA s) (TW cI cL cZ a b o v (mThx w (nI 1)) f1) → va_S (nwA s) s.heap H1 locs1 → W p l e room_1 s m args below meth c H1 locs1 (cells + 1) (slots + 6) Q (F0 m 886 ls1 [])) : W p l e room_1 s m args below meth c H locs cells slots Q (F0 m 444 ls []) := by
  obtain ⟨hx, hb, hml, hown, hts, hX, hsc, hK, hE, hN, hLb, hst⟩ := CX
  refine lv_aload_n hx hb dL_law_444 rfl (lv_at hl 1 rfl) ?_
  refine lv_aload_n hx hb dL_law_445 rfl (lv_at hl 0 rfl) ?_
  refine lv_iload hx hb dL_law_446 (lv_at hl 4 rfl) ?_
  refine lv_iconst (v := nI (1)) hx hb dL_law_448 (by decide) ?_
  refine lv_iadd hx hb dL_law_449 ?_
  refine rt_i (y := nI (i + 1)) (nn_add (i) (1)) ?_
  refine sc_ld (k := i + 1) (x := t) hx hb hX hsc hS (by omega) hLb hA1 dL_law_450 ?_
  refine lv_aload_n hx hb dL_law_451 rfl (lv_at hl 0 rfl) ?_
  refine lv_iload hx hb dL_law_452 (lv_at hl 4 rfl) ?_
  refine lv_iconst (v := nI (2)) hx hb dL_law_454 (by decide) ?_
  refine lv_iadd hx hb dL_law_455 ?_
  refine rt_i (y := nI (i + 2)) (nn_add (i) (2)) ?_
  refine sc_ld (k := i + 2) (x := j) hx hb hX hsc hS (by omega) hLb hA2 dL_law_456 ?_
  refine lv_aload_n hx hb dL_law_457 rfl (lv_at hl 3 rfl) ?_
  refine wx_L (X := wM cI cZ b w) (Y := []) (wo := wS cI cL a v ++ wO cL o f) (wo' := wS cI cL a v ++ wO cL o f) (As := [.ref (a 0), .int (t), .int (j), .ref o]) (rest := []) (hh := [(0, 17, 20, 21)]) hx hb hml hown hts hE hN (c_L_turn_x1 l hst dC dI cI cL cZ a v o f t j hv hc) (vx_cwSW 4 hts gL_law_L_turn rfl rfl rfl (by decide +kernel) ⟨Nat.le_of_ble_eq_true rfl, Nat.le_of_ble_eq_true rfl⟩) hK hP hD hS rfl rfl hl.1 rfl (Nat.le_of_ble_eq_true rfl) dL_law_458 ⟨(show cells + 1 ≤ 1054 by omega), (show slots + 6 ≤ 10461 by omega)⟩ (fun H locs hP hD hS => ?_)
  have hP : va_P (dC, dI) vwCl (TW cI cL cZ a b o v w f) H := hP
  have hD : va_D (nwA s) (TW cI cL cZ a b o v w f) := hD
  refine W.eq (g2 := F0 m 461 ls [.int (nI (1))]) rfl ?_
  refine lv_istore (lv' := [(5, .int (nI (1))), (0, .ref sc), (1, .ref (a 0)), (2, .ref (b 0)), (3, .ref o), (4, .int (nI (i)))]) hx hb dL_law_461 hl (by decide) rfl (fun ls hl => ?_)
  refine lv_aload_n hx hb dL_law_463 rfl (lv_at hl 3 rfl) ?_
  refine lv_aload_n hx hb dL_law_464 rfl (lv_at hl 1 rfl) ?_
  refine lv_iload hx hb dL_law_465 (lv_at hl 5 rfl) ?_
  refine lv_iconst (v := nI (1)) hx hb dL_law_467 (by decide) ?_
  refine lv_iadd hx hb dL_law_468 ?_
  refine rt_i (y := nI (i + 1)) (nn_add (i) (1)) ?_
  refine sc_ld (k := i + 1) (x := t) hx hb hX hsc hS (by omega) hLb hA1 dL_law_469 ?_
  refine lv_aload_n hx hb dL_law_470 rfl (lv_at hl 1 rfl) ?_
  refine lv_iload hx hb dL_law_471 (lv_at hl 5 rfl) ?_
  refine lv_iconst (v := nI (2)) hx hb dL_law_473 (by decide) ?_
  refine lv_iadd hx hb dL_law_474 ?_
  refine rt_i (y := nI (i + 2)) (nn_add (i) (2)) ?_
  refine sc_ld (k := i + 2) (x := j) hx hb hX hsc hS (by omega) hLb hA2 dL_law_475 ?_
  refine wx_V (X := []) (Y := wS cI cL a v ++ wO cL o f) (wo := wM cI cZ b w) (wo' := wM cI cZ b (mThx w (nI 1))) (As := [.int (t), .int (j)]) (rest := []) (q0 := 0) (ci := 3) hx hb hml hown hts (c_X3_turn_1 l dC dI cI cL cZ b w t j r_hv r_hc) (cwV 2 hts gL_law_X3_turn rfl rfl rfl (by decide +kernel) ⟨Nat.le_of_ble_eq_true rfl, Nat.le_of_ble_eq_true rfl⟩) hK hP hD hS rfl rfl rfl rfl hl.1 rfl (Nat.le_of_ble_eq_true rfl) dL_law_476 ⟨(show cells + 1 ≤ 1054 by omega), (show slots + 6 ≤ 10461 by omega)⟩ (fun H locs hP hD hS => ?_)
  have hP : va_P (dC, dI) vwCl (TW cI cL cZ a b o v (mThx w (nI 1)) f) H := hP
  have hD : va_D (nwA s) (TW cI cL cZ a b o v (mThx w (nI 1)) f) := hD
  refine W.eq (g2 := F0 m 479 ls [.int (nI (0))]) rfl ?_
  refine lv_istore (lv' := [(6, .int (nI (0))), (5, .int (nI (1))), (0, .ref sc), (1, .ref (a 0)), (2, .ref (b 0)), (3, .ref o), (4, .int (nI (i)))]) hx hb dL_law_479 hl (by decide) rfl (fun ls hl => ?_)
  refine lv_aload_n hx hb dL_law_481 rfl (lv_at hl 4 rfl) ?_
  refine ro_V (wo := wM cI cZ b (mThx w (nI 1))) (As := []) (rest := []) (q0 := 0) (ci := 3) hx hb hml hown hts (c_X3_thrown l dC dI cI cL cZ b (mThx w (nI 1))  ) (cwV 0 hts gL_law_X3_thrown rfl rfl rfl (by decide +kernel) ⟨Nat.le_of_ble_eq_true rfl, Nat.le_of_ble_eq_true rfl⟩) hK (pj_sub (X := []) (Y := wS cI cL a v ++ wO cL o f) hP) rfl rfl rfl hl.1 rfl (Nat.le_of_ble_eq_true rfl) dL_law_482 ⟨(show cells + 1 ≤ 1054 by omega), (show slots + 6 ≤ 10461 by omega)⟩ ?_
  refine W.eq (g2 := F0 m 485 ls [.int (nI (1))]) rfl ?_
  refine lv_iload hx hb dL_law_485 (lv_at hl 1 rfl) ?_
  refine lv_icmp_eq (tgt := 492) hx hb dL_law_487 (by decide) (fun _ => ?_) (fun c9 => absurd rfl c9)
  refine lv_iload hx hb dL_law_492 (lv_at hl 1 rfl) ?_
  refine lv_if_ne (tgt := 516) hx hb dL_law_494 (by decide) (fun _ => ?_) (fun c9 => absurd c9 (by decide))
  refine lv_goto (tgt := 886) hx hb dL_law_516 (by decide) ?_
  exact kk ls H locs _ (lv_sub hl [2, 3, 4, 5, 6] rfl) hP hD hS
set_option maxHeartbeats 4000000 in
set_option maxRecDepth 100000 in
theorem lk_improve_0 (CX : LX p l s m meth c args dC dI cI cL cZ sc L xs) (v : SV) (w : MV) (i : Nat) (hi : i + 4 ≤ L) (hl : lv_has ls 7 [(0, .ref sc), (1, .ref (a 0)), (2, .ref (b 0)), (3, .ref o), (4, .int (nI (i)))]) (hP : va_P (dC, dI) vwCl (TW cI cL cZ a b o v w f) H) (hD : va_D (nwA s) (TW cI cL cZ a b o v w f)) (hS : va_S (nwA s) s.heap H locs) (hcl : cells + 1 ≤ 1054 ∧ slots + 6 ≤ 10461) (x : Nat) (hA1 : xs (i + 1) = nI (x)) (hv : okS v) (hx9 : x < 501) (r_hv : okM w) (heq : (simp_ x v).1 = (mimp x (mThx w (nI 0))).1) (hbd : (mimp x (mThx w (nI 0))).1 < 2 ^ 31)
    (kk : ∀ (ls1 : Array Slot) (H1 : Heap) (locs1 : List Loc) (f1 : Nat → Int64), lv_has ls1 7 [(0, .ref sc), (1, .ref (a 0)), (2, .ref (b 0)), (3, .ref o), (4, .int (nI (i)))] → va_P (dC, dI) vwCl (TW cI cL cZ a b o ((simp_ x v).2) ((mimp x (mThx w (nI 0))).2) f1) H1 → va_D (nwA s) (TW cI cL cZ a b o ((simp_ x v).2) ((mimp x (mThx w (nI 0))).2) f1) → va_S (nwA s) s.heap H1 locs1 → W p l e room_1 s m args below meth c H1 locs1 (cells + 1) (slots + 6) Q (F0 m 886 ls1 [])) : W p l e room_1 s m args below meth c H locs cells slots Q (F0 m 519 ls []) := by
  obtain ⟨hx, hb, hml, hown, hts, hX, hsc, hK, hE, hN, hLb, hst⟩ := CX
  refine lv_aload_n hx hb dL_law_519 rfl (lv_at hl 1 rfl) ?_
  refine lv_aload_n hx hb dL_law_520 rfl (lv_at hl 0 rfl) ?_
  refine lv_iload hx hb dL_law_521 (lv_at hl 4 rfl) ?_
  refine lv_iconst (v := nI (1)) hx hb dL_law_523 (by decide) ?_
  refine lv_iadd hx hb dL_law_524 ?_
  refine rt_i (y := nI (i + 1)) (nn_add (i) (1)) ?_
  refine sc_ld (k := i + 1) (x := nI (x)) hx hb hX hsc hS (by omega) hLb hA1 dL_law_525 ?_
  refine lv_aload_n hx hb dL_law_526 rfl (lv_at hl 3 rfl) ?_
  refine wx_L (X := wM cI cZ b w) (Y := []) (wo := wS cI cL a v ++ wO cL o f) (wo' := wS cI cL a ((simp_ x v).2) ++ wO cL o (va_up f 0 (lI ((((simp_ x v).1) : Nat) : Int)))) (As := [.ref (a 0), .int (nI (x)), .ref o]) (rest := []) (hh := [(0, 9, 12, 13)]) hx hb hml hown hts hE hN (c_L_improve_0 l dC dI cI cL cZ a v o f x hv hx9) (vx_cwSW 3 hts gL_law_L_improve rfl rfl rfl (by decide +kernel) ⟨Nat.le_of_ble_eq_true rfl, Nat.le_of_ble_eq_true rfl⟩) hK hP hD hS rfl rfl hl.1 rfl (Nat.le_of_ble_eq_true rfl) dL_law_527 ⟨(show cells + 0 ≤ 1054 by omega), (show slots + 0 ≤ 10461 by omega)⟩ (fun H locs hP hD hS => ?_)
  have hP : va_P (dC, dI) vwCl (TW cI cL cZ a b o ((simp_ x v).2) w (va_up f 0 (lI ((((simp_ x v).1) : Nat) : Int)))) H := hP
  have hD : va_D (nwA s) (TW cI cL cZ a b o ((simp_ x v).2) w (va_up f 0 (lI ((((simp_ x v).1) : Nat) : Int)))) := hD
  refine W.eq (g2 := F0 m 530 ls [.int (nI (0))]) rfl ?_
  refine lv_istore (lv' := [(5, .int (nI (0))), (0, .ref sc), (1, .ref (a 0)), (2, .ref (b 0)), (3, .ref o), (4, .int (nI (i)))]) hx hb dL_law_530 hl (by decide) rfl (fun ls hl => ?_)
  refine lv_aload_n hx hb dL_law_532 rfl (lv_at hl 3 rfl) ?_
  refine lv_aload_n hx hb dL_law_533 rfl (lv_at hl 1 rfl) ?_
  refine lv_iload hx hb dL_law_534 (lv_at hl 5 rfl) ?_
  refine lv_iconst (v := nI (1)) hx hb dL_law_536 (by decide) ?_
  refine lv_iadd hx hb dL_law_537 ?_
  refine rt_i (y := nI (i + 1)) (nn_add (i) (1)) ?_
  refine sc_ld (k := i + 1) (x := nI (x)) hx hb hX hsc hS (by omega) hLb hA1 dL_law_538 ?_
  refine wx_V (X := []) (Y := wS cI cL a ((simp_ x v).2) ++ wO cL o (va_up f 0 (lI ((((simp_ x v).1) : Nat) : Int)))) (wo := wM cI cZ b w) (wo' := wM cI cZ b ((mimp x (mThx w (nI 0))).2)) (As := [.int (nI (x))]) (rest := []) (q0 := 0) (ci := 3) hx hb hml hown hts (c_X3_improve_0 l dC dI cI cL cZ b w x r_hv hx9) (cwV 1 hts gL_law_X3_improve rfl rfl rfl (by decide +kernel) ⟨Nat.le_of_ble_eq_true rfl, Nat.le_of_ble_eq_true rfl⟩) hK hP hD hS rfl rfl rfl rfl hl.1 rfl (Nat.le_of_ble_eq_true rfl) dL_law_539 ⟨(show cells ≤ 1054 by omega), (show slots ≤ 10461 by omega)⟩ (fun H locs hP hD hS => ?_)
  have hP : va_P (dC, dI) vwCl (TW cI cL cZ a b o ((simp_ x v).2) ((mimp x (mThx w (nI 0))).2) (va_up f 0 (lI ((((simp_ x v).1) : Nat) : Int)))) H := hP
  have hD : va_D (nwA s) (TW cI cL cZ a b o ((simp_ x v).2) ((mimp x (mThx w (nI 0))).2) (va_up f 0 (lI ((((simp_ x v).1) : Nat) : Int)))) := hD
  refine W.eq (g2 := F0 m 542 ls [.int (nI ((mimp x (mThx w (nI 0))).1))]) rfl ?_
  refine lv_istore (lv' := [(6, .int (nI ((mimp x (mThx w (nI 0))).1))), (5, .int (nI (0))), (0, .ref sc), (1, .ref (a 0)), (2, .ref (b 0)), (3, .ref o), (4, .int (nI (i)))]) hx hb dL_law_542 hl (by decide) rfl (fun ls hl => ?_)
  refine lv_aload_n hx hb dL_law_544 rfl (lv_at hl 4 rfl) ?_
  refine ro_V (wo := wM cI cZ b ((mimp x (mThx w (nI 0))).2)) (As := []) (rest := []) (q0 := 0) (ci := 3) hx hb hml hown hts (c_X3_thrown l dC dI cI cL cZ b ((mimp x (mThx w (nI 0))).2)  ) (cwV 0 hts gL_law_X3_thrown rfl rfl rfl (by decide +kernel) ⟨Nat.le_of_ble_eq_true rfl, Nat.le_of_ble_eq_true rfl⟩) hK (pj_sub (X := []) (Y := wS cI cL a ((simp_ x v).2) ++ wO cL o (va_up f 0 (lI ((((simp_ x v).1) : Nat) : Int)))) hP) rfl rfl rfl hl.1 rfl (Nat.le_of_ble_eq_true rfl) dL_law_545 ⟨(show cells ≤ 1054 by omega), (show slots ≤ 10461 by omega)⟩ ?_
  refine W.eq (g2 := F0 m 548 ls [.int (nI (0))]) (by rw [show mThr (mimp x (mThx w (nI 0))).2 = nI 0 from congrArg Prod.fst (mimp_2 x _)]) ?_
  refine lv_iload hx hb dL_law_548 (lv_at hl 1 rfl) ?_
  refine lv_icmp_eq (tgt := 555) hx hb dL_law_550 (by decide) (fun _ => ?_) (fun c9 => absurd rfl c9)
  refine lv_iload hx hb dL_law_555 (lv_at hl 1 rfl) ?_
  refine lv_if_ne (tgt := 572) hx hb dL_law_557 (by decide) (fun c9 => absurd (by decide) c9) (fun _ => ?_)
  refine lv_aload_n hx hb dL_law_560 rfl (lv_at hl 5 rfl) ?_
  refine lv_iconst (v := nI (0)) hx hb dL_law_561 (by decide) ?_
  refine la_ld (k := 0) hx hb hK hP 15 1 rfl rfl (by decide) (by decide) dL_law_562 ?_
  refine rt_l (y := lI ((((simp_ x v).1) : Nat) : Int)) rfl ?_
  refine lv_iload hx hb dL_law_563 (lv_at hl 0 rfl) ?_
  refine lv_i2l (v := lI ((((mimp x (mThx w (nI 0))).1) : Nat) : Int)) hx hb dL_law_565 (nzI_l hbd) ?_
  refine rt_l (y := lI ((((simp_ x v).1) : Nat) : Int)) (by rw [heq]) ?_
  refine W.lcmp hx hb dL_law_566 ?_
  refine lv_if_eq (tgt := 572) hx hb dL_law_567 (by decide) (fun _ => ?_) (fun c9 => absurd (lg_self _) c9)
  refine lv_goto (tgt := 886) hx hb dL_law_572 (by decide) ?_
  refine W.widen (Nat.le_add_right cells 1) (Nat.le_add_right slots 6) ?_
  exact kk ls H locs _ (lv_sub hl [2, 3, 4, 5, 6] rfl) hP hD hS
set_option maxHeartbeats 4000000 in
set_option maxRecDepth 100000 in
theorem lk_improve_1 (CX : LX p l s m meth c args dC dI cI cL cZ sc L xs) (v : SV) (w : MV) (i : Nat) (hi : i + 4 ≤ L) (hl : lv_has ls 7 [(0, .ref sc), (1, .ref (a 0)), (2, .ref (b 0)), (3, .ref o), (4, .int (nI (i)))]) (hP : va_P (dC, dI) vwCl (TW cI cL cZ a b o v w f) H) (hD : va_D (nwA s) (TW cI cL cZ a b o v w f)) (hS : va_S (nwA s) s.heap H locs) (hcl : cells + 1 ≤ 1054 ∧ slots + 6 ≤ 10461) (x : Int32) (hA1 : xs (i + 1) = x) (hv : okS v) (hc : inB x 501 = false)
    (kk : ∀ (ls1 : Array Slot) (H1 : Heap) (locs1 : List Loc) (f1 : Nat → Int64), lv_has ls1 7 [(0, .ref sc), (1, .ref (a 0)), (2, .ref (b 0)), (3, .ref o), (4, .int (nI (i)))] → va_P (dC, dI) vwCl (TW cI cL cZ a b o v (mThx w (nI 1)) f1) H1 → va_D (nwA s) (TW cI cL cZ a b o v (mThx w (nI 1)) f1) → va_S (nwA s) s.heap H1 locs1 → W p l e room_1 s m args below meth c H1 locs1 (cells + 1) (slots + 6) Q (F0 m 886 ls1 [])) : W p l e room_1 s m args below meth c H locs cells slots Q (F0 m 519 ls []) := by
  obtain ⟨hx, hb, hml, hown, hts, hX, hsc, hK, hE, hN, hLb, hst⟩ := CX
  refine lv_aload_n hx hb dL_law_519 rfl (lv_at hl 1 rfl) ?_
  refine lv_aload_n hx hb dL_law_520 rfl (lv_at hl 0 rfl) ?_
  refine lv_iload hx hb dL_law_521 (lv_at hl 4 rfl) ?_
  refine lv_iconst (v := nI (1)) hx hb dL_law_523 (by decide) ?_
  refine lv_iadd hx hb dL_law_524 ?_
  refine rt_i (y := nI (i + 1)) (nn_add (i) (1)) ?_
  refine sc_ld (k := i + 1) (x := x) hx hb hX hsc hS (by omega) hLb hA1 dL_law_525 ?_
  refine lv_aload_n hx hb dL_law_526 rfl (lv_at hl 3 rfl) ?_
  refine wx_L (X := wM cI cZ b w) (Y := []) (wo := wS cI cL a v ++ wO cL o f) (wo' := wS cI cL a v ++ wO cL o f) (As := [.ref (a 0), .int (x), .ref o]) (rest := []) (hh := [(0, 9, 12, 13)]) hx hb hml hown hts hE hN (c_L_improve_x1 l hst dC dI cI cL cZ a v o f x hv hc) (vx_cwSW 3 hts gL_law_L_improve rfl rfl rfl (by decide +kernel) ⟨Nat.le_of_ble_eq_true rfl, Nat.le_of_ble_eq_true rfl⟩) hK hP hD hS rfl rfl hl.1 rfl (Nat.le_of_ble_eq_true rfl) dL_law_527 ⟨(show cells + 1 ≤ 1054 by omega), (show slots + 6 ≤ 10461 by omega)⟩ (fun H locs hP hD hS => ?_)
  have hP : va_P (dC, dI) vwCl (TW cI cL cZ a b o v w f) H := hP
  have hD : va_D (nwA s) (TW cI cL cZ a b o v w f) := hD
  refine W.eq (g2 := F0 m 530 ls [.int (nI (1))]) rfl ?_
  refine lv_istore (lv' := [(5, .int (nI (1))), (0, .ref sc), (1, .ref (a 0)), (2, .ref (b 0)), (3, .ref o), (4, .int (nI (i)))]) hx hb dL_law_530 hl (by decide) rfl (fun ls hl => ?_)
  refine lv_aload_n hx hb dL_law_532 rfl (lv_at hl 3 rfl) ?_
  refine lv_aload_n hx hb dL_law_533 rfl (lv_at hl 1 rfl) ?_
  refine lv_iload hx hb dL_law_534 (lv_at hl 5 rfl) ?_
  refine lv_iconst (v := nI (1)) hx hb dL_law_536 (by decide) ?_
  refine lv_iadd hx hb dL_law_537 ?_
  refine rt_i (y := nI (i + 1)) (nn_add (i) (1)) ?_
  refine sc_ld (k := i + 1) (x := x) hx hb hX hsc hS (by omega) hLb hA1 dL_law_538 ?_
  refine wx_V (X := []) (Y := wS cI cL a v ++ wO cL o f) (wo := wM cI cZ b w) (wo' := wM cI cZ b (mThx w (nI 1))) (As := [.int (x)]) (rest := []) (q0 := 0) (ci := 3) hx hb hml hown hts (c_X3_improve_1 l dC dI cI cL cZ b w x hc) (cwV 1 hts gL_law_X3_improve rfl rfl rfl (by decide +kernel) ⟨Nat.le_of_ble_eq_true rfl, Nat.le_of_ble_eq_true rfl⟩) hK hP hD hS rfl rfl rfl rfl hl.1 rfl (Nat.le_of_ble_eq_true rfl) dL_law_539 ⟨(show cells + 1 ≤ 1054 by omega), (show slots + 6 ≤ 10461 by omega)⟩ (fun H locs hP hD hS => ?_)
  have hP : va_P (dC, dI) vwCl (TW cI cL cZ a b o v (mThx w (nI 1)) f) H := hP
  have hD : va_D (nwA s) (TW cI cL cZ a b o v (mThx w (nI 1)) f) := hD
  refine W.eq (g2 := F0 m 542 ls [.int (nI (0))]) rfl ?_
  refine lv_istore (lv' := [(6, .int (nI (0))), (5, .int (nI (1))), (0, .ref sc), (1, .ref (a 0)), (2, .ref (b 0)), (3, .ref o), (4, .int (nI (i)))]) hx hb dL_law_542 hl (by decide) rfl (fun ls hl => ?_)
  refine lv_aload_n hx hb dL_law_544 rfl (lv_at hl 4 rfl) ?_
  refine ro_V (wo := wM cI cZ b (mThx w (nI 1))) (As := []) (rest := []) (q0 := 0) (ci := 3) hx hb hml hown hts (c_X3_thrown l dC dI cI cL cZ b (mThx w (nI 1))  ) (cwV 0 hts gL_law_X3_thrown rfl rfl rfl (by decide +kernel) ⟨Nat.le_of_ble_eq_true rfl, Nat.le_of_ble_eq_true rfl⟩) hK (pj_sub (X := []) (Y := wS cI cL a v ++ wO cL o f) hP) rfl rfl rfl hl.1 rfl (Nat.le_of_ble_eq_true rfl) dL_law_545 ⟨(show cells + 1 ≤ 1054 by omega), (show slots + 6 ≤ 10461 by omega)⟩ ?_
  refine W.eq (g2 := F0 m 548 ls [.int (nI (1))]) rfl ?_
  refine lv_iload hx hb dL_law_548 (lv_at hl 1 rfl) ?_
  refine lv_icmp_eq (tgt := 555) hx hb dL_law_550 (by decide) (fun _ => ?_) (fun c9 => absurd rfl c9)
  refine lv_iload hx hb dL_law_555 (lv_at hl 1 rfl) ?_
  refine lv_if_ne (tgt := 572) hx hb dL_law_557 (by decide) (fun _ => ?_) (fun c9 => absurd c9 (by decide))
  refine lv_goto (tgt := 886) hx hb dL_law_572 (by decide) ?_
  exact kk ls H locs _ (lv_sub hl [2, 3, 4, 5, 6] rfl) hP hD hS
end LKA
