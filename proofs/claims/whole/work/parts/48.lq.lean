section LKB
variable {p : Program} {l : Launch} {e : Env} {s : State} {m : MethodId} {args : Array Value} {below : List Frame} {meth : Method} {c : Code} {H : Heap} {locs : List Loc} {cells slots : Nat} {Q : State → Prop} {dC : Nat → ClassId} {dI : Nat → Nat → Nat} {cI cL cZ : ClassId} {sc L : Nat} {xs : Nat → Int32} {a b : Nat → Nat} {o : Nat} {f : Nat → Int64} {ls : Array Slot}
set_option maxHeartbeats 4000000 in
set_option maxRecDepth 100000 in
theorem lk_fault (CX : LX p l s m meth c args dC dI cI cL cZ sc L xs) (v : SV) (w : MV) (i : Nat) (hi : i + 4 ≤ L) (hl : lv_has ls 7 [(0, .ref sc), (1, .ref (a 0)), (2, .ref (b 0)), (3, .ref o), (4, .int (nI (i)))]) (hP : va_P (dC, dI) vwCl (TW cI cL cZ a b o v w f) H) (hD : va_D (nwA s) (TW cI cL cZ a b o v w f)) (hS : va_S (nwA s) s.heap H locs) (hcl : cells + 1 ≤ 1054 ∧ slots + 6 ≤ 10461)   (hv : okS v) (r_hv : okM w) (heq : nI (faR v) = nI (mfaR (mThx w (nI 0))))
    (kk : ∀ (ls1 : Array Slot) (H1 : Heap) (locs1 : List Loc) (f1 : Nat → Int64), lv_has ls1 7 [(0, .ref sc), (1, .ref (a 0)), (2, .ref (b 0)), (3, .ref o), (4, .int (nI (i)))] → va_P (dC, dI) vwCl (TW cI cL cZ a b o (faS v) (mfaS (mThx w (nI 0))) f1) H1 → va_D (nwA s) (TW cI cL cZ a b o (faS v) (mfaS (mThx w (nI 0))) f1) → va_S (nwA s) s.heap H1 locs1 → W p l e room_1 s m args below meth c H1 locs1 (cells + 1) (slots + 6) Q (F0 m 886 ls1 [])) : W p l e room_1 s m args below meth c H locs cells slots Q (F0 m 575 ls []) := by
  obtain ⟨hx, hb, hml, hown, hts, hX, hsc, hK, hE, hN, hLb, hst⟩ := CX
  refine lv_aload_n hx hb dL_law_575 rfl (lv_at hl 1 rfl) ?_
  refine wx_V (X := wM cI cZ b w) (Y := wO cL o f) (wo := wS cI cL a v) (wo' := wS cI cL a (faS v)) (As := []) (rest := []) (q0 := 0) (ci := 2) hx hb hml hown hts (c_X2_fault l dC dI cI cL cZ a v  hv) (cwV 0 hts gL_law_X2_fault rfl rfl rfl (by decide +kernel) ⟨Nat.le_of_ble_eq_true rfl, Nat.le_of_ble_eq_true rfl⟩) hK hP hD hS rfl rfl rfl rfl hl.1 rfl (Nat.le_of_ble_eq_true rfl) dL_law_576 ⟨(show cells ≤ 1054 by omega), (show slots ≤ 10461 by omega)⟩ (fun H locs hP hD hS => ?_)
  have hP : va_P (dC, dI) vwCl (TW cI cL cZ a b o (faS v) w f) H := hP
  have hD : va_D (nwA s) (TW cI cL cZ a b o (faS v) w f) := hD
  refine W.eq (g2 := F0 m 579 ls [.int (nI (faR v))]) rfl ?_
  refine lv_aload_n hx hb dL_law_579 rfl (lv_at hl 2 rfl) ?_
  refine wx_V (X := []) (Y := wS cI cL a (faS v) ++ wO cL o f) (wo := wM cI cZ b w) (wo' := wM cI cZ b (mfaS (mThx w (nI 0)))) (As := []) (rest := [.int (nI (faR v))]) (q0 := 0) (ci := 3) hx hb hml hown hts (c_X3_fault l dC dI cI cL cZ b w  r_hv) (cwV 0 hts gL_law_X3_fault rfl rfl rfl (by decide +kernel) ⟨Nat.le_of_ble_eq_true rfl, Nat.le_of_ble_eq_true rfl⟩) hK hP hD hS rfl rfl rfl rfl hl.1 rfl (Nat.le_of_ble_eq_true rfl) dL_law_580 ⟨(show cells ≤ 1054 by omega), (show slots ≤ 10461 by omega)⟩ (fun H locs hP hD hS => ?_)
  have hP : va_P (dC, dI) vwCl (TW cI cL cZ a b o (faS v) (mfaS (mThx w (nI 0))) f) H := hP
  have hD : va_D (nwA s) (TW cI cL cZ a b o (faS v) (mfaS (mThx w (nI 0))) f) := hD
  refine W.eq (g2 := F0 m 583 ls [.int (nI (mfaR (mThx w (nI 0)))), .int (nI (faR v))]) rfl ?_
  refine lv_icmp_eq (tgt := 886) hx hb dL_law_583 (by decide) (fun _ => ?_) (fun c9 => absurd heq c9)
  refine W.widen (Nat.le_add_right cells 1) (Nat.le_add_right slots 6) ?_
  exact kk ls H locs _ (lv_sub hl [0, 1, 2, 3, 4] rfl) hP hD hS
set_option maxHeartbeats 4000000 in
set_option maxRecDepth 100000 in
theorem lk_culprit (CX : LX p l s m meth c args dC dI cI cL cZ sc L xs) (v : SV) (w : MV) (i : Nat) (hi : i + 4 ≤ L) (hl : lv_has ls 7 [(0, .ref sc), (1, .ref (a 0)), (2, .ref (b 0)), (3, .ref o), (4, .int (nI (i)))]) (hP : va_P (dC, dI) vwCl (TW cI cL cZ a b o v w f) H) (hD : va_D (nwA s) (TW cI cL cZ a b o v w f)) (hS : va_S (nwA s) s.heap H locs) (hcl : cells + 1 ≤ 1054 ∧ slots + 6 ≤ 10461) (x : Int32) (hA1 : xs (i + 1) = x) (heq : culC v x = mcuC (mThx w (nI 0)) x)
    (kk : ∀ (ls1 : Array Slot) (H1 : Heap) (locs1 : List Loc) (f1 : Nat → Int64), lv_has ls1 7 [(0, .ref sc), (1, .ref (a 0)), (2, .ref (b 0)), (3, .ref o), (4, .int (nI (i)))] → va_P (dC, dI) vwCl (TW cI cL cZ a b o v (mThx w (nI 0)) f1) H1 → va_D (nwA s) (TW cI cL cZ a b o v (mThx w (nI 0)) f1) → va_S (nwA s) s.heap H1 locs1 → W p l e room_1 s m args below meth c H1 locs1 (cells + 1) (slots + 6) Q (F0 m 886 ls1 [])) : W p l e room_1 s m args below meth c H locs cells slots Q (F0 m 588 ls []) := by
  obtain ⟨hx, hb, hml, hown, hts, hX, hsc, hK, hE, hN, hLb, hst⟩ := CX
  refine lv_aload_n hx hb dL_law_588 rfl (lv_at hl 1 rfl) ?_
  refine lv_aload_n hx hb dL_law_589 rfl (lv_at hl 0 rfl) ?_
  refine lv_iload hx hb dL_law_590 (lv_at hl 4 rfl) ?_
  refine lv_iconst (v := nI (1)) hx hb dL_law_592 (by decide) ?_
  refine lv_iadd hx hb dL_law_593 ?_
  refine rt_i (y := nI (i + 1)) (nn_add (i) (1)) ?_
  refine sc_ld (k := i + 1) (x := x) hx hb hX hsc hS (by omega) hLb hA1 dL_law_594 ?_
  refine ro_V (wo := wS cI cL a v) (As := [.int (x)]) (rest := []) (q0 := 0) (ci := 2) hx hb hml hown hts (c_X2_culprit l dC dI cI cL cZ a v x ) (cwV 1 hts gL_law_X2_culprit rfl rfl rfl (by decide +kernel) ⟨Nat.le_of_ble_eq_true rfl, Nat.le_of_ble_eq_true rfl⟩) hK (pj_sub (X := wM cI cZ b w) (Y := wO cL o f) hP) rfl rfl rfl hl.1 rfl (Nat.le_of_ble_eq_true rfl) dL_law_595 ⟨(show cells ≤ 1054 by omega), (show slots ≤ 10461 by omega)⟩ ?_
  refine W.eq (g2 := F0 m 598 ls [.int (culC v x)]) rfl ?_
  refine lv_aload_n hx hb dL_law_598 rfl (lv_at hl 2 rfl) ?_
  refine lv_aload_n hx hb dL_law_599 rfl (lv_at hl 0 rfl) ?_
  refine lv_iload hx hb dL_law_600 (lv_at hl 4 rfl) ?_
  refine lv_iconst (v := nI (1)) hx hb dL_law_602 (by decide) ?_
  refine lv_iadd hx hb dL_law_603 ?_
  refine rt_i (y := nI (i + 1)) (nn_add (i) (1)) ?_
  refine sc_ld (k := i + 1) (x := x) hx hb hX hsc hS (by omega) hLb hA1 dL_law_604 ?_
  refine wx_V (X := []) (Y := wS cI cL a v ++ wO cL o f) (wo := wM cI cZ b w) (wo' := wM cI cZ b (mThx w (nI 0))) (As := [.int (x)]) (rest := [.int (culC v x)]) (q0 := 0) (ci := 3) hx hb hml hown hts (c_X3_culprit l dC dI cI cL cZ b w x ) (cwV 1 hts gL_law_X3_culprit rfl rfl rfl (by decide +kernel) ⟨Nat.le_of_ble_eq_true rfl, Nat.le_of_ble_eq_true rfl⟩) hK hP hD hS rfl rfl rfl rfl hl.1 rfl (Nat.le_of_ble_eq_true rfl) dL_law_605 ⟨(show cells ≤ 1054 by omega), (show slots ≤ 10461 by omega)⟩ (fun H locs hP hD hS => ?_)
  have hP : va_P (dC, dI) vwCl (TW cI cL cZ a b o v (mThx w (nI 0)) f) H := hP
  have hD : va_D (nwA s) (TW cI cL cZ a b o v (mThx w (nI 0)) f) := hD
  refine W.eq (g2 := F0 m 608 ls [.int (mcuC (mThx w (nI 0)) x), .int (culC v x)]) rfl ?_
  refine lv_icmp_eq (tgt := 886) hx hb dL_law_608 (by decide) (fun _ => ?_) (fun c9 => absurd heq c9)
  refine W.widen (Nat.le_add_right cells 1) (Nat.le_add_right slots 6) ?_
  exact kk ls H locs _ (lv_sub hl [0, 1, 2, 3, 4] rfl) hP hD hS
set_option maxHeartbeats 4000000 in
set_option maxRecDepth 100000 in
theorem lk_covers (CX : LX p l s m meth c args dC dI cI cL cZ sc L xs) (v : SV) (w : MV) (i : Nat) (hi : i + 4 ≤ L) (hl : lv_has ls 7 [(0, .ref sc), (1, .ref (a 0)), (2, .ref (b 0)), (3, .ref o), (4, .int (nI (i)))]) (hP : va_P (dC, dI) vwCl (TW cI cL cZ a b o v w f) H) (hD : va_D (nwA s) (TW cI cL cZ a b o v w f)) (hS : va_S (nwA s) s.heap H locs) (hcl : cells + 1 ≤ 1054 ∧ slots + 6 ≤ 10461) (x y : Int32) (hA1 : xs (i + 1) = x) (hA2 : xs (i + 2) = y) (hv : okS v) (r_hv : okM w) (heq : nI (covC v x y) = nI (mcoC (mThx w (nI 0)) x y))
    (kk : ∀ (ls1 : Array Slot) (H1 : Heap) (locs1 : List Loc) (f1 : Nat → Int64), lv_has ls1 7 [(0, .ref sc), (1, .ref (a 0)), (2, .ref (b 0)), (3, .ref o), (4, .int (nI (i)))] → va_P (dC, dI) vwCl (TW cI cL cZ a b o v (mThx w (nI 0)) f1) H1 → va_D (nwA s) (TW cI cL cZ a b o v (mThx w (nI 0)) f1) → va_S (nwA s) s.heap H1 locs1 → W p l e room_1 s m args below meth c H1 locs1 (cells + 1) (slots + 6) Q (F0 m 886 ls1 [])) : W p l e room_1 s m args below meth c H locs cells slots Q (F0 m 613 ls []) := by
  obtain ⟨hx, hb, hml, hown, hts, hX, hsc, hK, hE, hN, hLb, hst⟩ := CX
  refine lv_aload_n hx hb dL_law_613 rfl (lv_at hl 1 rfl) ?_
  refine lv_aload_n hx hb dL_law_614 rfl (lv_at hl 0 rfl) ?_
  refine lv_iload hx hb dL_law_615 (lv_at hl 4 rfl) ?_
  refine lv_iconst (v := nI (1)) hx hb dL_law_617 (by decide) ?_
  refine lv_iadd hx hb dL_law_618 ?_
  refine rt_i (y := nI (i + 1)) (nn_add (i) (1)) ?_
  refine sc_ld (k := i + 1) (x := x) hx hb hX hsc hS (by omega) hLb hA1 dL_law_619 ?_
  refine lv_aload_n hx hb dL_law_620 rfl (lv_at hl 0 rfl) ?_
  refine lv_iload hx hb dL_law_621 (lv_at hl 4 rfl) ?_
  refine lv_iconst (v := nI (2)) hx hb dL_law_623 (by decide) ?_
  refine lv_iadd hx hb dL_law_624 ?_
  refine rt_i (y := nI (i + 2)) (nn_add (i) (2)) ?_
  refine sc_ld (k := i + 2) (x := y) hx hb hX hsc hS (by omega) hLb hA2 dL_law_625 ?_
  refine ro_V (wo := wS cI cL a v) (As := [.int (x), .int (y)]) (rest := []) (q0 := 0) (ci := 2) hx hb hml hown hts (c_X2_covers l dC dI cI cL cZ a v x y hv) (cwV 2 hts gL_law_X2_covers rfl rfl rfl (by decide +kernel) ⟨Nat.le_of_ble_eq_true rfl, Nat.le_of_ble_eq_true rfl⟩) hK (pj_sub (X := wM cI cZ b w) (Y := wO cL o f) hP) rfl rfl rfl hl.1 rfl (Nat.le_of_ble_eq_true rfl) dL_law_626 ⟨(show cells ≤ 1054 by omega), (show slots ≤ 10461 by omega)⟩ ?_
  refine W.eq (g2 := F0 m 629 ls [.int (nI (covC v x y))]) rfl ?_
  refine lv_aload_n hx hb dL_law_629 rfl (lv_at hl 2 rfl) ?_
  refine lv_aload_n hx hb dL_law_630 rfl (lv_at hl 0 rfl) ?_
  refine lv_iload hx hb dL_law_631 (lv_at hl 4 rfl) ?_
  refine lv_iconst (v := nI (1)) hx hb dL_law_633 (by decide) ?_
  refine lv_iadd hx hb dL_law_634 ?_
  refine rt_i (y := nI (i + 1)) (nn_add (i) (1)) ?_
  refine sc_ld (k := i + 1) (x := x) hx hb hX hsc hS (by omega) hLb hA1 dL_law_635 ?_
  refine lv_aload_n hx hb dL_law_636 rfl (lv_at hl 0 rfl) ?_
  refine lv_iload hx hb dL_law_637 (lv_at hl 4 rfl) ?_
  refine lv_iconst (v := nI (2)) hx hb dL_law_639 (by decide) ?_
  refine lv_iadd hx hb dL_law_640 ?_
  refine rt_i (y := nI (i + 2)) (nn_add (i) (2)) ?_
  refine sc_ld (k := i + 2) (x := y) hx hb hX hsc hS (by omega) hLb hA2 dL_law_641 ?_
  refine wx_V (X := []) (Y := wS cI cL a v ++ wO cL o f) (wo := wM cI cZ b w) (wo' := wM cI cZ b (mThx w (nI 0))) (As := [.int (x), .int (y)]) (rest := [.int (nI (covC v x y))]) (q0 := 0) (ci := 3) hx hb hml hown hts (c_X3_covers l dC dI cI cL cZ b w x y r_hv) (cwV 2 hts gL_law_X3_covers rfl rfl rfl (by decide +kernel) ⟨Nat.le_of_ble_eq_true rfl, Nat.le_of_ble_eq_true rfl⟩) hK hP hD hS rfl rfl rfl rfl hl.1 rfl (Nat.le_of_ble_eq_true rfl) dL_law_642 ⟨(show cells ≤ 1054 by omega), (show slots ≤ 10461 by omega)⟩ (fun H locs hP hD hS => ?_)
  have hP : va_P (dC, dI) vwCl (TW cI cL cZ a b o v (mThx w (nI 0)) f) H := hP
  have hD : va_D (nwA s) (TW cI cL cZ a b o v (mThx w (nI 0)) f) := hD
  refine W.eq (g2 := F0 m 645 ls [.int (nI (mcoC (mThx w (nI 0)) x y)), .int (nI (covC v x y))]) rfl ?_
  refine lv_icmp_eq (tgt := 886) hx hb dL_law_645 (by decide) (fun _ => ?_) (fun c9 => absurd heq c9)
  refine W.widen (Nat.le_add_right cells 1) (Nat.le_add_right slots 6) ?_
  exact kk ls H locs _ (lv_sub hl [0, 1, 2, 3, 4] rfl) hP hD hS
set_option maxHeartbeats 4000000 in
set_option maxRecDepth 100000 in
theorem lk_who (CX : LX p l s m meth c args dC dI cI cL cZ sc L xs) (v : SV) (w : MV) (i : Nat) (hi : i + 4 ≤ L) (hl : lv_has ls 7 [(0, .ref sc), (1, .ref (a 0)), (2, .ref (b 0)), (3, .ref o), (4, .int (nI (i)))]) (hP : va_P (dC, dI) vwCl (TW cI cL cZ a b o v w f) H) (hD : va_D (nwA s) (TW cI cL cZ a b o v w f)) (hS : va_S (nwA s) s.heap H locs) (hcl : cells + 1 ≤ 1054 ∧ slots + 6 ≤ 10461) (x y : Int32) (hA1 : xs (i + 1) = x) (hA2 : xs (i + 2) = y) (hv : okS v) (r_hv : okM w) (heq : oI (whoC v x y) = oI (mwhC (mThx w (nI 0)) x y))
    (kk : ∀ (ls1 : Array Slot) (H1 : Heap) (locs1 : List Loc) (f1 : Nat → Int64), lv_has ls1 7 [(0, .ref sc), (1, .ref (a 0)), (2, .ref (b 0)), (3, .ref o), (4, .int (nI (i)))] → va_P (dC, dI) vwCl (TW cI cL cZ a b o v (mThx w (nI 0)) f1) H1 → va_D (nwA s) (TW cI cL cZ a b o v (mThx w (nI 0)) f1) → va_S (nwA s) s.heap H1 locs1 → W p l e room_1 s m args below meth c H1 locs1 (cells + 1) (slots + 6) Q (F0 m 886 ls1 [])) : W p l e room_1 s m args below meth c H locs cells slots Q (F0 m 650 ls []) := by
  obtain ⟨hx, hb, hml, hown, hts, hX, hsc, hK, hE, hN, hLb, hst⟩ := CX
  refine lv_aload_n hx hb dL_law_650 rfl (lv_at hl 1 rfl) ?_
  refine lv_aload_n hx hb dL_law_651 rfl (lv_at hl 0 rfl) ?_
  refine lv_iload hx hb dL_law_652 (lv_at hl 4 rfl) ?_
  refine lv_iconst (v := nI (1)) hx hb dL_law_654 (by decide) ?_
  refine lv_iadd hx hb dL_law_655 ?_
  refine rt_i (y := nI (i + 1)) (nn_add (i) (1)) ?_
  refine sc_ld (k := i + 1) (x := x) hx hb hX hsc hS (by omega) hLb hA1 dL_law_656 ?_
  refine lv_aload_n hx hb dL_law_657 rfl (lv_at hl 0 rfl) ?_
  refine lv_iload hx hb dL_law_658 (lv_at hl 4 rfl) ?_
  refine lv_iconst (v := nI (2)) hx hb dL_law_660 (by decide) ?_
  refine lv_iadd hx hb dL_law_661 ?_
  refine rt_i (y := nI (i + 2)) (nn_add (i) (2)) ?_
  refine sc_ld (k := i + 2) (x := y) hx hb hX hsc hS (by omega) hLb hA2 dL_law_662 ?_
  refine ro_V (wo := wS cI cL a v) (As := [.int (x), .int (y)]) (rest := []) (q0 := 0) (ci := 2) hx hb hml hown hts (c_X2_who l dC dI cI cL cZ a v x y hv) (cwV 2 hts gL_law_X2_who rfl rfl rfl (by decide +kernel) ⟨Nat.le_of_ble_eq_true rfl, Nat.le_of_ble_eq_true rfl⟩) hK (pj_sub (X := wM cI cZ b w) (Y := wO cL o f) hP) rfl rfl rfl hl.1 rfl (Nat.le_of_ble_eq_true rfl) dL_law_663 ⟨(show cells ≤ 1054 by omega), (show slots ≤ 10461 by omega)⟩ ?_
  refine W.eq (g2 := F0 m 666 ls [.int (oI (whoC v x y))]) rfl ?_
  refine lv_aload_n hx hb dL_law_666 rfl (lv_at hl 2 rfl) ?_
  refine lv_aload_n hx hb dL_law_667 rfl (lv_at hl 0 rfl) ?_
  refine lv_iload hx hb dL_law_668 (lv_at hl 4 rfl) ?_
  refine lv_iconst (v := nI (1)) hx hb dL_law_670 (by decide) ?_
  refine lv_iadd hx hb dL_law_671 ?_
  refine rt_i (y := nI (i + 1)) (nn_add (i) (1)) ?_
  refine sc_ld (k := i + 1) (x := x) hx hb hX hsc hS (by omega) hLb hA1 dL_law_672 ?_
  refine lv_aload_n hx hb dL_law_673 rfl (lv_at hl 0 rfl) ?_
  refine lv_iload hx hb dL_law_674 (lv_at hl 4 rfl) ?_
  refine lv_iconst (v := nI (2)) hx hb dL_law_676 (by decide) ?_
  refine lv_iadd hx hb dL_law_677 ?_
  refine rt_i (y := nI (i + 2)) (nn_add (i) (2)) ?_
  refine sc_ld (k := i + 2) (x := y) hx hb hX hsc hS (by omega) hLb hA2 dL_law_678 ?_
  refine wx_V (X := []) (Y := wS cI cL a v ++ wO cL o f) (wo := wM cI cZ b w) (wo' := wM cI cZ b (mThx w (nI 0))) (As := [.int (x), .int (y)]) (rest := [.int (oI (whoC v x y))]) (q0 := 0) (ci := 3) hx hb hml hown hts (c_X3_who l dC dI cI cL cZ b w x y r_hv) (cwV 2 hts gL_law_X3_who rfl rfl rfl (by decide +kernel) ⟨Nat.le_of_ble_eq_true rfl, Nat.le_of_ble_eq_true rfl⟩) hK hP hD hS rfl rfl rfl rfl hl.1 rfl (Nat.le_of_ble_eq_true rfl) dL_law_679 ⟨(show cells ≤ 1054 by omega), (show slots ≤ 10461 by omega)⟩ (fun H locs hP hD hS => ?_)
  have hP : va_P (dC, dI) vwCl (TW cI cL cZ a b o v (mThx w (nI 0)) f) H := hP
  have hD : va_D (nwA s) (TW cI cL cZ a b o v (mThx w (nI 0)) f) := hD
  refine W.eq (g2 := F0 m 682 ls [.int (oI (mwhC (mThx w (nI 0)) x y)), .int (oI (whoC v x y))]) rfl ?_
  refine lv_icmp_eq (tgt := 886) hx hb dL_law_682 (by decide) (fun _ => ?_) (fun c9 => absurd heq c9)
  refine W.widen (Nat.le_add_right cells 1) (Nat.le_add_right slots 6) ?_
  exact kk ls H locs _ (lv_sub hl [0, 1, 2, 3, 4] rfl) hP hD hS
set_option maxHeartbeats 4000000 in
set_option maxRecDepth 100000 in
theorem lk_locate (CX : LX p l s m meth c args dC dI cI cL cZ sc L xs) (v : SV) (w : MV) (i : Nat) (hi : i + 4 ≤ L) (hl : lv_has ls 7 [(0, .ref sc), (1, .ref (a 0)), (2, .ref (b 0)), (3, .ref o), (4, .int (nI (i)))]) (hP : va_P (dC, dI) vwCl (TW cI cL cZ a b o v w f) H) (hD : va_D (nwA s) (TW cI cL cZ a b o v w f)) (hS : va_S (nwA s) s.heap H locs) (hcl : cells + 1 ≤ 1054 ∧ slots + 6 ≤ 10461) (x y : Int32) (hA1 : xs (i + 1) = x) (hA2 : xs (i + 2) = y) (hv : okS v) (r_hv : okM w) (heq : oI (locC v x y) = oI (mloC (mThx w (nI 0)) x y))
    (kk : ∀ (ls1 : Array Slot) (H1 : Heap) (locs1 : List Loc) (f1 : Nat → Int64), lv_has ls1 7 [(0, .ref sc), (1, .ref (a 0)), (2, .ref (b 0)), (3, .ref o), (4, .int (nI (i)))] → va_P (dC, dI) vwCl (TW cI cL cZ a b o v (mThx w (nI 0)) f1) H1 → va_D (nwA s) (TW cI cL cZ a b o v (mThx w (nI 0)) f1) → va_S (nwA s) s.heap H1 locs1 → W p l e room_1 s m args below meth c H1 locs1 (cells + 1) (slots + 6) Q (F0 m 886 ls1 [])) : W p l e room_1 s m args below meth c H locs cells slots Q (F0 m 713 ls []) := by
  obtain ⟨hx, hb, hml, hown, hts, hX, hsc, hK, hE, hN, hLb, hst⟩ := CX
  refine lv_aload_n hx hb dL_law_713 rfl (lv_at hl 1 rfl) ?_
  refine lv_aload_n hx hb dL_law_714 rfl (lv_at hl 0 rfl) ?_
  refine lv_iload hx hb dL_law_715 (lv_at hl 4 rfl) ?_
  refine lv_iconst (v := nI (1)) hx hb dL_law_717 (by decide) ?_
  refine lv_iadd hx hb dL_law_718 ?_
  refine rt_i (y := nI (i + 1)) (nn_add (i) (1)) ?_
  refine sc_ld (k := i + 1) (x := x) hx hb hX hsc hS (by omega) hLb hA1 dL_law_719 ?_
  refine lv_aload_n hx hb dL_law_720 rfl (lv_at hl 0 rfl) ?_
  refine lv_iload hx hb dL_law_721 (lv_at hl 4 rfl) ?_
  refine lv_iconst (v := nI (2)) hx hb dL_law_723 (by decide) ?_
  refine lv_iadd hx hb dL_law_724 ?_
  refine rt_i (y := nI (i + 2)) (nn_add (i) (2)) ?_
  refine sc_ld (k := i + 2) (x := y) hx hb hX hsc hS (by omega) hLb hA2 dL_law_725 ?_
  refine ro_V (wo := wS cI cL a v) (As := [.int (x), .int (y)]) (rest := []) (q0 := 0) (ci := 2) hx hb hml hown hts (c_X2_locate l dC dI cI cL cZ a v x y hv) (cwV 2 hts gL_law_X2_locate rfl rfl rfl (by decide +kernel) ⟨Nat.le_of_ble_eq_true rfl, Nat.le_of_ble_eq_true rfl⟩) hK (pj_sub (X := wM cI cZ b w) (Y := wO cL o f) hP) rfl rfl rfl hl.1 rfl (Nat.le_of_ble_eq_true rfl) dL_law_726 ⟨(show cells ≤ 1054 by omega), (show slots ≤ 10461 by omega)⟩ ?_
  refine W.eq (g2 := F0 m 729 ls [.int (oI (locC v x y))]) rfl ?_
  refine lv_aload_n hx hb dL_law_729 rfl (lv_at hl 2 rfl) ?_
  refine lv_aload_n hx hb dL_law_730 rfl (lv_at hl 0 rfl) ?_
  refine lv_iload hx hb dL_law_731 (lv_at hl 4 rfl) ?_
  refine lv_iconst (v := nI (1)) hx hb dL_law_733 (by decide) ?_
  refine lv_iadd hx hb dL_law_734 ?_
  refine rt_i (y := nI (i + 1)) (nn_add (i) (1)) ?_
  refine sc_ld (k := i + 1) (x := x) hx hb hX hsc hS (by omega) hLb hA1 dL_law_735 ?_
  refine lv_aload_n hx hb dL_law_736 rfl (lv_at hl 0 rfl) ?_
  refine lv_iload hx hb dL_law_737 (lv_at hl 4 rfl) ?_
  refine lv_iconst (v := nI (2)) hx hb dL_law_739 (by decide) ?_
  refine lv_iadd hx hb dL_law_740 ?_
  refine rt_i (y := nI (i + 2)) (nn_add (i) (2)) ?_
  refine sc_ld (k := i + 2) (x := y) hx hb hX hsc hS (by omega) hLb hA2 dL_law_741 ?_
  refine wx_V (X := []) (Y := wS cI cL a v ++ wO cL o f) (wo := wM cI cZ b w) (wo' := wM cI cZ b (mThx w (nI 0))) (As := [.int (x), .int (y)]) (rest := [.int (oI (locC v x y))]) (q0 := 0) (ci := 3) hx hb hml hown hts (c_X3_locate l dC dI cI cL cZ b w x y r_hv) (cwV 2 hts gL_law_X3_locate rfl rfl rfl (by decide +kernel) ⟨Nat.le_of_ble_eq_true rfl, Nat.le_of_ble_eq_true rfl⟩) hK hP hD hS rfl rfl rfl rfl hl.1 rfl (Nat.le_of_ble_eq_true rfl) dL_law_742 ⟨(show cells ≤ 1054 by omega), (show slots ≤ 10461 by omega)⟩ (fun H locs hP hD hS => ?_)
  have hP : va_P (dC, dI) vwCl (TW cI cL cZ a b o v (mThx w (nI 0)) f) H := hP
  have hD : va_D (nwA s) (TW cI cL cZ a b o v (mThx w (nI 0)) f) := hD
  refine W.eq (g2 := F0 m 745 ls [.int (oI (mloC (mThx w (nI 0)) x y)), .int (oI (locC v x y))]) rfl ?_
  refine lv_icmp_eq (tgt := 886) hx hb dL_law_745 (by decide) (fun _ => ?_) (fun c9 => absurd heq c9)
  refine W.widen (Nat.le_add_right cells 1) (Nat.le_add_right slots 6) ?_
  exact kk ls H locs _ (lv_sub hl [0, 1, 2, 3, 4] rfl) hP hD hS
set_option maxHeartbeats 4000000 in
set_option maxRecDepth 100000 in
theorem lk_beside (CX : LX p l s m meth c args dC dI cI cL cZ sc L xs) (v : SV) (w : MV) (i : Nat) (hi : i + 4 ≤ L) (hl : lv_has ls 7 [(0, .ref sc), (1, .ref (a 0)), (2, .ref (b 0)), (3, .ref o), (4, .int (nI (i)))]) (hP : va_P (dC, dI) vwCl (TW cI cL cZ a b o v w f) H) (hD : va_D (nwA s) (TW cI cL cZ a b o v w f)) (hS : va_S (nwA s) s.heap H locs) (hcl : cells + 1 ≤ 1054 ∧ slots + 6 ≤ 10461) (t j : Int32) (hA1 : xs (i + 1) = t) (hA2 : xs (i + 2) = j) (hv : okS v) (r_hv : okM w) (heq : oI (besC v t j) = oI (mbeC (mThx w (nI 0)) t j))
    (kk : ∀ (ls1 : Array Slot) (H1 : Heap) (locs1 : List Loc) (f1 : Nat → Int64), lv_has ls1 7 [(0, .ref sc), (1, .ref (a 0)), (2, .ref (b 0)), (3, .ref o), (4, .int (nI (i)))] → va_P (dC, dI) vwCl (TW cI cL cZ a b o v (mThx w (nI 0)) f1) H1 → va_D (nwA s) (TW cI cL cZ a b o v (mThx w (nI 0)) f1) → va_S (nwA s) s.heap H1 locs1 → W p l e room_1 s m args below meth c H1 locs1 (cells + 1) (slots + 6) Q (F0 m 886 ls1 [])) : W p l e room_1 s m args below meth c H locs cells slots Q (F0 m 750 ls []) := by
  obtain ⟨hx, hb, hml, hown, hts, hX, hsc, hK, hE, hN, hLb, hst⟩ := CX
  refine lv_aload_n hx hb dL_law_750 rfl (lv_at hl 1 rfl) ?_
  refine lv_aload_n hx hb dL_law_751 rfl (lv_at hl 0 rfl) ?_
  refine lv_iload hx hb dL_law_752 (lv_at hl 4 rfl) ?_
  refine lv_iconst (v := nI (1)) hx hb dL_law_754 (by decide) ?_
  refine lv_iadd hx hb dL_law_755 ?_
  refine rt_i (y := nI (i + 1)) (nn_add (i) (1)) ?_
  refine sc_ld (k := i + 1) (x := t) hx hb hX hsc hS (by omega) hLb hA1 dL_law_756 ?_
  refine lv_aload_n hx hb dL_law_757 rfl (lv_at hl 0 rfl) ?_
  refine lv_iload hx hb dL_law_758 (lv_at hl 4 rfl) ?_
  refine lv_iconst (v := nI (2)) hx hb dL_law_760 (by decide) ?_
  refine lv_iadd hx hb dL_law_761 ?_
  refine rt_i (y := nI (i + 2)) (nn_add (i) (2)) ?_
  refine sc_ld (k := i + 2) (x := j) hx hb hX hsc hS (by omega) hLb hA2 dL_law_762 ?_
  refine ro_V (wo := wS cI cL a v) (As := [.int (t), .int (j)]) (rest := []) (q0 := 0) (ci := 2) hx hb hml hown hts (c_X2_beside l dC dI cI cL cZ a v t j hv) (cwV 2 hts gL_law_X2_beside rfl rfl rfl (by decide +kernel) ⟨Nat.le_of_ble_eq_true rfl, Nat.le_of_ble_eq_true rfl⟩) hK (pj_sub (X := wM cI cZ b w) (Y := wO cL o f) hP) rfl rfl rfl hl.1 rfl (Nat.le_of_ble_eq_true rfl) dL_law_763 ⟨(show cells ≤ 1054 by omega), (show slots ≤ 10461 by omega)⟩ ?_
  refine W.eq (g2 := F0 m 766 ls [.int (oI (besC v t j))]) rfl ?_
  refine lv_aload_n hx hb dL_law_766 rfl (lv_at hl 2 rfl) ?_
  refine lv_aload_n hx hb dL_law_767 rfl (lv_at hl 0 rfl) ?_
  refine lv_iload hx hb dL_law_768 (lv_at hl 4 rfl) ?_
  refine lv_iconst (v := nI (1)) hx hb dL_law_770 (by decide) ?_
  refine lv_iadd hx hb dL_law_771 ?_
  refine rt_i (y := nI (i + 1)) (nn_add (i) (1)) ?_
  refine sc_ld (k := i + 1) (x := t) hx hb hX hsc hS (by omega) hLb hA1 dL_law_772 ?_
  refine lv_aload_n hx hb dL_law_773 rfl (lv_at hl 0 rfl) ?_
  refine lv_iload hx hb dL_law_774 (lv_at hl 4 rfl) ?_
  refine lv_iconst (v := nI (2)) hx hb dL_law_776 (by decide) ?_
  refine lv_iadd hx hb dL_law_777 ?_
  refine rt_i (y := nI (i + 2)) (nn_add (i) (2)) ?_
  refine sc_ld (k := i + 2) (x := j) hx hb hX hsc hS (by omega) hLb hA2 dL_law_778 ?_
  refine wx_V (X := []) (Y := wS cI cL a v ++ wO cL o f) (wo := wM cI cZ b w) (wo' := wM cI cZ b (mThx w (nI 0))) (As := [.int (t), .int (j)]) (rest := [.int (oI (besC v t j))]) (q0 := 0) (ci := 3) hx hb hml hown hts (c_X3_beside l dC dI cI cL cZ b w t j r_hv) (cwV 2 hts gL_law_X3_beside rfl rfl rfl (by decide +kernel) ⟨Nat.le_of_ble_eq_true rfl, Nat.le_of_ble_eq_true rfl⟩) hK hP hD hS rfl rfl rfl rfl hl.1 rfl (Nat.le_of_ble_eq_true rfl) dL_law_779 ⟨(show cells ≤ 1054 by omega), (show slots ≤ 10461 by omega)⟩ (fun H locs hP hD hS => ?_)
  have hP : va_P (dC, dI) vwCl (TW cI cL cZ a b o v (mThx w (nI 0)) f) H := hP
  have hD : va_D (nwA s) (TW cI cL cZ a b o v (mThx w (nI 0)) f) := hD
  refine W.eq (g2 := F0 m 782 ls [.int (oI (mbeC (mThx w (nI 0)) t j)), .int (oI (besC v t j))]) rfl ?_
  refine lv_icmp_eq (tgt := 886) hx hb dL_law_782 (by decide) (fun _ => ?_) (fun c9 => absurd heq c9)
  refine W.widen (Nat.le_add_right cells 1) (Nat.le_add_right slots 6) ?_
  exact kk ls H locs _ (lv_sub hl [0, 1, 2, 3, 4] rfl) hP hD hS
set_option maxHeartbeats 4000000 in
set_option maxRecDepth 100000 in
theorem lk_isGood (CX : LX p l s m meth c args dC dI cI cL cZ sc L xs) (v : SV) (w : MV) (i : Nat) (hi : i + 4 ≤ L) (hl : lv_has ls 7 [(0, .ref sc), (1, .ref (a 0)), (2, .ref (b 0)), (3, .ref o), (4, .int (nI (i)))]) (hP : va_P (dC, dI) vwCl (TW cI cL cZ a b o v w f) H) (hD : va_D (nwA s) (TW cI cL cZ a b o v w f)) (hS : va_S (nwA s) s.heap H locs) (hcl : cells + 1 ≤ 1054 ∧ slots + 6 ≤ 10461) (t j : Int32) (hA1 : xs (i + 1) = t) (hA2 : xs (i + 2) = j) (hv : okS v) (r_hv : okM w) (heq : bI (gooC v t j) = bI (mgoC (mThx w (nI 0)) t j))
    (kk : ∀ (ls1 : Array Slot) (H1 : Heap) (locs1 : List Loc) (f1 : Nat → Int64), lv_has ls1 7 [(0, .ref sc), (1, .ref (a 0)), (2, .ref (b 0)), (3, .ref o), (4, .int (nI (i)))] → va_P (dC, dI) vwCl (TW cI cL cZ a b o v (mThx w (nI 0)) f1) H1 → va_D (nwA s) (TW cI cL cZ a b o v (mThx w (nI 0)) f1) → va_S (nwA s) s.heap H1 locs1 → W p l e room_1 s m args below meth c H1 locs1 (cells + 1) (slots + 6) Q (F0 m 886 ls1 [])) : W p l e room_1 s m args below meth c H locs cells slots Q (F0 m 787 ls []) := by
  obtain ⟨hx, hb, hml, hown, hts, hX, hsc, hK, hE, hN, hLb, hst⟩ := CX
  refine lv_aload_n hx hb dL_law_787 rfl (lv_at hl 1 rfl) ?_
  refine lv_aload_n hx hb dL_law_788 rfl (lv_at hl 0 rfl) ?_
  refine lv_iload hx hb dL_law_789 (lv_at hl 4 rfl) ?_
  refine lv_iconst (v := nI (1)) hx hb dL_law_791 (by decide) ?_
  refine lv_iadd hx hb dL_law_792 ?_
  refine rt_i (y := nI (i + 1)) (nn_add (i) (1)) ?_
  refine sc_ld (k := i + 1) (x := t) hx hb hX hsc hS (by omega) hLb hA1 dL_law_793 ?_
  refine lv_aload_n hx hb dL_law_794 rfl (lv_at hl 0 rfl) ?_
  refine lv_iload hx hb dL_law_795 (lv_at hl 4 rfl) ?_
  refine lv_iconst (v := nI (2)) hx hb dL_law_797 (by decide) ?_
  refine lv_iadd hx hb dL_law_798 ?_
  refine rt_i (y := nI (i + 2)) (nn_add (i) (2)) ?_
  refine sc_ld (k := i + 2) (x := j) hx hb hX hsc hS (by omega) hLb hA2 dL_law_799 ?_
  refine ro_V (wo := wS cI cL a v) (As := [.int (t), .int (j)]) (rest := []) (q0 := 0) (ci := 2) hx hb hml hown hts (c_X2_isGood l dC dI cI cL cZ a v t j hv) (cwV 2 hts gL_law_X2_isGood rfl rfl rfl (by decide +kernel) ⟨Nat.le_of_ble_eq_true rfl, Nat.le_of_ble_eq_true rfl⟩) hK (pj_sub (X := wM cI cZ b w) (Y := wO cL o f) hP) rfl rfl rfl hl.1 rfl (Nat.le_of_ble_eq_true rfl) dL_law_800 ⟨(show cells ≤ 1054 by omega), (show slots ≤ 10461 by omega)⟩ ?_
  refine W.eq (g2 := F0 m 803 ls [.int (bI (gooC v t j))]) rfl ?_
  refine lv_aload_n hx hb dL_law_803 rfl (lv_at hl 2 rfl) ?_
  refine lv_aload_n hx hb dL_law_804 rfl (lv_at hl 0 rfl) ?_
  refine lv_iload hx hb dL_law_805 (lv_at hl 4 rfl) ?_
  refine lv_iconst (v := nI (1)) hx hb dL_law_807 (by decide) ?_
  refine lv_iadd hx hb dL_law_808 ?_
  refine rt_i (y := nI (i + 1)) (nn_add (i) (1)) ?_
  refine sc_ld (k := i + 1) (x := t) hx hb hX hsc hS (by omega) hLb hA1 dL_law_809 ?_
  refine lv_aload_n hx hb dL_law_810 rfl (lv_at hl 0 rfl) ?_
  refine lv_iload hx hb dL_law_811 (lv_at hl 4 rfl) ?_
  refine lv_iconst (v := nI (2)) hx hb dL_law_813 (by decide) ?_
  refine lv_iadd hx hb dL_law_814 ?_
  refine rt_i (y := nI (i + 2)) (nn_add (i) (2)) ?_
  refine sc_ld (k := i + 2) (x := j) hx hb hX hsc hS (by omega) hLb hA2 dL_law_815 ?_
  refine wx_V (X := []) (Y := wS cI cL a v ++ wO cL o f) (wo := wM cI cZ b w) (wo' := wM cI cZ b (mThx w (nI 0))) (As := [.int (t), .int (j)]) (rest := [.int (bI (gooC v t j))]) (q0 := 0) (ci := 3) hx hb hml hown hts (c_X3_isGood l dC dI cI cL cZ b w t j r_hv) (cwV 2 hts gL_law_X3_isGood rfl rfl rfl (by decide +kernel) ⟨Nat.le_of_ble_eq_true rfl, Nat.le_of_ble_eq_true rfl⟩) hK hP hD hS rfl rfl rfl rfl hl.1 rfl (Nat.le_of_ble_eq_true rfl) dL_law_816 ⟨(show cells ≤ 1054 by omega), (show slots ≤ 10461 by omega)⟩ (fun H locs hP hD hS => ?_)
  have hP : va_P (dC, dI) vwCl (TW cI cL cZ a b o v (mThx w (nI 0)) f) H := hP
  have hD : va_D (nwA s) (TW cI cL cZ a b o v (mThx w (nI 0)) f) := hD
  refine W.eq (g2 := F0 m 819 ls [.int (bI (mgoC (mThx w (nI 0)) t j)), .int (bI (gooC v t j))]) rfl ?_
  refine lv_icmp_eq (tgt := 886) hx hb dL_law_819 (by decide) (fun _ => ?_) (fun c9 => absurd heq c9)
  refine W.widen (Nat.le_add_right cells 1) (Nat.le_add_right slots 6) ?_
  exact kk ls H locs _ (lv_sub hl [0, 1, 2, 3, 4] rfl) hP hD hS
set_option maxHeartbeats 4000000 in
set_option maxRecDepth 100000 in
theorem lk_corner (CX : LX p l s m meth c args dC dI cI cL cZ sc L xs) (v : SV) (w : MV) (i : Nat) (hi : i + 4 ≤ L) (hl : lv_has ls 7 [(0, .ref sc), (1, .ref (a 0)), (2, .ref (b 0)), (3, .ref o), (4, .int (nI (i)))]) (hP : va_P (dC, dI) vwCl (TW cI cL cZ a b o v w f) H) (hD : va_D (nwA s) (TW cI cL cZ a b o v w f)) (hS : va_S (nwA s) s.heap H locs) (hcl : cells + 1 ≤ 1054 ∧ slots + 6 ≤ 10461) (t j : Int32) (hA1 : xs (i + 1) = t) (hA2 : xs (i + 2) = j) (hv : okS v) (r_hv : okM w) (heq : oI (corC v t j) = oI (mcrC (mThx w (nI 0)) t j))
    (kk : ∀ (ls1 : Array Slot) (H1 : Heap) (locs1 : List Loc) (f1 : Nat → Int64), lv_has ls1 7 [(0, .ref sc), (1, .ref (a 0)), (2, .ref (b 0)), (3, .ref o), (4, .int (nI (i)))] → va_P (dC, dI) vwCl (TW cI cL cZ a b o v (mThx w (nI 0)) f1) H1 → va_D (nwA s) (TW cI cL cZ a b o v (mThx w (nI 0)) f1) → va_S (nwA s) s.heap H1 locs1 → W p l e room_1 s m args below meth c H1 locs1 (cells + 1) (slots + 6) Q (F0 m 886 ls1 [])) : W p l e room_1 s m args below meth c H locs cells slots Q (F0 m 824 ls []) := by
  obtain ⟨hx, hb, hml, hown, hts, hX, hsc, hK, hE, hN, hLb, hst⟩ := CX
  refine lv_aload_n hx hb dL_law_824 rfl (lv_at hl 1 rfl) ?_
  refine lv_aload_n hx hb dL_law_825 rfl (lv_at hl 0 rfl) ?_
  refine lv_iload hx hb dL_law_826 (lv_at hl 4 rfl) ?_
  refine lv_iconst (v := nI (1)) hx hb dL_law_828 (by decide) ?_
  refine lv_iadd hx hb dL_law_829 ?_
  refine rt_i (y := nI (i + 1)) (nn_add (i) (1)) ?_
  refine sc_ld (k := i + 1) (x := t) hx hb hX hsc hS (by omega) hLb hA1 dL_law_830 ?_
  refine lv_aload_n hx hb dL_law_831 rfl (lv_at hl 0 rfl) ?_
  refine lv_iload hx hb dL_law_832 (lv_at hl 4 rfl) ?_
  refine lv_iconst (v := nI (2)) hx hb dL_law_834 (by decide) ?_
  refine lv_iadd hx hb dL_law_835 ?_
  refine rt_i (y := nI (i + 2)) (nn_add (i) (2)) ?_
  refine sc_ld (k := i + 2) (x := j) hx hb hX hsc hS (by omega) hLb hA2 dL_law_836 ?_
  refine ro_V (wo := wS cI cL a v) (As := [.int (t), .int (j)]) (rest := []) (q0 := 0) (ci := 2) hx hb hml hown hts (c_X2_corner l dC dI cI cL cZ a v t j hv) (cwV 2 hts gL_law_X2_corner rfl rfl rfl (by decide +kernel) ⟨Nat.le_of_ble_eq_true rfl, Nat.le_of_ble_eq_true rfl⟩) hK (pj_sub (X := wM cI cZ b w) (Y := wO cL o f) hP) rfl rfl rfl hl.1 rfl (Nat.le_of_ble_eq_true rfl) dL_law_837 ⟨(show cells ≤ 1054 by omega), (show slots ≤ 10461 by omega)⟩ ?_
  refine W.eq (g2 := F0 m 840 ls [.int (oI (corC v t j))]) rfl ?_
  refine lv_aload_n hx hb dL_law_840 rfl (lv_at hl 2 rfl) ?_
  refine lv_aload_n hx hb dL_law_841 rfl (lv_at hl 0 rfl) ?_
  refine lv_iload hx hb dL_law_842 (lv_at hl 4 rfl) ?_
  refine lv_iconst (v := nI (1)) hx hb dL_law_844 (by decide) ?_
  refine lv_iadd hx hb dL_law_845 ?_
  refine rt_i (y := nI (i + 1)) (nn_add (i) (1)) ?_
  refine sc_ld (k := i + 1) (x := t) hx hb hX hsc hS (by omega) hLb hA1 dL_law_846 ?_
  refine lv_aload_n hx hb dL_law_847 rfl (lv_at hl 0 rfl) ?_
  refine lv_iload hx hb dL_law_848 (lv_at hl 4 rfl) ?_
  refine lv_iconst (v := nI (2)) hx hb dL_law_850 (by decide) ?_
  refine lv_iadd hx hb dL_law_851 ?_
  refine rt_i (y := nI (i + 2)) (nn_add (i) (2)) ?_
  refine sc_ld (k := i + 2) (x := j) hx hb hX hsc hS (by omega) hLb hA2 dL_law_852 ?_
  refine wx_V (X := []) (Y := wS cI cL a v ++ wO cL o f) (wo := wM cI cZ b w) (wo' := wM cI cZ b (mThx w (nI 0))) (As := [.int (t), .int (j)]) (rest := [.int (oI (corC v t j))]) (q0 := 0) (ci := 3) hx hb hml hown hts (c_X3_corner l dC dI cI cL cZ b w t j r_hv) (cwV 2 hts gL_law_X3_corner rfl rfl rfl (by decide +kernel) ⟨Nat.le_of_ble_eq_true rfl, Nat.le_of_ble_eq_true rfl⟩) hK hP hD hS rfl rfl rfl rfl hl.1 rfl (Nat.le_of_ble_eq_true rfl) dL_law_853 ⟨(show cells ≤ 1054 by omega), (show slots ≤ 10461 by omega)⟩ (fun H locs hP hD hS => ?_)
  have hP : va_P (dC, dI) vwCl (TW cI cL cZ a b o v (mThx w (nI 0)) f) H := hP
  have hD : va_D (nwA s) (TW cI cL cZ a b o v (mThx w (nI 0)) f) := hD
  refine W.eq (g2 := F0 m 856 ls [.int (oI (mcrC (mThx w (nI 0)) t j)), .int (oI (corC v t j))]) rfl ?_
  refine lv_icmp_eq (tgt := 886) hx hb dL_law_856 (by decide) (fun _ => ?_) (fun c9 => absurd heq c9)
  refine W.widen (Nat.le_add_right cells 1) (Nat.le_add_right slots 6) ?_
  exact kk ls H locs _ (lv_sub hl [0, 1, 2, 3, 4] rfl) hP hD hS
set_option maxHeartbeats 4000000 in
set_option maxRecDepth 100000 in
theorem lk_painted_0 (CX : LX p l s m meth c args dC dI cI cL cZ sc L xs) (v : SV) (w : MV) (i : Nat) (hi : i + 4 ≤ L) (hl : lv_has ls 7 [(0, .ref sc), (1, .ref (a 0)), (2, .ref (b 0)), (3, .ref o), (4, .int (nI (i)))]) (hP : va_P (dC, dI) vwCl (TW cI cL cZ a b o v w f) H) (hD : va_D (nwA s) (TW cI cL cZ a b o v w f)) (hS : va_S (nwA s) s.heap H locs) (hcl : cells + 1 ≤ 1054 ∧ slots + 6 ≤ 10461)  (hA1 : xs (i + 1) = nI (0)) (hv : okS v) (r_hv : okM w) (heq : lI (ppx v 0) = lI (mpx (mThx w (nI 0)) 0))
    (kk : ∀ (ls1 : Array Slot) (H1 : Heap) (locs1 : List Loc) (f1 : Nat → Int64), lv_has ls1 7 [(0, .ref sc), (1, .ref (a 0)), (2, .ref (b 0)), (3, .ref o), (4, .int (nI (i)))] → va_P (dC, dI) vwCl (TW cI cL cZ a b o v (mThx w (nI 0)) f1) H1 → va_D (nwA s) (TW cI cL cZ a b o v (mThx w (nI 0)) f1) → va_S (nwA s) s.heap H1 locs1 → W p l e room_1 s m args below meth c H1 locs1 (cells + 1) (slots + 6) Q (F0 m 886 ls1 [])) : W p l e room_1 s m args below meth c H locs cells slots Q (F0 m 687 ls []) := by
  obtain ⟨hx, hb, hml, hown, hts, hX, hsc, hK, hE, hN, hLb, hst⟩ := CX
  refine lv_aload_n hx hb dL_law_687 rfl (lv_at hl 1 rfl) ?_
  refine lv_aload_n hx hb dL_law_688 rfl (lv_at hl 0 rfl) ?_
  refine lv_iload hx hb dL_law_689 (lv_at hl 4 rfl) ?_
  refine lv_iconst (v := nI (1)) hx hb dL_law_691 (by decide) ?_
  refine lv_iadd hx hb dL_law_692 ?_
  refine rt_i (y := nI (i + 1)) (nn_add (i) (1)) ?_
  refine sc_ld (k := i + 1) (x := nI (0)) hx hb hX hsc hS (by omega) hLb hA1 dL_law_693 ?_
  refine ro_V (wo := wS cI cL a v) (As := [.int (nI (0))]) (rest := []) (q0 := 0) (ci := 2) hx hb hml hown hts (c_X2_painted_0 l dC dI cI cL cZ a v  hv) (cwV 1 hts gL_law_X2_painted rfl rfl rfl (by decide +kernel) ⟨Nat.le_of_ble_eq_true rfl, Nat.le_of_ble_eq_true rfl⟩) hK (pj_sub (X := wM cI cZ b w) (Y := wO cL o f) hP) rfl rfl rfl hl.1 rfl (Nat.le_of_ble_eq_true rfl) dL_law_694 ⟨(show cells ≤ 1054 by omega), (show slots ≤ 10461 by omega)⟩ ?_
  refine W.eq (g2 := F0 m 697 ls [.long (lI (ppx v 0))]) rfl ?_
  refine lv_aload_n hx hb dL_law_697 rfl (lv_at hl 2 rfl) ?_
  refine lv_aload_n hx hb dL_law_698 rfl (lv_at hl 0 rfl) ?_
  refine lv_iload hx hb dL_law_699 (lv_at hl 4 rfl) ?_
  refine lv_iconst (v := nI (1)) hx hb dL_law_701 (by decide) ?_
  refine lv_iadd hx hb dL_law_702 ?_
  refine rt_i (y := nI (i + 1)) (nn_add (i) (1)) ?_
  refine sc_ld (k := i + 1) (x := nI (0)) hx hb hX hsc hS (by omega) hLb hA1 dL_law_703 ?_
  refine wx_V (X := []) (Y := wS cI cL a v ++ wO cL o f) (wo := wM cI cZ b w) (wo' := wM cI cZ b (mThx w (nI 0))) (As := [.int (nI (0))]) (rest := [.long (lI (ppx v 0))]) (q0 := 0) (ci := 3) hx hb hml hown hts (c_X3_painted_0 l dC dI cI cL cZ b w  r_hv) (cwV 1 hts gL_law_X3_painted rfl rfl rfl (by decide +kernel) ⟨Nat.le_of_ble_eq_true rfl, Nat.le_of_ble_eq_true rfl⟩) hK hP hD hS rfl rfl rfl rfl hl.1 rfl (Nat.le_of_ble_eq_true rfl) dL_law_704 ⟨(show cells ≤ 1054 by omega), (show slots ≤ 10461 by omega)⟩ (fun H locs hP hD hS => ?_)
  have hP : va_P (dC, dI) vwCl (TW cI cL cZ a b o v (mThx w (nI 0)) f) H := hP
  have hD : va_D (nwA s) (TW cI cL cZ a b o v (mThx w (nI 0)) f) := hD
  refine W.eq (g2 := F0 m 707 ls [.long (lI (mpx (mThx w (nI 0)) 0)), .long (lI (ppx v 0))]) rfl ?_
  refine W.lcmp hx hb dL_law_707 ?_
  refine lv_if_eq (tgt := 886) hx hb dL_law_708 (by decide) (fun _ => ?_) (fun c9 => absurd (by rw [heq]; exact lg_self _) c9)
  refine W.widen (Nat.le_add_right cells 1) (Nat.le_add_right slots 6) ?_
  exact kk ls H locs _ (lv_sub hl [0, 1, 2, 3, 4] rfl) hP hD hS
set_option maxHeartbeats 4000000 in
set_option maxRecDepth 100000 in
theorem lk_painted_1 (CX : LX p l s m meth c args dC dI cI cL cZ sc L xs) (v : SV) (w : MV) (i : Nat) (hi : i + 4 ≤ L) (hl : lv_has ls 7 [(0, .ref sc), (1, .ref (a 0)), (2, .ref (b 0)), (3, .ref o), (4, .int (nI (i)))]) (hP : va_P (dC, dI) vwCl (TW cI cL cZ a b o v w f) H) (hD : va_D (nwA s) (TW cI cL cZ a b o v w f)) (hS : va_S (nwA s) s.heap H locs) (hcl : cells + 1 ≤ 1054 ∧ slots + 6 ≤ 10461)  (hA1 : xs (i + 1) = nI (1)) (hv : okS v) (r_hv : okM w) (heq : lI (ppx v 1) = lI (mpx (mThx w (nI 0)) 1))
    (kk : ∀ (ls1 : Array Slot) (H1 : Heap) (locs1 : List Loc) (f1 : Nat → Int64), lv_has ls1 7 [(0, .ref sc), (1, .ref (a 0)), (2, .ref (b 0)), (3, .ref o), (4, .int (nI (i)))] → va_P (dC, dI) vwCl (TW cI cL cZ a b o v (mThx w (nI 0)) f1) H1 → va_D (nwA s) (TW cI cL cZ a b o v (mThx w (nI 0)) f1) → va_S (nwA s) s.heap H1 locs1 → W p l e room_1 s m args below meth c H1 locs1 (cells + 1) (slots + 6) Q (F0 m 886 ls1 [])) : W p l e room_1 s m args below meth c H locs cells slots Q (F0 m 687 ls []) := by
  obtain ⟨hx, hb, hml, hown, hts, hX, hsc, hK, hE, hN, hLb, hst⟩ := CX
  refine lv_aload_n hx hb dL_law_687 rfl (lv_at hl 1 rfl) ?_
  refine lv_aload_n hx hb dL_law_688 rfl (lv_at hl 0 rfl) ?_
  refine lv_iload hx hb dL_law_689 (lv_at hl 4 rfl) ?_
  refine lv_iconst (v := nI (1)) hx hb dL_law_691 (by decide) ?_
  refine lv_iadd hx hb dL_law_692 ?_
  refine rt_i (y := nI (i + 1)) (nn_add (i) (1)) ?_
  refine sc_ld (k := i + 1) (x := nI (1)) hx hb hX hsc hS (by omega) hLb hA1 dL_law_693 ?_
  refine ro_V (wo := wS cI cL a v) (As := [.int (nI (1))]) (rest := []) (q0 := 0) (ci := 2) hx hb hml hown hts (c_X2_painted_1 l dC dI cI cL cZ a v  hv) (cwV 1 hts gL_law_X2_painted rfl rfl rfl (by decide +kernel) ⟨Nat.le_of_ble_eq_true rfl, Nat.le_of_ble_eq_true rfl⟩) hK (pj_sub (X := wM cI cZ b w) (Y := wO cL o f) hP) rfl rfl rfl hl.1 rfl (Nat.le_of_ble_eq_true rfl) dL_law_694 ⟨(show cells ≤ 1054 by omega), (show slots ≤ 10461 by omega)⟩ ?_
  refine W.eq (g2 := F0 m 697 ls [.long (lI (ppx v 1))]) rfl ?_
  refine lv_aload_n hx hb dL_law_697 rfl (lv_at hl 2 rfl) ?_
  refine lv_aload_n hx hb dL_law_698 rfl (lv_at hl 0 rfl) ?_
  refine lv_iload hx hb dL_law_699 (lv_at hl 4 rfl) ?_
  refine lv_iconst (v := nI (1)) hx hb dL_law_701 (by decide) ?_
  refine lv_iadd hx hb dL_law_702 ?_
  refine rt_i (y := nI (i + 1)) (nn_add (i) (1)) ?_
  refine sc_ld (k := i + 1) (x := nI (1)) hx hb hX hsc hS (by omega) hLb hA1 dL_law_703 ?_
  refine wx_V (X := []) (Y := wS cI cL a v ++ wO cL o f) (wo := wM cI cZ b w) (wo' := wM cI cZ b (mThx w (nI 0))) (As := [.int (nI (1))]) (rest := [.long (lI (ppx v 1))]) (q0 := 0) (ci := 3) hx hb hml hown hts (c_X3_painted_1 l dC dI cI cL cZ b w  r_hv) (cwV 1 hts gL_law_X3_painted rfl rfl rfl (by decide +kernel) ⟨Nat.le_of_ble_eq_true rfl, Nat.le_of_ble_eq_true rfl⟩) hK hP hD hS rfl rfl rfl rfl hl.1 rfl (Nat.le_of_ble_eq_true rfl) dL_law_704 ⟨(show cells ≤ 1054 by omega), (show slots ≤ 10461 by omega)⟩ (fun H locs hP hD hS => ?_)
  have hP : va_P (dC, dI) vwCl (TW cI cL cZ a b o v (mThx w (nI 0)) f) H := hP
  have hD : va_D (nwA s) (TW cI cL cZ a b o v (mThx w (nI 0)) f) := hD
  refine W.eq (g2 := F0 m 707 ls [.long (lI (mpx (mThx w (nI 0)) 1)), .long (lI (ppx v 1))]) rfl ?_
  refine W.lcmp hx hb dL_law_707 ?_
  refine lv_if_eq (tgt := 886) hx hb dL_law_708 (by decide) (fun _ => ?_) (fun c9 => absurd (by rw [heq]; exact lg_self _) c9)
  refine W.widen (Nat.le_add_right cells 1) (Nat.le_add_right slots 6) ?_
  exact kk ls H locs _ (lv_sub hl [0, 1, 2, 3, 4] rfl) hP hD hS
set_option maxHeartbeats 4000000 in
set_option maxRecDepth 100000 in
theorem lk_painted_2 (CX : LX p l s m meth c args dC dI cI cL cZ sc L xs) (v : SV) (w : MV) (i : Nat) (hi : i + 4 ≤ L) (hl : lv_has ls 7 [(0, .ref sc), (1, .ref (a 0)), (2, .ref (b 0)), (3, .ref o), (4, .int (nI (i)))]) (hP : va_P (dC, dI) vwCl (TW cI cL cZ a b o v w f) H) (hD : va_D (nwA s) (TW cI cL cZ a b o v w f)) (hS : va_S (nwA s) s.heap H locs) (hcl : cells + 1 ≤ 1054 ∧ slots + 6 ≤ 10461)  (hA1 : xs (i + 1) = nI (2)) (hv : okS v) (r_hv : okM w) (heq : lI (ppx v 2) = lI (mpx (mThx w (nI 0)) 2))
    (kk : ∀ (ls1 : Array Slot) (H1 : Heap) (locs1 : List Loc) (f1 : Nat → Int64), lv_has ls1 7 [(0, .ref sc), (1, .ref (a 0)), (2, .ref (b 0)), (3, .ref o), (4, .int (nI (i)))] → va_P (dC, dI) vwCl (TW cI cL cZ a b o v (mThx w (nI 0)) f1) H1 → va_D (nwA s) (TW cI cL cZ a b o v (mThx w (nI 0)) f1) → va_S (nwA s) s.heap H1 locs1 → W p l e room_1 s m args below meth c H1 locs1 (cells + 1) (slots + 6) Q (F0 m 886 ls1 [])) : W p l e room_1 s m args below meth c H locs cells slots Q (F0 m 687 ls []) := by
  obtain ⟨hx, hb, hml, hown, hts, hX, hsc, hK, hE, hN, hLb, hst⟩ := CX
  refine lv_aload_n hx hb dL_law_687 rfl (lv_at hl 1 rfl) ?_
  refine lv_aload_n hx hb dL_law_688 rfl (lv_at hl 0 rfl) ?_
  refine lv_iload hx hb dL_law_689 (lv_at hl 4 rfl) ?_
  refine lv_iconst (v := nI (1)) hx hb dL_law_691 (by decide) ?_
  refine lv_iadd hx hb dL_law_692 ?_
  refine rt_i (y := nI (i + 1)) (nn_add (i) (1)) ?_
  refine sc_ld (k := i + 1) (x := nI (2)) hx hb hX hsc hS (by omega) hLb hA1 dL_law_693 ?_
  refine ro_V (wo := wS cI cL a v) (As := [.int (nI (2))]) (rest := []) (q0 := 0) (ci := 2) hx hb hml hown hts (c_X2_painted_2 l dC dI cI cL cZ a v  hv) (cwV 1 hts gL_law_X2_painted rfl rfl rfl (by decide +kernel) ⟨Nat.le_of_ble_eq_true rfl, Nat.le_of_ble_eq_true rfl⟩) hK (pj_sub (X := wM cI cZ b w) (Y := wO cL o f) hP) rfl rfl rfl hl.1 rfl (Nat.le_of_ble_eq_true rfl) dL_law_694 ⟨(show cells ≤ 1054 by omega), (show slots ≤ 10461 by omega)⟩ ?_
  refine W.eq (g2 := F0 m 697 ls [.long (lI (ppx v 2))]) rfl ?_
  refine lv_aload_n hx hb dL_law_697 rfl (lv_at hl 2 rfl) ?_
  refine lv_aload_n hx hb dL_law_698 rfl (lv_at hl 0 rfl) ?_
  refine lv_iload hx hb dL_law_699 (lv_at hl 4 rfl) ?_
  refine lv_iconst (v := nI (1)) hx hb dL_law_701 (by decide) ?_
  refine lv_iadd hx hb dL_law_702 ?_
  refine rt_i (y := nI (i + 1)) (nn_add (i) (1)) ?_
  refine sc_ld (k := i + 1) (x := nI (2)) hx hb hX hsc hS (by omega) hLb hA1 dL_law_703 ?_
  refine wx_V (X := []) (Y := wS cI cL a v ++ wO cL o f) (wo := wM cI cZ b w) (wo' := wM cI cZ b (mThx w (nI 0))) (As := [.int (nI (2))]) (rest := [.long (lI (ppx v 2))]) (q0 := 0) (ci := 3) hx hb hml hown hts (c_X3_painted_2 l dC dI cI cL cZ b w  r_hv) (cwV 1 hts gL_law_X3_painted rfl rfl rfl (by decide +kernel) ⟨Nat.le_of_ble_eq_true rfl, Nat.le_of_ble_eq_true rfl⟩) hK hP hD hS rfl rfl rfl rfl hl.1 rfl (Nat.le_of_ble_eq_true rfl) dL_law_704 ⟨(show cells ≤ 1054 by omega), (show slots ≤ 10461 by omega)⟩ (fun H locs hP hD hS => ?_)
  have hP : va_P (dC, dI) vwCl (TW cI cL cZ a b o v (mThx w (nI 0)) f) H := hP
  have hD : va_D (nwA s) (TW cI cL cZ a b o v (mThx w (nI 0)) f) := hD
  refine W.eq (g2 := F0 m 707 ls [.long (lI (mpx (mThx w (nI 0)) 2)), .long (lI (ppx v 2))]) rfl ?_
  refine W.lcmp hx hb dL_law_707 ?_
  refine lv_if_eq (tgt := 886) hx hb dL_law_708 (by decide) (fun _ => ?_) (fun c9 => absurd (by rw [heq]; exact lg_self _) c9)
  refine W.widen (Nat.le_add_right cells 1) (Nat.le_add_right slots 6) ?_
  exact kk ls H locs _ (lv_sub hl [0, 1, 2, 3, 4] rfl) hP hD hS
set_option maxHeartbeats 4000000 in
set_option maxRecDepth 100000 in
theorem lk_painted_3 (CX : LX p l s m meth c args dC dI cI cL cZ sc L xs) (v : SV) (w : MV) (i : Nat) (hi : i + 4 ≤ L) (hl : lv_has ls 7 [(0, .ref sc), (1, .ref (a 0)), (2, .ref (b 0)), (3, .ref o), (4, .int (nI (i)))]) (hP : va_P (dC, dI) vwCl (TW cI cL cZ a b o v w f) H) (hD : va_D (nwA s) (TW cI cL cZ a b o v w f)) (hS : va_S (nwA s) s.heap H locs) (hcl : cells + 1 ≤ 1054 ∧ slots + 6 ≤ 10461)  (hA1 : xs (i + 1) = nI (3)) (hv : okS v) (r_hv : okM w) (heq : lI (sotC v) = lI (mp3 (mThx w (nI 0))))
    (kk : ∀ (ls1 : Array Slot) (H1 : Heap) (locs1 : List Loc) (f1 : Nat → Int64), lv_has ls1 7 [(0, .ref sc), (1, .ref (a 0)), (2, .ref (b 0)), (3, .ref o), (4, .int (nI (i)))] → va_P (dC, dI) vwCl (TW cI cL cZ a b o v (mThx w (nI 0)) f1) H1 → va_D (nwA s) (TW cI cL cZ a b o v (mThx w (nI 0)) f1) → va_S (nwA s) s.heap H1 locs1 → W p l e room_1 s m args below meth c H1 locs1 (cells + 1) (slots + 6) Q (F0 m 886 ls1 [])) : W p l e room_1 s m args below meth c H locs cells slots Q (F0 m 687 ls []) := by
  obtain ⟨hx, hb, hml, hown, hts, hX, hsc, hK, hE, hN, hLb, hst⟩ := CX
  refine lv_aload_n hx hb dL_law_687 rfl (lv_at hl 1 rfl) ?_
  refine lv_aload_n hx hb dL_law_688 rfl (lv_at hl 0 rfl) ?_
  refine lv_iload hx hb dL_law_689 (lv_at hl 4 rfl) ?_
  refine lv_iconst (v := nI (1)) hx hb dL_law_691 (by decide) ?_
  refine lv_iadd hx hb dL_law_692 ?_
  refine rt_i (y := nI (i + 1)) (nn_add (i) (1)) ?_
  refine sc_ld (k := i + 1) (x := nI (3)) hx hb hX hsc hS (by omega) hLb hA1 dL_law_693 ?_
  refine ro_V (wo := wS cI cL a v) (As := [.int (nI (3))]) (rest := []) (q0 := 0) (ci := 2) hx hb hml hown hts (c_X2_painted_3 l dC dI cI cL cZ a v  hv) (cwV 1 hts gL_law_X2_painted rfl rfl rfl (by decide +kernel) ⟨Nat.le_of_ble_eq_true rfl, Nat.le_of_ble_eq_true rfl⟩) hK (pj_sub (X := wM cI cZ b w) (Y := wO cL o f) hP) rfl rfl rfl hl.1 rfl (Nat.le_of_ble_eq_true rfl) dL_law_694 ⟨(show cells ≤ 1054 by omega), (show slots ≤ 10461 by omega)⟩ ?_
  refine W.eq (g2 := F0 m 697 ls [.long (lI (sotC v))]) rfl ?_
  refine lv_aload_n hx hb dL_law_697 rfl (lv_at hl 2 rfl) ?_
  refine lv_aload_n hx hb dL_law_698 rfl (lv_at hl 0 rfl) ?_
  refine lv_iload hx hb dL_law_699 (lv_at hl 4 rfl) ?_
  refine lv_iconst (v := nI (1)) hx hb dL_law_701 (by decide) ?_
  refine lv_iadd hx hb dL_law_702 ?_
  refine rt_i (y := nI (i + 1)) (nn_add (i) (1)) ?_
  refine sc_ld (k := i + 1) (x := nI (3)) hx hb hX hsc hS (by omega) hLb hA1 dL_law_703 ?_
  refine wx_V (X := []) (Y := wS cI cL a v ++ wO cL o f) (wo := wM cI cZ b w) (wo' := wM cI cZ b (mThx w (nI 0))) (As := [.int (nI (3))]) (rest := [.long (lI (sotC v))]) (q0 := 0) (ci := 3) hx hb hml hown hts (c_X3_painted_3 l dC dI cI cL cZ b w  r_hv) (cwV 1 hts gL_law_X3_painted rfl rfl rfl (by decide +kernel) ⟨Nat.le_of_ble_eq_true rfl, Nat.le_of_ble_eq_true rfl⟩) hK hP hD hS rfl rfl rfl rfl hl.1 rfl (Nat.le_of_ble_eq_true rfl) dL_law_704 ⟨(show cells ≤ 1054 by omega), (show slots ≤ 10461 by omega)⟩ (fun H locs hP hD hS => ?_)
  have hP : va_P (dC, dI) vwCl (TW cI cL cZ a b o v (mThx w (nI 0)) f) H := hP
  have hD : va_D (nwA s) (TW cI cL cZ a b o v (mThx w (nI 0)) f) := hD
  refine W.eq (g2 := F0 m 707 ls [.long (lI (mp3 (mThx w (nI 0)))), .long (lI (sotC v))]) rfl ?_
  refine W.lcmp hx hb dL_law_707 ?_
  refine lv_if_eq (tgt := 886) hx hb dL_law_708 (by decide) (fun _ => ?_) (fun c9 => absurd (by rw [heq]; exact lg_self _) c9)
  refine W.widen (Nat.le_add_right cells 1) (Nat.le_add_right slots 6) ?_
  exact kk ls H locs _ (lv_sub hl [0, 1, 2, 3, 4] rfl) hP hD hS
set_option maxHeartbeats 4000000 in
set_option maxRecDepth 100000 in
theorem lk_painted_b (CX : LX p l s m meth c args dC dI cI cL cZ sc L xs) (v : SV) (w : MV) (i : Nat) (hi : i + 4 ≤ L) (hl : lv_has ls 7 [(0, .ref sc), (1, .ref (a 0)), (2, .ref (b 0)), (3, .ref o), (4, .int (nI (i)))]) (hP : va_P (dC, dI) vwCl (TW cI cL cZ a b o v w f) H) (hD : va_D (nwA s) (TW cI cL cZ a b o v w f)) (hS : va_S (nwA s) s.heap H locs) (hcl : cells + 1 ≤ 1054 ∧ slots + 6 ≤ 10461) (x : Int32) (hA1 : xs (i + 1) = x) (hx9 : x.toInt < 0 ∨ 3 < x.toInt)
    (kk : ∀ (ls1 : Array Slot) (H1 : Heap) (locs1 : List Loc) (f1 : Nat → Int64), lv_has ls1 7 [(0, .ref sc), (1, .ref (a 0)), (2, .ref (b 0)), (3, .ref o), (4, .int (nI (i)))] → va_P (dC, dI) vwCl (TW cI cL cZ a b o v (mThx w (nI 0)) f1) H1 → va_D (nwA s) (TW cI cL cZ a b o v (mThx w (nI 0)) f1) → va_S (nwA s) s.heap H1 locs1 → W p l e room_1 s m args below meth c H1 locs1 (cells + 1) (slots + 6) Q (F0 m 886 ls1 [])) : W p l e room_1 s m args below meth c H locs cells slots Q (F0 m 687 ls []) := by
  obtain ⟨hx, hb, hml, hown, hts, hX, hsc, hK, hE, hN, hLb, hst⟩ := CX
  refine lv_aload_n hx hb dL_law_687 rfl (lv_at hl 1 rfl) ?_
  refine lv_aload_n hx hb dL_law_688 rfl (lv_at hl 0 rfl) ?_
  refine lv_iload hx hb dL_law_689 (lv_at hl 4 rfl) ?_
  refine lv_iconst (v := nI (1)) hx hb dL_law_691 (by decide) ?_
  refine lv_iadd hx hb dL_law_692 ?_
  refine rt_i (y := nI (i + 1)) (nn_add (i) (1)) ?_
  refine sc_ld (k := i + 1) (x := x) hx hb hX hsc hS (by omega) hLb hA1 dL_law_693 ?_
  refine ro_V (wo := wS cI cL a v) (As := [.int (x)]) (rest := []) (q0 := 0) (ci := 2) hx hb hml hown hts (c_X2_painted_b l dC dI cI cL cZ a v x hx9) (cwV 1 hts gL_law_X2_painted rfl rfl rfl (by decide +kernel) ⟨Nat.le_of_ble_eq_true rfl, Nat.le_of_ble_eq_true rfl⟩) hK (pj_sub (X := wM cI cZ b w) (Y := wO cL o f) hP) rfl rfl rfl hl.1 rfl (Nat.le_of_ble_eq_true rfl) dL_law_694 ⟨(show cells ≤ 1054 by omega), (show slots ≤ 10461 by omega)⟩ ?_
  refine W.eq (g2 := F0 m 697 ls [.long (lI (-1))]) rfl ?_
  refine lv_aload_n hx hb dL_law_697 rfl (lv_at hl 2 rfl) ?_
  refine lv_aload_n hx hb dL_law_698 rfl (lv_at hl 0 rfl) ?_
  refine lv_iload hx hb dL_law_699 (lv_at hl 4 rfl) ?_
  refine lv_iconst (v := nI (1)) hx hb dL_law_701 (by decide) ?_
  refine lv_iadd hx hb dL_law_702 ?_
  refine rt_i (y := nI (i + 1)) (nn_add (i) (1)) ?_
  refine sc_ld (k := i + 1) (x := x) hx hb hX hsc hS (by omega) hLb hA1 dL_law_703 ?_
  refine wx_V (X := []) (Y := wS cI cL a v ++ wO cL o f) (wo := wM cI cZ b w) (wo' := wM cI cZ b (mThx w (nI 0))) (As := [.int (x)]) (rest := [.long (lI (-1))]) (q0 := 0) (ci := 3) hx hb hml hown hts (c_X3_painted_b l dC dI cI cL cZ b w x hx9) (cwV 1 hts gL_law_X3_painted rfl rfl rfl (by decide +kernel) ⟨Nat.le_of_ble_eq_true rfl, Nat.le_of_ble_eq_true rfl⟩) hK hP hD hS rfl rfl rfl rfl hl.1 rfl (Nat.le_of_ble_eq_true rfl) dL_law_704 ⟨(show cells ≤ 1054 by omega), (show slots ≤ 10461 by omega)⟩ (fun H locs hP hD hS => ?_)
  have hP : va_P (dC, dI) vwCl (TW cI cL cZ a b o v (mThx w (nI 0)) f) H := hP
  have hD : va_D (nwA s) (TW cI cL cZ a b o v (mThx w (nI 0)) f) := hD
  refine W.eq (g2 := F0 m 707 ls [.long (lI (-1)), .long (lI (-1))]) rfl ?_
  refine W.lcmp hx hb dL_law_707 ?_
  refine lv_if_eq (tgt := 886) hx hb dL_law_708 (by decide) (fun _ => ?_) (fun c9 => absurd (lg_self _) c9)
  refine W.widen (Nat.le_add_right cells 1) (Nat.le_add_right slots 6) ?_
  exact kk ls H locs _ (lv_sub hl [0, 1, 2, 3, 4] rfl) hP hD hS
set_option maxHeartbeats 4000000 in
set_option maxRecDepth 100000 in
theorem lk_count_0 (CX : LX p l s m meth c args dC dI cI cL cZ sc L xs) (v : SV) (w : MV) (i : Nat) (hi : i + 4 ≤ L) (hl : lv_has ls 7 [(0, .ref sc), (1, .ref (a 0)), (2, .ref (b 0)), (3, .ref o), (4, .int (nI (i)))]) (hP : va_P (dC, dI) vwCl (TW cI cL cZ a b o v w f) H) (hD : va_D (nwA s) (TW cI cL cZ a b o v w f)) (hS : va_S (nwA s) s.heap H locs) (hcl : cells + 1 ≤ 1054 ∧ slots + 6 ≤ 10461)  (hA1 : xs (i + 1) = nI (0)) (hv : okS v) (r_hv : okM w) (heq : nI (sPn v) = nI (mPn (mThx w (nI 0))))
    (kk : ∀ (ls1 : Array Slot) (H1 : Heap) (locs1 : List Loc) (f1 : Nat → Int64), lv_has ls1 7 [(0, .ref sc), (1, .ref (a 0)), (2, .ref (b 0)), (3, .ref o), (4, .int (nI (i)))] → va_P (dC, dI) vwCl (TW cI cL cZ a b o v (mThx w (nI 0)) f1) H1 → va_D (nwA s) (TW cI cL cZ a b o v (mThx w (nI 0)) f1) → va_S (nwA s) s.heap H1 locs1 → W p l e room_1 s m args below meth c H1 locs1 (cells + 1) (slots + 6) Q (F0 m 886 ls1 [])) : W p l e room_1 s m args below meth c H locs cells slots Q (F0 m 861 ls []) := by
  obtain ⟨hx, hb, hml, hown, hts, hX, hsc, hK, hE, hN, hLb, hst⟩ := CX
  refine lv_aload_n hx hb dL_law_861 rfl (lv_at hl 1 rfl) ?_
  refine lv_aload_n hx hb dL_law_862 rfl (lv_at hl 0 rfl) ?_
  refine lv_iload hx hb dL_law_863 (lv_at hl 4 rfl) ?_
  refine lv_iconst (v := nI (1)) hx hb dL_law_865 (by decide) ?_
  refine lv_iadd hx hb dL_law_866 ?_
  refine rt_i (y := nI (i + 1)) (nn_add (i) (1)) ?_
  refine sc_ld (k := i + 1) (x := nI (0)) hx hb hX hsc hS (by omega) hLb hA1 dL_law_867 ?_
  refine ro_V (wo := wS cI cL a v) (As := [.int (nI (0))]) (rest := []) (q0 := 0) (ci := 2) hx hb hml hown hts (c_X2_count_0 l dC dI cI cL cZ a v  hv) (cwV 1 hts gL_law_X2_count rfl rfl rfl (by decide +kernel) ⟨Nat.le_of_ble_eq_true rfl, Nat.le_of_ble_eq_true rfl⟩) hK (pj_sub (X := wM cI cZ b w) (Y := wO cL o f) hP) rfl rfl rfl hl.1 rfl (Nat.le_of_ble_eq_true rfl) dL_law_868 ⟨(show cells ≤ 1054 by omega), (show slots ≤ 10461 by omega)⟩ ?_
  refine W.eq (g2 := F0 m 871 ls [.int (nI (sPn v))]) rfl ?_
  refine lv_aload_n hx hb dL_law_871 rfl (lv_at hl 2 rfl) ?_
  refine lv_aload_n hx hb dL_law_872 rfl (lv_at hl 0 rfl) ?_
  refine lv_iload hx hb dL_law_873 (lv_at hl 4 rfl) ?_
  refine lv_iconst (v := nI (1)) hx hb dL_law_875 (by decide) ?_
  refine lv_iadd hx hb dL_law_876 ?_
  refine rt_i (y := nI (i + 1)) (nn_add (i) (1)) ?_
  refine sc_ld (k := i + 1) (x := nI (0)) hx hb hX hsc hS (by omega) hLb hA1 dL_law_877 ?_
  refine wx_V (X := []) (Y := wS cI cL a v ++ wO cL o f) (wo := wM cI cZ b w) (wo' := wM cI cZ b (mThx w (nI 0))) (As := [.int (nI (0))]) (rest := [.int (nI (sPn v))]) (q0 := 0) (ci := 3) hx hb hml hown hts (c_X3_count_0 l dC dI cI cL cZ b w  r_hv) (cwV 1 hts gL_law_X3_count rfl rfl rfl (by decide +kernel) ⟨Nat.le_of_ble_eq_true rfl, Nat.le_of_ble_eq_true rfl⟩) hK hP hD hS rfl rfl rfl rfl hl.1 rfl (Nat.le_of_ble_eq_true rfl) dL_law_878 ⟨(show cells ≤ 1054 by omega), (show slots ≤ 10461 by omega)⟩ (fun H locs hP hD hS => ?_)
  have hP : va_P (dC, dI) vwCl (TW cI cL cZ a b o v (mThx w (nI 0)) f) H := hP
  have hD : va_D (nwA s) (TW cI cL cZ a b o v (mThx w (nI 0)) f) := hD
  refine W.eq (g2 := F0 m 881 ls [.int (nI (mPn (mThx w (nI 0)))), .int (nI (sPn v))]) rfl ?_
  refine lv_icmp_eq (tgt := 886) hx hb dL_law_881 (by decide) (fun _ => ?_) (fun c9 => absurd heq c9)
  refine W.widen (Nat.le_add_right cells 1) (Nat.le_add_right slots 6) ?_
  exact kk ls H locs _ (lv_sub hl [0, 1, 2, 3, 4] rfl) hP hD hS
set_option maxHeartbeats 4000000 in
set_option maxRecDepth 100000 in
theorem lk_count_1 (CX : LX p l s m meth c args dC dI cI cL cZ sc L xs) (v : SV) (w : MV) (i : Nat) (hi : i + 4 ≤ L) (hl : lv_has ls 7 [(0, .ref sc), (1, .ref (a 0)), (2, .ref (b 0)), (3, .ref o), (4, .int (nI (i)))]) (hP : va_P (dC, dI) vwCl (TW cI cL cZ a b o v w f) H) (hD : va_D (nwA s) (TW cI cL cZ a b o v w f)) (hS : va_S (nwA s) s.heap H locs) (hcl : cells + 1 ≤ 1054 ∧ slots + 6 ≤ 10461)  (hA1 : xs (i + 1) = nI (1)) (hv : okS v) (r_hv : okM w) (heq : nI (sTn v) = nI (mTn (mThx w (nI 0))))
    (kk : ∀ (ls1 : Array Slot) (H1 : Heap) (locs1 : List Loc) (f1 : Nat → Int64), lv_has ls1 7 [(0, .ref sc), (1, .ref (a 0)), (2, .ref (b 0)), (3, .ref o), (4, .int (nI (i)))] → va_P (dC, dI) vwCl (TW cI cL cZ a b o v (mThx w (nI 0)) f1) H1 → va_D (nwA s) (TW cI cL cZ a b o v (mThx w (nI 0)) f1) → va_S (nwA s) s.heap H1 locs1 → W p l e room_1 s m args below meth c H1 locs1 (cells + 1) (slots + 6) Q (F0 m 886 ls1 [])) : W p l e room_1 s m args below meth c H locs cells slots Q (F0 m 861 ls []) := by
  obtain ⟨hx, hb, hml, hown, hts, hX, hsc, hK, hE, hN, hLb, hst⟩ := CX
  refine lv_aload_n hx hb dL_law_861 rfl (lv_at hl 1 rfl) ?_
  refine lv_aload_n hx hb dL_law_862 rfl (lv_at hl 0 rfl) ?_
  refine lv_iload hx hb dL_law_863 (lv_at hl 4 rfl) ?_
  refine lv_iconst (v := nI (1)) hx hb dL_law_865 (by decide) ?_
  refine lv_iadd hx hb dL_law_866 ?_
  refine rt_i (y := nI (i + 1)) (nn_add (i) (1)) ?_
  refine sc_ld (k := i + 1) (x := nI (1)) hx hb hX hsc hS (by omega) hLb hA1 dL_law_867 ?_
  refine ro_V (wo := wS cI cL a v) (As := [.int (nI (1))]) (rest := []) (q0 := 0) (ci := 2) hx hb hml hown hts (c_X2_count_1 l dC dI cI cL cZ a v  hv) (cwV 1 hts gL_law_X2_count rfl rfl rfl (by decide +kernel) ⟨Nat.le_of_ble_eq_true rfl, Nat.le_of_ble_eq_true rfl⟩) hK (pj_sub (X := wM cI cZ b w) (Y := wO cL o f) hP) rfl rfl rfl hl.1 rfl (Nat.le_of_ble_eq_true rfl) dL_law_868 ⟨(show cells ≤ 1054 by omega), (show slots ≤ 10461 by omega)⟩ ?_
  refine W.eq (g2 := F0 m 871 ls [.int (nI (sTn v))]) rfl ?_
  refine lv_aload_n hx hb dL_law_871 rfl (lv_at hl 2 rfl) ?_
  refine lv_aload_n hx hb dL_law_872 rfl (lv_at hl 0 rfl) ?_
  refine lv_iload hx hb dL_law_873 (lv_at hl 4 rfl) ?_
  refine lv_iconst (v := nI (1)) hx hb dL_law_875 (by decide) ?_
  refine lv_iadd hx hb dL_law_876 ?_
  refine rt_i (y := nI (i + 1)) (nn_add (i) (1)) ?_
  refine sc_ld (k := i + 1) (x := nI (1)) hx hb hX hsc hS (by omega) hLb hA1 dL_law_877 ?_
  refine wx_V (X := []) (Y := wS cI cL a v ++ wO cL o f) (wo := wM cI cZ b w) (wo' := wM cI cZ b (mThx w (nI 0))) (As := [.int (nI (1))]) (rest := [.int (nI (sTn v))]) (q0 := 0) (ci := 3) hx hb hml hown hts (c_X3_count_1 l dC dI cI cL cZ b w  r_hv) (cwV 1 hts gL_law_X3_count rfl rfl rfl (by decide +kernel) ⟨Nat.le_of_ble_eq_true rfl, Nat.le_of_ble_eq_true rfl⟩) hK hP hD hS rfl rfl rfl rfl hl.1 rfl (Nat.le_of_ble_eq_true rfl) dL_law_878 ⟨(show cells ≤ 1054 by omega), (show slots ≤ 10461 by omega)⟩ (fun H locs hP hD hS => ?_)
  have hP : va_P (dC, dI) vwCl (TW cI cL cZ a b o v (mThx w (nI 0)) f) H := hP
  have hD : va_D (nwA s) (TW cI cL cZ a b o v (mThx w (nI 0)) f) := hD
  refine W.eq (g2 := F0 m 881 ls [.int (nI (mTn (mThx w (nI 0)))), .int (nI (sTn v))]) rfl ?_
  refine lv_icmp_eq (tgt := 886) hx hb dL_law_881 (by decide) (fun _ => ?_) (fun c9 => absurd heq c9)
  refine W.widen (Nat.le_add_right cells 1) (Nat.le_add_right slots 6) ?_
  exact kk ls H locs _ (lv_sub hl [0, 1, 2, 3, 4] rfl) hP hD hS
set_option maxHeartbeats 4000000 in
set_option maxRecDepth 100000 in
theorem lk_count_2 (CX : LX p l s m meth c args dC dI cI cL cZ sc L xs) (v : SV) (w : MV) (i : Nat) (hi : i + 4 ≤ L) (hl : lv_has ls 7 [(0, .ref sc), (1, .ref (a 0)), (2, .ref (b 0)), (3, .ref o), (4, .int (nI (i)))]) (hP : va_P (dC, dI) vwCl (TW cI cL cZ a b o v w f) H) (hD : va_D (nwA s) (TW cI cL cZ a b o v w f)) (hS : va_S (nwA s) s.heap H locs) (hcl : cells + 1 ≤ 1054 ∧ slots + 6 ≤ 10461)  (hA1 : xs (i + 1) = nI (2)) (hv : okS v) (r_hv : okM w) (heq : nI (sTm v) = nI (mTm (mThx w (nI 0))))
    (kk : ∀ (ls1 : Array Slot) (H1 : Heap) (locs1 : List Loc) (f1 : Nat → Int64), lv_has ls1 7 [(0, .ref sc), (1, .ref (a 0)), (2, .ref (b 0)), (3, .ref o), (4, .int (nI (i)))] → va_P (dC, dI) vwCl (TW cI cL cZ a b o v (mThx w (nI 0)) f1) H1 → va_D (nwA s) (TW cI cL cZ a b o v (mThx w (nI 0)) f1) → va_S (nwA s) s.heap H1 locs1 → W p l e room_1 s m args below meth c H1 locs1 (cells + 1) (slots + 6) Q (F0 m 886 ls1 [])) : W p l e room_1 s m args below meth c H locs cells slots Q (F0 m 861 ls []) := by
  obtain ⟨hx, hb, hml, hown, hts, hX, hsc, hK, hE, hN, hLb, hst⟩ := CX
  refine lv_aload_n hx hb dL_law_861 rfl (lv_at hl 1 rfl) ?_
  refine lv_aload_n hx hb dL_law_862 rfl (lv_at hl 0 rfl) ?_
  refine lv_iload hx hb dL_law_863 (lv_at hl 4 rfl) ?_
  refine lv_iconst (v := nI (1)) hx hb dL_law_865 (by decide) ?_
  refine lv_iadd hx hb dL_law_866 ?_
  refine rt_i (y := nI (i + 1)) (nn_add (i) (1)) ?_
  refine sc_ld (k := i + 1) (x := nI (2)) hx hb hX hsc hS (by omega) hLb hA1 dL_law_867 ?_
  refine ro_V (wo := wS cI cL a v) (As := [.int (nI (2))]) (rest := []) (q0 := 0) (ci := 2) hx hb hml hown hts (c_X2_count_2 l dC dI cI cL cZ a v  hv) (cwV 1 hts gL_law_X2_count rfl rfl rfl (by decide +kernel) ⟨Nat.le_of_ble_eq_true rfl, Nat.le_of_ble_eq_true rfl⟩) hK (pj_sub (X := wM cI cZ b w) (Y := wO cL o f) hP) rfl rfl rfl hl.1 rfl (Nat.le_of_ble_eq_true rfl) dL_law_868 ⟨(show cells ≤ 1054 by omega), (show slots ≤ 10461 by omega)⟩ ?_
  refine W.eq (g2 := F0 m 871 ls [.int (nI (sTm v))]) rfl ?_
  refine lv_aload_n hx hb dL_law_871 rfl (lv_at hl 2 rfl) ?_
  refine lv_aload_n hx hb dL_law_872 rfl (lv_at hl 0 rfl) ?_
  refine lv_iload hx hb dL_law_873 (lv_at hl 4 rfl) ?_
  refine lv_iconst (v := nI (1)) hx hb dL_law_875 (by decide) ?_
  refine lv_iadd hx hb dL_law_876 ?_
  refine rt_i (y := nI (i + 1)) (nn_add (i) (1)) ?_
  refine sc_ld (k := i + 1) (x := nI (2)) hx hb hX hsc hS (by omega) hLb hA1 dL_law_877 ?_
  refine wx_V (X := []) (Y := wS cI cL a v ++ wO cL o f) (wo := wM cI cZ b w) (wo' := wM cI cZ b (mThx w (nI 0))) (As := [.int (nI (2))]) (rest := [.int (nI (sTm v))]) (q0 := 0) (ci := 3) hx hb hml hown hts (c_X3_count_2 l dC dI cI cL cZ b w  r_hv) (cwV 1 hts gL_law_X3_count rfl rfl rfl (by decide +kernel) ⟨Nat.le_of_ble_eq_true rfl, Nat.le_of_ble_eq_true rfl⟩) hK hP hD hS rfl rfl rfl rfl hl.1 rfl (Nat.le_of_ble_eq_true rfl) dL_law_878 ⟨(show cells ≤ 1054 by omega), (show slots ≤ 10461 by omega)⟩ (fun H locs hP hD hS => ?_)
  have hP : va_P (dC, dI) vwCl (TW cI cL cZ a b o v (mThx w (nI 0)) f) H := hP
  have hD : va_D (nwA s) (TW cI cL cZ a b o v (mThx w (nI 0)) f) := hD
  refine W.eq (g2 := F0 m 881 ls [.int (nI (mTm (mThx w (nI 0)))), .int (nI (sTm v))]) rfl ?_
  refine lv_icmp_eq (tgt := 886) hx hb dL_law_881 (by decide) (fun _ => ?_) (fun c9 => absurd heq c9)
  refine W.widen (Nat.le_add_right cells 1) (Nat.le_add_right slots 6) ?_
  exact kk ls H locs _ (lv_sub hl [0, 1, 2, 3, 4] rfl) hP hD hS
set_option maxHeartbeats 4000000 in
set_option maxRecDepth 100000 in
theorem lk_count_3 (CX : LX p l s m meth c args dC dI cI cL cZ sc L xs) (v : SV) (w : MV) (i : Nat) (hi : i + 4 ≤ L) (hl : lv_has ls 7 [(0, .ref sc), (1, .ref (a 0)), (2, .ref (b 0)), (3, .ref o), (4, .int (nI (i)))]) (hP : va_P (dC, dI) vwCl (TW cI cL cZ a b o v w f) H) (hD : va_D (nwA s) (TW cI cL cZ a b o v w f)) (hS : va_S (nwA s) s.heap H locs) (hcl : cells + 1 ≤ 1054 ∧ slots + 6 ≤ 10461)  (hA1 : xs (i + 1) = nI (3)) (hv : okS v) (r_hv : okM w) (heq : ccpC v = nI (mcpC (mThx w (nI 0))))
    (kk : ∀ (ls1 : Array Slot) (H1 : Heap) (locs1 : List Loc) (f1 : Nat → Int64), lv_has ls1 7 [(0, .ref sc), (1, .ref (a 0)), (2, .ref (b 0)), (3, .ref o), (4, .int (nI (i)))] → va_P (dC, dI) vwCl (TW cI cL cZ a b o v (mThx w (nI 0)) f1) H1 → va_D (nwA s) (TW cI cL cZ a b o v (mThx w (nI 0)) f1) → va_S (nwA s) s.heap H1 locs1 → W p l e room_1 s m args below meth c H1 locs1 (cells + 1) (slots + 6) Q (F0 m 886 ls1 [])) : W p l e room_1 s m args below meth c H locs cells slots Q (F0 m 861 ls []) := by
  obtain ⟨hx, hb, hml, hown, hts, hX, hsc, hK, hE, hN, hLb, hst⟩ := CX
  refine lv_aload_n hx hb dL_law_861 rfl (lv_at hl 1 rfl) ?_
  refine lv_aload_n hx hb dL_law_862 rfl (lv_at hl 0 rfl) ?_
  refine lv_iload hx hb dL_law_863 (lv_at hl 4 rfl) ?_
  refine lv_iconst (v := nI (1)) hx hb dL_law_865 (by decide) ?_
  refine lv_iadd hx hb dL_law_866 ?_
  refine rt_i (y := nI (i + 1)) (nn_add (i) (1)) ?_
  refine sc_ld (k := i + 1) (x := nI (3)) hx hb hX hsc hS (by omega) hLb hA1 dL_law_867 ?_
  refine ro_V (wo := wS cI cL a v) (As := [.int (nI (3))]) (rest := []) (q0 := 0) (ci := 2) hx hb hml hown hts (c_X2_count_3 l dC dI cI cL cZ a v  hv) (cwV 1 hts gL_law_X2_count rfl rfl rfl (by decide +kernel) ⟨Nat.le_of_ble_eq_true rfl, Nat.le_of_ble_eq_true rfl⟩) hK (pj_sub (X := wM cI cZ b w) (Y := wO cL o f) hP) rfl rfl rfl hl.1 rfl (Nat.le_of_ble_eq_true rfl) dL_law_868 ⟨(show cells ≤ 1054 by omega), (show slots ≤ 10461 by omega)⟩ ?_
  refine W.eq (g2 := F0 m 871 ls [.int (ccpC v)]) rfl ?_
  refine lv_aload_n hx hb dL_law_871 rfl (lv_at hl 2 rfl) ?_
  refine lv_aload_n hx hb dL_law_872 rfl (lv_at hl 0 rfl) ?_
  refine lv_iload hx hb dL_law_873 (lv_at hl 4 rfl) ?_
  refine lv_iconst (v := nI (1)) hx hb dL_law_875 (by decide) ?_
  refine lv_iadd hx hb dL_law_876 ?_
  refine rt_i (y := nI (i + 1)) (nn_add (i) (1)) ?_
  refine sc_ld (k := i + 1) (x := nI (3)) hx hb hX hsc hS (by omega) hLb hA1 dL_law_877 ?_
  refine wx_V (X := []) (Y := wS cI cL a v ++ wO cL o f) (wo := wM cI cZ b w) (wo' := wM cI cZ b (mThx w (nI 0))) (As := [.int (nI (3))]) (rest := [.int (ccpC v)]) (q0 := 0) (ci := 3) hx hb hml hown hts (c_X3_count_3 l dC dI cI cL cZ b w  r_hv) (cwV 1 hts gL_law_X3_count rfl rfl rfl (by decide +kernel) ⟨Nat.le_of_ble_eq_true rfl, Nat.le_of_ble_eq_true rfl⟩) hK hP hD hS rfl rfl rfl rfl hl.1 rfl (Nat.le_of_ble_eq_true rfl) dL_law_878 ⟨(show cells ≤ 1054 by omega), (show slots ≤ 10461 by omega)⟩ (fun H locs hP hD hS => ?_)
  have hP : va_P (dC, dI) vwCl (TW cI cL cZ a b o v (mThx w (nI 0)) f) H := hP
  have hD : va_D (nwA s) (TW cI cL cZ a b o v (mThx w (nI 0)) f) := hD
  refine W.eq (g2 := F0 m 881 ls [.int (nI (mcpC (mThx w (nI 0)))), .int (ccpC v)]) rfl ?_
  refine lv_icmp_eq (tgt := 886) hx hb dL_law_881 (by decide) (fun _ => ?_) (fun c9 => absurd heq c9)
  refine W.widen (Nat.le_add_right cells 1) (Nat.le_add_right slots 6) ?_
  exact kk ls H locs _ (lv_sub hl [0, 1, 2, 3, 4] rfl) hP hD hS
set_option maxHeartbeats 4000000 in
set_option maxRecDepth 100000 in
theorem lk_count_4 (CX : LX p l s m meth c args dC dI cI cL cZ sc L xs) (v : SV) (w : MV) (i : Nat) (hi : i + 4 ≤ L) (hl : lv_has ls 7 [(0, .ref sc), (1, .ref (a 0)), (2, .ref (b 0)), (3, .ref o), (4, .int (nI (i)))]) (hP : va_P (dC, dI) vwCl (TW cI cL cZ a b o v w f) H) (hD : va_D (nwA s) (TW cI cL cZ a b o v w f)) (hS : va_S (nwA s) s.heap H locs) (hcl : cells + 1 ≤ 1054 ∧ slots + 6 ≤ 10461)  (hA1 : xs (i + 1) = nI (4)) (hv : okS v) (r_hv : okM w) (heq : cdeC v = nI (msiC (mThx w (nI 0))))
    (kk : ∀ (ls1 : Array Slot) (H1 : Heap) (locs1 : List Loc) (f1 : Nat → Int64), lv_has ls1 7 [(0, .ref sc), (1, .ref (a 0)), (2, .ref (b 0)), (3, .ref o), (4, .int (nI (i)))] → va_P (dC, dI) vwCl (TW cI cL cZ a b o (sJoX v (edJ v)) (mThx w (nI 0)) f1) H1 → va_D (nwA s) (TW cI cL cZ a b o (sJoX v (edJ v)) (mThx w (nI 0)) f1) → va_S (nwA s) s.heap H1 locs1 → W p l e room_1 s m args below meth c H1 locs1 (cells + 1) (slots + 6) Q (F0 m 886 ls1 [])) : W p l e room_1 s m args below meth c H locs cells slots Q (F0 m 861 ls []) := by
  obtain ⟨hx, hb, hml, hown, hts, hX, hsc, hK, hE, hN, hLb, hst⟩ := CX
  refine lv_aload_n hx hb dL_law_861 rfl (lv_at hl 1 rfl) ?_
  refine lv_aload_n hx hb dL_law_862 rfl (lv_at hl 0 rfl) ?_
  refine lv_iload hx hb dL_law_863 (lv_at hl 4 rfl) ?_
  refine lv_iconst (v := nI (1)) hx hb dL_law_865 (by decide) ?_
  refine lv_iadd hx hb dL_law_866 ?_
  refine rt_i (y := nI (i + 1)) (nn_add (i) (1)) ?_
  refine sc_ld (k := i + 1) (x := nI (4)) hx hb hX hsc hS (by omega) hLb hA1 dL_law_867 ?_
  refine wx_V (X := wM cI cZ b w) (Y := wO cL o f) (wo := wS cI cL a v) (wo' := wS cI cL a (sJoX v (edJ v))) (As := [.int (nI (4))]) (rest := []) (q0 := 0) (ci := 2) hx hb hml hown hts (c_X2_count_4 l dC dI cI cL cZ a v  hv) (cwV 1 hts gL_law_X2_count rfl rfl rfl (by decide +kernel) ⟨Nat.le_of_ble_eq_true rfl, Nat.le_of_ble_eq_true rfl⟩) hK hP hD hS rfl rfl rfl rfl hl.1 rfl (Nat.le_of_ble_eq_true rfl) dL_law_868 ⟨(show cells ≤ 1054 by omega), (show slots ≤ 10461 by omega)⟩ (fun H locs hP hD hS => ?_)
  have hP : va_P (dC, dI) vwCl (TW cI cL cZ a b o (sJoX v (edJ v)) w f) H := hP
  have hD : va_D (nwA s) (TW cI cL cZ a b o (sJoX v (edJ v)) w f) := hD
  refine W.eq (g2 := F0 m 871 ls [.int (cdeC v)]) rfl ?_
  refine lv_aload_n hx hb dL_law_871 rfl (lv_at hl 2 rfl) ?_
  refine lv_aload_n hx hb dL_law_872 rfl (lv_at hl 0 rfl) ?_
  refine lv_iload hx hb dL_law_873 (lv_at hl 4 rfl) ?_
  refine lv_iconst (v := nI (1)) hx hb dL_law_875 (by decide) ?_
  refine lv_iadd hx hb dL_law_876 ?_
  refine rt_i (y := nI (i + 1)) (nn_add (i) (1)) ?_
  refine sc_ld (k := i + 1) (x := nI (4)) hx hb hX hsc hS (by omega) hLb hA1 dL_law_877 ?_
  refine wx_V (X := []) (Y := wS cI cL a (sJoX v (edJ v)) ++ wO cL o f) (wo := wM cI cZ b w) (wo' := wM cI cZ b (mThx w (nI 0))) (As := [.int (nI (4))]) (rest := [.int (cdeC v)]) (q0 := 0) (ci := 3) hx hb hml hown hts (c_X3_count_4 l dC dI cI cL cZ b w  r_hv) (cwV 1 hts gL_law_X3_count rfl rfl rfl (by decide +kernel) ⟨Nat.le_of_ble_eq_true rfl, Nat.le_of_ble_eq_true rfl⟩) hK hP hD hS rfl rfl rfl rfl hl.1 rfl (Nat.le_of_ble_eq_true rfl) dL_law_878 ⟨(show cells ≤ 1054 by omega), (show slots ≤ 10461 by omega)⟩ (fun H locs hP hD hS => ?_)
  have hP : va_P (dC, dI) vwCl (TW cI cL cZ a b o (sJoX v (edJ v)) (mThx w (nI 0)) f) H := hP
  have hD : va_D (nwA s) (TW cI cL cZ a b o (sJoX v (edJ v)) (mThx w (nI 0)) f) := hD
  refine W.eq (g2 := F0 m 881 ls [.int (nI (msiC (mThx w (nI 0)))), .int (cdeC v)]) rfl ?_
  refine lv_icmp_eq (tgt := 886) hx hb dL_law_881 (by decide) (fun _ => ?_) (fun c9 => absurd heq c9)
  refine W.widen (Nat.le_add_right cells 1) (Nat.le_add_right slots 6) ?_
  exact kk ls H locs _ (lv_sub hl [0, 1, 2, 3, 4] rfl) hP hD hS
set_option maxHeartbeats 4000000 in
set_option maxRecDepth 100000 in
theorem lk_count_5 (CX : LX p l s m meth c args dC dI cI cL cZ sc L xs) (v : SV) (w : MV) (i : Nat) (hi : i + 4 ≤ L) (hl : lv_has ls 7 [(0, .ref sc), (1, .ref (a 0)), (2, .ref (b 0)), (3, .ref o), (4, .int (nI (i)))]) (hP : va_P (dC, dI) vwCl (TW cI cL cZ a b o v w f) H) (hD : va_D (nwA s) (TW cI cL cZ a b o v w f)) (hS : va_S (nwA s) s.heap H locs) (hcl : cells + 1 ≤ 1054 ∧ slots + 6 ≤ 10461)  (hA1 : xs (i + 1) = nI (5)) (hv : okS v) (r_hv : okM w) (heq : nI (lonC v) = nI (medA (mThx w (nI 0))))
    (kk : ∀ (ls1 : Array Slot) (H1 : Heap) (locs1 : List Loc) (f1 : Nat → Int64), lv_has ls1 7 [(0, .ref sc), (1, .ref (a 0)), (2, .ref (b 0)), (3, .ref o), (4, .int (nI (i)))] → va_P (dC, dI) vwCl (TW cI cL cZ a b o v (mThx w (nI 0)) f1) H1 → va_D (nwA s) (TW cI cL cZ a b o v (mThx w (nI 0)) f1) → va_S (nwA s) s.heap H1 locs1 → W p l e room_1 s m args below meth c H1 locs1 (cells + 1) (slots + 6) Q (F0 m 886 ls1 [])) : W p l e room_1 s m args below meth c H locs cells slots Q (F0 m 861 ls []) := by
  obtain ⟨hx, hb, hml, hown, hts, hX, hsc, hK, hE, hN, hLb, hst⟩ := CX
  refine lv_aload_n hx hb dL_law_861 rfl (lv_at hl 1 rfl) ?_
  refine lv_aload_n hx hb dL_law_862 rfl (lv_at hl 0 rfl) ?_
  refine lv_iload hx hb dL_law_863 (lv_at hl 4 rfl) ?_
  refine lv_iconst (v := nI (1)) hx hb dL_law_865 (by decide) ?_
  refine lv_iadd hx hb dL_law_866 ?_
  refine rt_i (y := nI (i + 1)) (nn_add (i) (1)) ?_
  refine sc_ld (k := i + 1) (x := nI (5)) hx hb hX hsc hS (by omega) hLb hA1 dL_law_867 ?_
  refine ro_V (wo := wS cI cL a v) (As := [.int (nI (5))]) (rest := []) (q0 := 0) (ci := 2) hx hb hml hown hts (c_X2_count_5 l dC dI cI cL cZ a v  hv) (cwV 1 hts gL_law_X2_count rfl rfl rfl (by decide +kernel) ⟨Nat.le_of_ble_eq_true rfl, Nat.le_of_ble_eq_true rfl⟩) hK (pj_sub (X := wM cI cZ b w) (Y := wO cL o f) hP) rfl rfl rfl hl.1 rfl (Nat.le_of_ble_eq_true rfl) dL_law_868 ⟨(show cells ≤ 1054 by omega), (show slots ≤ 10461 by omega)⟩ ?_
  refine W.eq (g2 := F0 m 871 ls [.int (nI (lonC v))]) rfl ?_
  refine lv_aload_n hx hb dL_law_871 rfl (lv_at hl 2 rfl) ?_
  refine lv_aload_n hx hb dL_law_872 rfl (lv_at hl 0 rfl) ?_
  refine lv_iload hx hb dL_law_873 (lv_at hl 4 rfl) ?_
  refine lv_iconst (v := nI (1)) hx hb dL_law_875 (by decide) ?_
  refine lv_iadd hx hb dL_law_876 ?_
  refine rt_i (y := nI (i + 1)) (nn_add (i) (1)) ?_
  refine sc_ld (k := i + 1) (x := nI (5)) hx hb hX hsc hS (by omega) hLb hA1 dL_law_877 ?_
  refine wx_V (X := []) (Y := wS cI cL a v ++ wO cL o f) (wo := wM cI cZ b w) (wo' := wM cI cZ b (mThx w (nI 0))) (As := [.int (nI (5))]) (rest := [.int (nI (lonC v))]) (q0 := 0) (ci := 3) hx hb hml hown hts (c_X3_count_5 l dC dI cI cL cZ b w  r_hv) (cwV 1 hts gL_law_X3_count rfl rfl rfl (by decide +kernel) ⟨Nat.le_of_ble_eq_true rfl, Nat.le_of_ble_eq_true rfl⟩) hK hP hD hS rfl rfl rfl rfl hl.1 rfl (Nat.le_of_ble_eq_true rfl) dL_law_878 ⟨(show cells ≤ 1054 by omega), (show slots ≤ 10461 by omega)⟩ (fun H locs hP hD hS => ?_)
  have hP : va_P (dC, dI) vwCl (TW cI cL cZ a b o v (mThx w (nI 0)) f) H := hP
  have hD : va_D (nwA s) (TW cI cL cZ a b o v (mThx w (nI 0)) f) := hD
  refine W.eq (g2 := F0 m 881 ls [.int (nI (medA (mThx w (nI 0)))), .int (nI (lonC v))]) rfl ?_
  refine lv_icmp_eq (tgt := 886) hx hb dL_law_881 (by decide) (fun _ => ?_) (fun c9 => absurd heq c9)
  refine W.widen (Nat.le_add_right cells 1) (Nat.le_add_right slots 6) ?_
  exact kk ls H locs _ (lv_sub hl [0, 1, 2, 3, 4] rfl) hP hD hS
set_option maxHeartbeats 4000000 in
set_option maxRecDepth 100000 in
theorem lk_count_6 (CX : LX p l s m meth c args dC dI cI cL cZ sc L xs) (v : SV) (w : MV) (i : Nat) (hi : i + 4 ≤ L) (hl : lv_has ls 7 [(0, .ref sc), (1, .ref (a 0)), (2, .ref (b 0)), (3, .ref o), (4, .int (nI (i)))]) (hP : va_P (dC, dI) vwCl (TW cI cL cZ a b o v w f) H) (hD : va_D (nwA s) (TW cI cL cZ a b o v w f)) (hS : va_S (nwA s) s.heap H locs) (hcl : cells + 1 ≤ 1054 ∧ slots + 6 ≤ 10461)  (hA1 : xs (i + 1) = nI (6)) (hv : okS v) (r_hv : okM w) (heq : iI ((pcs v).2) = nI (mpcC (mThx w (nI 0))))
    (kk : ∀ (ls1 : Array Slot) (H1 : Heap) (locs1 : List Loc) (f1 : Nat → Int64), lv_has ls1 7 [(0, .ref sc), (1, .ref (a 0)), (2, .ref (b 0)), (3, .ref o), (4, .int (nI (i)))] → va_P (dC, dI) vwCl (TW cI cL cZ a b o (sPiX v (pcs v).1) (mMkX (mThx w (nI 0)) (mfin (mThx w (nI 0)))) f1) H1 → va_D (nwA s) (TW cI cL cZ a b o (sPiX v (pcs v).1) (mMkX (mThx w (nI 0)) (mfin (mThx w (nI 0)))) f1) → va_S (nwA s) s.heap H1 locs1 → W p l e room_1 s m args below meth c H1 locs1 (cells + 1) (slots + 6) Q (F0 m 886 ls1 [])) : W p l e room_1 s m args below meth c H locs cells slots Q (F0 m 861 ls []) := by
  obtain ⟨hx, hb, hml, hown, hts, hX, hsc, hK, hE, hN, hLb, hst⟩ := CX
  refine lv_aload_n hx hb dL_law_861 rfl (lv_at hl 1 rfl) ?_
  refine lv_aload_n hx hb dL_law_862 rfl (lv_at hl 0 rfl) ?_
  refine lv_iload hx hb dL_law_863 (lv_at hl 4 rfl) ?_
  refine lv_iconst (v := nI (1)) hx hb dL_law_865 (by decide) ?_
  refine lv_iadd hx hb dL_law_866 ?_
  refine rt_i (y := nI (i + 1)) (nn_add (i) (1)) ?_
  refine sc_ld (k := i + 1) (x := nI (6)) hx hb hX hsc hS (by omega) hLb hA1 dL_law_867 ?_
  refine wx_V (X := wM cI cZ b w) (Y := wO cL o f) (wo := wS cI cL a v) (wo' := wS cI cL a (sPiX v (pcs v).1)) (As := [.int (nI (6))]) (rest := []) (q0 := 0) (ci := 2) hx hb hml hown hts (c_X2_count_6 l dC dI cI cL cZ a v  hv) (cwV 1 hts gL_law_X2_count rfl rfl rfl (by decide +kernel) ⟨Nat.le_of_ble_eq_true rfl, Nat.le_of_ble_eq_true rfl⟩) hK hP hD hS rfl rfl rfl rfl hl.1 rfl (Nat.le_of_ble_eq_true rfl) dL_law_868 ⟨(show cells ≤ 1054 by omega), (show slots ≤ 10461 by omega)⟩ (fun H locs hP hD hS => ?_)
  have hP : va_P (dC, dI) vwCl (TW cI cL cZ a b o (sPiX v (pcs v).1) w f) H := hP
  have hD : va_D (nwA s) (TW cI cL cZ a b o (sPiX v (pcs v).1) w f) := hD
  refine W.eq (g2 := F0 m 871 ls [.int (iI ((pcs v).2))]) rfl ?_
  refine lv_aload_n hx hb dL_law_871 rfl (lv_at hl 2 rfl) ?_
  refine lv_aload_n hx hb dL_law_872 rfl (lv_at hl 0 rfl) ?_
  refine lv_iload hx hb dL_law_873 (lv_at hl 4 rfl) ?_
  refine lv_iconst (v := nI (1)) hx hb dL_law_875 (by decide) ?_
  refine lv_iadd hx hb dL_law_876 ?_
  refine rt_i (y := nI (i + 1)) (nn_add (i) (1)) ?_
  refine sc_ld (k := i + 1) (x := nI (6)) hx hb hX hsc hS (by omega) hLb hA1 dL_law_877 ?_
  refine wx_V (X := []) (Y := wS cI cL a (sPiX v (pcs v).1) ++ wO cL o f) (wo := wM cI cZ b w) (wo' := wM cI cZ b (mMkX (mThx w (nI 0)) (mfin (mThx w (nI 0))))) (As := [.int (nI (6))]) (rest := [.int (iI ((pcs v).2))]) (q0 := 0) (ci := 3) hx hb hml hown hts (c_X3_count_6 l dC dI cI cL cZ b w  r_hv) (cwV 1 hts gL_law_X3_count rfl rfl rfl (by decide +kernel) ⟨Nat.le_of_ble_eq_true rfl, Nat.le_of_ble_eq_true rfl⟩) hK hP hD hS rfl rfl rfl rfl hl.1 rfl (Nat.le_of_ble_eq_true rfl) dL_law_878 ⟨(show cells ≤ 1054 by omega), (show slots ≤ 10461 by omega)⟩ (fun H locs hP hD hS => ?_)
  have hP : va_P (dC, dI) vwCl (TW cI cL cZ a b o (sPiX v (pcs v).1) (mMkX (mThx w (nI 0)) (mfin (mThx w (nI 0)))) f) H := hP
  have hD : va_D (nwA s) (TW cI cL cZ a b o (sPiX v (pcs v).1) (mMkX (mThx w (nI 0)) (mfin (mThx w (nI 0)))) f) := hD
  refine W.eq (g2 := F0 m 881 ls [.int (nI (mpcC (mThx w (nI 0)))), .int (iI ((pcs v).2))]) rfl ?_
  refine lv_icmp_eq (tgt := 886) hx hb dL_law_881 (by decide) (fun _ => ?_) (fun c9 => absurd heq c9)
  refine W.widen (Nat.le_add_right cells 1) (Nat.le_add_right slots 6) ?_
  exact kk ls H locs _ (lv_sub hl [0, 1, 2, 3, 4] rfl) hP hD hS
set_option maxHeartbeats 4000000 in
set_option maxRecDepth 100000 in
theorem lk_count_7 (CX : LX p l s m meth c args dC dI cI cL cZ sc L xs) (v : SV) (w : MV) (i : Nat) (hi : i + 4 ≤ L) (hl : lv_has ls 7 [(0, .ref sc), (1, .ref (a 0)), (2, .ref (b 0)), (3, .ref o), (4, .int (nI (i)))]) (hP : va_P (dC, dI) vwCl (TW cI cL cZ a b o v w f) H) (hD : va_D (nwA s) (TW cI cL cZ a b o v w f)) (hS : va_S (nwA s) s.heap H locs) (hcl : cells + 1 ≤ 1054 ∧ slots + 6 ≤ 10461)  (hA1 : xs (i + 1) = nI (7)) (hv : okS v) (r_hv : okM w) (heq : nI (badC v) = nI (medG (mThx w (nI 0))))
    (kk : ∀ (ls1 : Array Slot) (H1 : Heap) (locs1 : List Loc) (f1 : Nat → Int64), lv_has ls1 7 [(0, .ref sc), (1, .ref (a 0)), (2, .ref (b 0)), (3, .ref o), (4, .int (nI (i)))] → va_P (dC, dI) vwCl (TW cI cL cZ a b o v (mThx w (nI 0)) f1) H1 → va_D (nwA s) (TW cI cL cZ a b o v (mThx w (nI 0)) f1) → va_S (nwA s) s.heap H1 locs1 → W p l e room_1 s m args below meth c H1 locs1 (cells + 1) (slots + 6) Q (F0 m 886 ls1 [])) : W p l e room_1 s m args below meth c H locs cells slots Q (F0 m 861 ls []) := by
  obtain ⟨hx, hb, hml, hown, hts, hX, hsc, hK, hE, hN, hLb, hst⟩ := CX
  refine lv_aload_n hx hb dL_law_861 rfl (lv_at hl 1 rfl) ?_
  refine lv_aload_n hx hb dL_law_862 rfl (lv_at hl 0 rfl) ?_
  refine lv_iload hx hb dL_law_863 (lv_at hl 4 rfl) ?_
  refine lv_iconst (v := nI (1)) hx hb dL_law_865 (by decide) ?_
  refine lv_iadd hx hb dL_law_866 ?_
  refine rt_i (y := nI (i + 1)) (nn_add (i) (1)) ?_
  refine sc_ld (k := i + 1) (x := nI (7)) hx hb hX hsc hS (by omega) hLb hA1 dL_law_867 ?_
  refine ro_V (wo := wS cI cL a v) (As := [.int (nI (7))]) (rest := []) (q0 := 0) (ci := 2) hx hb hml hown hts (c_X2_count_7 l dC dI cI cL cZ a v  hv) (cwV 1 hts gL_law_X2_count rfl rfl rfl (by decide +kernel) ⟨Nat.le_of_ble_eq_true rfl, Nat.le_of_ble_eq_true rfl⟩) hK (pj_sub (X := wM cI cZ b w) (Y := wO cL o f) hP) rfl rfl rfl hl.1 rfl (Nat.le_of_ble_eq_true rfl) dL_law_868 ⟨(show cells ≤ 1054 by omega), (show slots ≤ 10461 by omega)⟩ ?_
  refine W.eq (g2 := F0 m 871 ls [.int (nI (badC v))]) rfl ?_
  refine lv_aload_n hx hb dL_law_871 rfl (lv_at hl 2 rfl) ?_
  refine lv_aload_n hx hb dL_law_872 rfl (lv_at hl 0 rfl) ?_
  refine lv_iload hx hb dL_law_873 (lv_at hl 4 rfl) ?_
  refine lv_iconst (v := nI (1)) hx hb dL_law_875 (by decide) ?_
  refine lv_iadd hx hb dL_law_876 ?_
  refine rt_i (y := nI (i + 1)) (nn_add (i) (1)) ?_
  refine sc_ld (k := i + 1) (x := nI (7)) hx hb hX hsc hS (by omega) hLb hA1 dL_law_877 ?_
  refine wx_V (X := []) (Y := wS cI cL a v ++ wO cL o f) (wo := wM cI cZ b w) (wo' := wM cI cZ b (mThx w (nI 0))) (As := [.int (nI (7))]) (rest := [.int (nI (badC v))]) (q0 := 0) (ci := 3) hx hb hml hown hts (c_X3_count_7 l dC dI cI cL cZ b w  r_hv) (cwV 1 hts gL_law_X3_count rfl rfl rfl (by decide +kernel) ⟨Nat.le_of_ble_eq_true rfl, Nat.le_of_ble_eq_true rfl⟩) hK hP hD hS rfl rfl rfl rfl hl.1 rfl (Nat.le_of_ble_eq_true rfl) dL_law_878 ⟨(show cells ≤ 1054 by omega), (show slots ≤ 10461 by omega)⟩ (fun H locs hP hD hS => ?_)
  have hP : va_P (dC, dI) vwCl (TW cI cL cZ a b o v (mThx w (nI 0)) f) H := hP
  have hD : va_D (nwA s) (TW cI cL cZ a b o v (mThx w (nI 0)) f) := hD
  refine W.eq (g2 := F0 m 881 ls [.int (nI (medG (mThx w (nI 0)))), .int (nI (badC v))]) rfl ?_
  refine lv_icmp_eq (tgt := 886) hx hb dL_law_881 (by decide) (fun _ => ?_) (fun c9 => absurd heq c9)
  refine W.widen (Nat.le_add_right cells 1) (Nat.le_add_right slots 6) ?_
  exact kk ls H locs _ (lv_sub hl [0, 1, 2, 3, 4] rfl) hP hD hS
set_option maxHeartbeats 4000000 in
set_option maxRecDepth 100000 in
theorem lk_count_b (CX : LX p l s m meth c args dC dI cI cL cZ sc L xs) (v : SV) (w : MV) (i : Nat) (hi : i + 4 ≤ L) (hl : lv_has ls 7 [(0, .ref sc), (1, .ref (a 0)), (2, .ref (b 0)), (3, .ref o), (4, .int (nI (i)))]) (hP : va_P (dC, dI) vwCl (TW cI cL cZ a b o v w f) H) (hD : va_D (nwA s) (TW cI cL cZ a b o v w f)) (hS : va_S (nwA s) s.heap H locs) (hcl : cells + 1 ≤ 1054 ∧ slots + 6 ≤ 10461) (x : Int32) (hA1 : xs (i + 1) = x) (hx9 : x.toInt < 0 ∨ 7 < x.toInt) (heq : iI (-1) = iI (-1))
    (kk : ∀ (ls1 : Array Slot) (H1 : Heap) (locs1 : List Loc) (f1 : Nat → Int64), lv_has ls1 7 [(0, .ref sc), (1, .ref (a 0)), (2, .ref (b 0)), (3, .ref o), (4, .int (nI (i)))] → va_P (dC, dI) vwCl (TW cI cL cZ a b o v (mThx w (nI 0)) f1) H1 → va_D (nwA s) (TW cI cL cZ a b o v (mThx w (nI 0)) f1) → va_S (nwA s) s.heap H1 locs1 → W p l e room_1 s m args below meth c H1 locs1 (cells + 1) (slots + 6) Q (F0 m 886 ls1 [])) : W p l e room_1 s m args below meth c H locs cells slots Q (F0 m 861 ls []) := by
  obtain ⟨hx, hb, hml, hown, hts, hX, hsc, hK, hE, hN, hLb, hst⟩ := CX
  refine lv_aload_n hx hb dL_law_861 rfl (lv_at hl 1 rfl) ?_
  refine lv_aload_n hx hb dL_law_862 rfl (lv_at hl 0 rfl) ?_
  refine lv_iload hx hb dL_law_863 (lv_at hl 4 rfl) ?_
  refine lv_iconst (v := nI (1)) hx hb dL_law_865 (by decide) ?_
  refine lv_iadd hx hb dL_law_866 ?_
  refine rt_i (y := nI (i + 1)) (nn_add (i) (1)) ?_
  refine sc_ld (k := i + 1) (x := x) hx hb hX hsc hS (by omega) hLb hA1 dL_law_867 ?_
  refine ro_V (wo := wS cI cL a v) (As := [.int (x)]) (rest := []) (q0 := 0) (ci := 2) hx hb hml hown hts (c_X2_count_b l dC dI cI cL cZ a v x hx9) (cwV 1 hts gL_law_X2_count rfl rfl rfl (by decide +kernel) ⟨Nat.le_of_ble_eq_true rfl, Nat.le_of_ble_eq_true rfl⟩) hK (pj_sub (X := wM cI cZ b w) (Y := wO cL o f) hP) rfl rfl rfl hl.1 rfl (Nat.le_of_ble_eq_true rfl) dL_law_868 ⟨(show cells ≤ 1054 by omega), (show slots ≤ 10461 by omega)⟩ ?_
  refine W.eq (g2 := F0 m 871 ls [.int (iI (-1))]) rfl ?_
  refine lv_aload_n hx hb dL_law_871 rfl (lv_at hl 2 rfl) ?_
  refine lv_aload_n hx hb dL_law_872 rfl (lv_at hl 0 rfl) ?_
  refine lv_iload hx hb dL_law_873 (lv_at hl 4 rfl) ?_
  refine lv_iconst (v := nI (1)) hx hb dL_law_875 (by decide) ?_
  refine lv_iadd hx hb dL_law_876 ?_
  refine rt_i (y := nI (i + 1)) (nn_add (i) (1)) ?_
  refine sc_ld (k := i + 1) (x := x) hx hb hX hsc hS (by omega) hLb hA1 dL_law_877 ?_
  refine wx_V (X := []) (Y := wS cI cL a v ++ wO cL o f) (wo := wM cI cZ b w) (wo' := wM cI cZ b (mThx w (nI 0))) (As := [.int (x)]) (rest := [.int (iI (-1))]) (q0 := 0) (ci := 3) hx hb hml hown hts (c_X3_count_b l dC dI cI cL cZ b w x hx9) (cwV 1 hts gL_law_X3_count rfl rfl rfl (by decide +kernel) ⟨Nat.le_of_ble_eq_true rfl, Nat.le_of_ble_eq_true rfl⟩) hK hP hD hS rfl rfl rfl rfl hl.1 rfl (Nat.le_of_ble_eq_true rfl) dL_law_878 ⟨(show cells ≤ 1054 by omega), (show slots ≤ 10461 by omega)⟩ (fun H locs hP hD hS => ?_)
  have hP : va_P (dC, dI) vwCl (TW cI cL cZ a b o v (mThx w (nI 0)) f) H := hP
  have hD : va_D (nwA s) (TW cI cL cZ a b o v (mThx w (nI 0)) f) := hD
  refine W.eq (g2 := F0 m 881 ls [.int (iI (-1)), .int (iI (-1))]) rfl ?_
  refine lv_icmp_eq (tgt := 886) hx hb dL_law_881 (by decide) (fun _ => ?_) (fun c9 => absurd heq c9)
  refine W.widen (Nat.le_add_right cells 1) (Nat.le_add_right slots 6) ?_
  exact kk ls H locs _ (lv_sub hl [0, 1, 2, 3, 4] rfl) hP hD hS
end LKB
