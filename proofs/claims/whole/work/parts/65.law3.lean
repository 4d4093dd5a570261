/-! THE LAW'S LOOP -/
section LE
variable {p : Program} {l : Launch} {e : Env} {s : State} {m : MethodId} {args : Array Value} {below : List Frame} {meth : Method} {c : Code} {H : Heap} {locs : List Loc} {Q : State → Prop} {dC : Nat → ClassId} {dI : Nat → Nat → Nat} {cI cL cZ : ClassId} {sc L : Nat} {xs : Nat → Int32} {a b : Nat → Nat} {o : Nat} {f : Nat → Int64} {ls : Array Slot}
theorem law_loop (CX : LX p l s m meth c args dC dI cI cL cZ sc L xs) (EX : ∀ (ls : Array Slot) (H : Heap) (locs : List Loc) (q : Nat), q ≤ 512 → va_S (nwA s) s.heap H locs → W p l e room_1 s m args below meth c H locs (16 + q) (2185 + 6 * q) Q (F0 m 892 ls [])) :
    ∀ (n q : Nat) (v : SV) (w : MV) (f : Nat → Int64) (ls : Array Slot) (H : Heap) (locs : List Loc), q + n = 513 → 4 * q ≤ L → LH s dC dI cI cL cZ sc L a b o f v w (4 * q) ls H locs → W p l e room_1 s m args below meth c H locs (16 + q) (2185 + 6 * q) Q (F0 m 23 ls [])
  | 0, q, v, w, f, ls, H, locs, hn, hq, hh => by
    have hLb : L ≤ 2048 := CX.2.2.2.2.2.2.2.2.2.2.1
    omega
  | n + 1, q, v, w, f, ls, H, locs, hn, hq, hh => by
    obtain ⟨hx, hb, hml, hown, hts, hX, hsc, hK, hE, hN, hLb, hst⟩ := id CX
    obtain ⟨h, hl, hP, hD, hS⟩ := id hh
    refine lv_iload hx hb dL_law_23 (lv_at hl 4 rfl) ?_
    refine lv_aload_n hx hb dL_law_25 rfl (lv_at hl 0 rfl) ?_
    refine sc_len hx hb hX hsc hS dL_law_26 ?_
    refine lv_iconst (v := nI (4)) hx hb dL_law_27 (by decide) ?_
    refine lv_isub hx hb dL_law_28 ?_
    refine rt_i (y := iI ((L : Int) - ((4 : Nat) : Int))) (nn_sub L 4) ?_
    refine lv_icmp_gt (tgt := 892) hx hb dL_law_29 (by decide) (fun _ => EX ls H locs q (by omega) hS) (fun c9 => ?_)
    have c9 : ¬ ((L : Int) - ((4 : Nat) : Int) < ((4 * q : Nat) : Int)) := fun z => c9 ((zn_lt ⟨by omega, by omega⟩ (by omega)).mpr z)
    have hi : 4 * q + 4 ≤ L := by omega
    have hcl : 16 + q + 1 ≤ 1054 ∧ 2185 + 6 * q + 6 ≤ 10461 := by omega
    have KK : LG p l e s m args below meth c (16 + q) (2185 + 6 * q) Q dC dI cI cL cZ sc L a b o (4 * q) := by
      intro v' w' f1 ls1 H1 locs1 hh1
      obtain ⟨h', hl', hP', hD', hS'⟩ := hh1
      refine lv_iinc (v := nI (4 * q + 4)) (lv' := [(4, .int (nI (4 * q + 4))), (0, .ref sc), (1, .ref (a 0)), (2, .ref (b 0)), (3, .ref o)]) hx hb dL_law_886 hl' (k := 4) rfl (nn_add (4 * q) 4) (by decide) rfl (fun ls2 hl2 => ?_)
      refine lv_goto (tgt := 23) hx hb dL_law_889 (by decide) ?_
      have := law_loop CX EX n (q + 1) v' w' f1 ls2 H1 locs1 (by omega) (by omega) ⟨h', lv_sub hl2 [1, 2, 3, 4, 0] rfl, hP', hD', hS'⟩
      rw [show 16 + (q + 1) = 16 + q + 1 by omega, show 2185 + 6 * (q + 1) = 2185 + 6 * q + 6 by omega] at this
      exact this
    refine lv_aload_n hx hb dL_law_32 rfl (lv_at hl 0 rfl) ?_
    refine lv_iload hx hb dL_law_33 (lv_at hl 4 rfl) ?_
    refine sc_ld (k := 4 * q) (x := xs (4 * q)) hx hb hX hsc hS (by omega) hLb rfl dL_law_35 ?_
    refine lv_bipush (v := nI (31)) hx hb dL_law_36 (by decide) ?_
    refine lv_iand hx hb dL_law_38 ?_
    generalize xs (4 * q) &&& nI (31) = X
    by_cases s0 : X = 0
    · refine lv_tableIn (tgt := 120) hx hb dL_law_39 (by rw [s0]; decide) (by rw [s0]; decide) (by rw [s0] <;> rfl) (by decide) ?_
      exact lc_point CX hi hcl hh KK
    by_cases s1 : X = 1
    · refine lv_tableIn (tgt := 188) hx hb dL_law_39 (by rw [s1]; decide) (by rw [s1]; decide) (by rw [s1] <;> rfl) (by decide) ?_
      exact lc_move CX hi hcl hh KK
    by_cases s2 : X = 2
    · refine lv_tableIn (tgt := 248) hx hb dL_law_39 (by rw [s2]; decide) (by rw [s2]; decide) (by rw [s2] <;> rfl) (by decide) ?_
      exact lc_triangle CX hi hcl hh KK
    by_cases s3 : X = 3
    · refine lv_tableIn (tgt := 328) hx hb dL_law_39 (by rw [s3]; decide) (by rw [s3]; decide) (by rw [s3] <;> rfl) (by decide) ?_
      exact lc_take CX hi hcl hh KK
    by_cases s4 : X = 4
    · refine lv_tableIn (tgt := 364) hx hb dL_law_39 (by rw [s4]; decide) (by rw [s4]; decide) (by rw [s4] <;> rfl) (by decide) ?_
      exact lc_part CX hi hcl hh KK
    by_cases s5 : X = 5
    · refine lv_tableIn (tgt := 444) hx hb dL_law_39 (by rw [s5]; decide) (by rw [s5]; decide) (by rw [s5] <;> rfl) (by decide) ?_
      exact lc_turn CX hi hcl hh KK
    by_cases s6 : X = 6
    · refine lv_tableIn (tgt := 519) hx hb dL_law_39 (by rw [s6]; decide) (by rw [s6]; decide) (by rw [s6] <;> rfl) (by decide) ?_
      exact lc_improve CX hi hcl hh KK
    by_cases s7 : X = 7
    · refine lv_tableIn (tgt := 575) hx hb dL_law_39 (by rw [s7]; decide) (by rw [s7]; decide) (by rw [s7] <;> rfl) (by decide) ?_
      exact lc_fault CX hi hcl hh KK
    by_cases s8 : X = 8
    · refine lv_tableIn (tgt := 588) hx hb dL_law_39 (by rw [s8]; decide) (by rw [s8]; decide) (by rw [s8] <;> rfl) (by decide) ?_
      exact lc_culprit CX hi hcl hh KK
    by_cases s9 : X = 9
    · refine lv_tableIn (tgt := 613) hx hb dL_law_39 (by rw [s9]; decide) (by rw [s9]; decide) (by rw [s9] <;> rfl) (by decide) ?_
      exact lc_covers CX hi hcl hh KK
    by_cases s10 : X = 10
    · refine lv_tableIn (tgt := 650) hx hb dL_law_39 (by rw [s10]; decide) (by rw [s10]; decide) (by rw [s10] <;> rfl) (by decide) ?_
      exact lc_who CX hi hcl hh KK
    by_cases s11 : X = 11
    · refine lv_tableIn (tgt := 687) hx hb dL_law_39 (by rw [s11]; decide) (by rw [s11]; decide) (by rw [s11] <;> rfl) (by decide) ?_
      exact lc_painted CX hi hcl hh KK
    by_cases s12 : X = 12
    · refine lv_tableIn (tgt := 713) hx hb dL_law_39 (by rw [s12]; decide) (by rw [s12]; decide) (by rw [s12] <;> rfl) (by decide) ?_
      exact lc_locate CX hi hcl hh KK
    by_cases s13 : X = 13
    · refine lv_tableIn (tgt := 750) hx hb dL_law_39 (by rw [s13]; decide) (by rw [s13]; decide) (by rw [s13] <;> rfl) (by decide) ?_
      exact lc_beside CX hi hcl hh KK
    by_cases s14 : X = 14
    · refine lv_tableIn (tgt := 787) hx hb dL_law_39 (by rw [s14]; decide) (by rw [s14]; decide) (by rw [s14] <;> rfl) (by decide) ?_
      exact lc_isGood CX hi hcl hh KK
    by_cases s15 : X = 15
    · refine lv_tableIn (tgt := 824) hx hb dL_law_39 (by rw [s15]; decide) (by rw [s15]; decide) (by rw [s15] <;> rfl) (by decide) ?_
      exact lc_corner CX hi hcl hh KK
    by_cases s16 : X = 16
    · refine lv_tableIn (tgt := 861) hx hb dL_law_39 (by rw [s16]; decide) (by rw [s16]; decide) (by rw [s16] <;> rfl) (by decide) ?_
      exact lc_count CX hi hcl hh KK
    have tsw : X.toInt < 0 ∨ 16 < X.toInt := by
      have t0 := lv_neT s0 (a := 0) (by decide)
      have t1 := lv_neT s1 (a := 1) (by decide)
      have t2 := lv_neT s2 (a := 2) (by decide)
      have t3 := lv_neT s3 (a := 3) (by decide)
      have t4 := lv_neT s4 (a := 4) (by decide)
      have t5 := lv_neT s5 (a := 5) (by decide)
      have t6 := lv_neT s6 (a := 6) (by decide)
      have t7 := lv_neT s7 (a := 7) (by decide)
      have t8 := lv_neT s8 (a := 8) (by decide)
      have t9 := lv_neT s9 (a := 9) (by decide)
      have t10 := lv_neT s10 (a := 10) (by decide)
      have t11 := lv_neT s11 (a := 11) (by decide)
      have t12 := lv_neT s12 (a := 12) (by decide)
      have t13 := lv_neT s13 (a := 13) (by decide)
      have t14 := lv_neT s14 (a := 14) (by decide)
      have t15 := lv_neT s15 (a := 15) (by decide)
      have t16 := lv_neT s16 (a := 16) (by decide)
      omega
    refine lv_tableOut (tgt := 886) hx hb dL_law_39 tsw (by decide) ?_
    refine W.widen (Nat.le_add_right (16 + q) 1) (Nat.le_add_right (2185 + 6 * q) 6) ?_
    exact KK v w f ls H locs hh
end LE
