set_option maxHeartbeats 4000000 in
set_option maxRecDepth 100000 in
theorem c_X3_isOdd (l : Launch) (dC : Nat → ClassId) (dI : Nat → Nat → Nat) (cI cL cZ : ClassId) (b : Nat → Nat) (w : MV) (i j u q : Nat) (hv : okM w) (hi : i < 60) (hj : j < 60) (hu : u < 60) (hq : q < 60) : Met l yX3_isOdd wsX3_isOdd ({ frames := 3, cells := 0, slots := 0, locals := 81 }) (va_Pc [.ref (b 0), .int (nI (i)), .int (nI (j)), .int (nI (u)), .int (nI (q))] (ro_B (dC, dI) vwCl (wM cI cZ b w) (tyS cI cL cZ))) (k2_QcV (.int (bI (odd w.1 i j u q)))) 0 0 (fun _ => False) := by
  refine ro_Met (cc := cX3_isOdd) (maxL := 6) (ret := (some .boolean)) (by decide) rfl (Nat.le_of_ble_eq_true rfl) ?_
  intro pr en s m below meth co ls hx hb hml hr hlocks hown hts hP hK hl
  have hl : lv_has ls 6 [(0, .ref (b 0)), (1, .int (nI (i))), (2, .int (nI (j))), (3, .int (nI (u))), (4, .int (nI (q)))] := hl
  have hown : s.vm.findClass RX3 = some m.cls := hown
  have hvp : mPn w ≤ 60 ∧ mTm w ≤ 200 ∧ mTn w ≤ 60 := ⟨hv.2.1, hv.2.2.1, hv.2.2.2.1⟩
  have hj_1 : (((decide (i = u) && decide (j = q)) || (decide (i = q) && decide (j = u))) = false) → W pr l en ({ frames := 3, cells := 0, slots := 0, locals := 81 }) s m [.ref (b 0), .int (nI (i)), .int (nI (j)), .int (nI (u)), .int (nI (q))].toArray below meth co s.heap [] 0 0 (MQ below (k2_QcV (.int (bI (odd w.1 i j u q)))) [.ref (b 0), .int (nI (i)), .int (nI (j)), .int (nI (u)), .int (nI (q))].toArray s 0 0 (fun _ => False)) (F0 m 24 ls []) := by
    intro hsame
    have hj_2 : W pr l en ({ frames := 3, cells := 0, slots := 0, locals := 81 }) s m [.ref (b 0), .int (nI (i)), .int (nI (j)), .int (nI (u)), .int (nI (q))].toArray below meth co s.heap [] 0 0 (MQ below (k2_QcV (.int (bI (odd w.1 i j u q)))) [.ref (b 0), .int (nI (i)), .int (nI (j)), .int (nI (u)), .int (nI (q))].toArray s 0 0 (fun _ => False)) (F0 m 51 ls [.int (bI (!decide (i = u) && (!decide (i = q) && (!decide (j = u) && !decide (j = q)))))]) := by
      refine lv_istore (lv' := [(5, .int (bI (!decide (i = u) && (!decide (i = q) && (!decide (j = u) && !decide (j = q)))))), (0, .ref (b 0)), (1, .int (nI (i))), (2, .int (nI (j))), (3, .int (nI (u))), (4, .int (nI (q)))]) hx hb dX3_isOdd_51 hl (by decide) rfl (fun ls hl => ?_)
      have hj_3 : ((!decide (i = u) && (!decide (i = q) && bet w.1 i u q)) = false) → W pr l en ({ frames := 3, cells := 0, slots := 0, locals := 81 }) s m [.ref (b 0), .int (nI (i)), .int (nI (j)), .int (nI (u)), .int (nI (q))].toArray below meth co s.heap [] 0 0 (MQ below (k2_QcV (.int (bI (odd w.1 i j u q)))) [.ref (b 0), .int (nI (i)), .int (nI (j)), .int (nI (u)), .int (nI (q))].toArray s 0 0 (fun _ => False)) (F0 m 75 ls []) := by
        intro hg1
        have hj_4 : ((!decide (j = u) && (!decide (j = q) && bet w.1 j u q)) = false) → W pr l en ({ frames := 3, cells := 0, slots := 0, locals := 81 }) s m [.ref (b 0), .int (nI (i)), .int (nI (j)), .int (nI (u)), .int (nI (q))].toArray below meth co s.heap [] 0 0 (MQ below (k2_QcV (.int (bI (odd w.1 i j u q)))) [.ref (b 0), .int (nI (i)), .int (nI (j)), .int (nI (u)), .int (nI (q))].toArray s 0 0 (fun _ => False)) (F0 m 97 ls []) := by
          intro hg2
          have hj_5 : ((!decide (u = i) && (!decide (u = j) && bet w.1 u i j)) = false) → W pr l en ({ frames := 3, cells := 0, slots := 0, locals := 81 }) s m [.ref (b 0), .int (nI (i)), .int (nI (j)), .int (nI (u)), .int (nI (q))].toArray below meth co s.heap [] 0 0 (MQ below (k2_QcV (.int (bI (odd w.1 i j u q)))) [.ref (b 0), .int (nI (i)), .int (nI (j)), .int (nI (u)), .int (nI (q))].toArray s 0 0 (fun _ => False)) (F0 m 117 ls []) := by
            intro hg3
            have hj_6 : ((!decide (q = i) && (!decide (q = j) && bet w.1 q i j)) = false) → W pr l en ({ frames := 3, cells := 0, slots := 0, locals := 81 }) s m [.ref (b 0), .int (nI (i)), .int (nI (j)), .int (nI (u)), .int (nI (q))].toArray below meth co s.heap [] 0 0 (MQ below (k2_QcV (.int (bI (odd w.1 i j u q)))) [.ref (b 0), .int (nI (i)), .int (nI (j)), .int (nI (u)), .int (nI (q))].toArray s 0 0 (fun _ => False)) (F0 m 142 ls []) := by
              intro hg4
              refine lv_iload hx hb dX3_isOdd_142 (lv_at hl 0 rfl) ?_
              refine lv_if_eq (tgt := 202) hx hb dX3_isOdd_144 (by decide) (fun c_7 => ?_) (fun c_7 => ?_)
              · skip
                have c_7 : (!decide (i = u) && (!decide (i = q) && (!decide (j = u) && !decide (j = q)))) = false := bI_f c_7
                refine lv_iconst (v := nI (0)) hx hb dX3_isOdd_202 (by decide) ?_
                exact ro_zret hx hb hr (by decide) (rb_0 (by first | (simp only [odd, hsame, hg1, hg2, hg3, hg4]; simp [hsame, hg1, hg2, hg3, hg4, c_7]; done) | (simp [odd, hsame, hg1, hg2, hg3, hg4, c_7]; done) | (simp [odd, hsame, hg1, hg2, hg3, hg4, c_7]; omega))) dX3_isOdd_203 hlocks
              · skip
                have c_7 : (!decide (i = u) && (!decide (i = q) && (!decide (j = u) && !decide (j = q)))) = true := bI_t c_7
                refine lv_aload_n hx hb dX3_isOdd_147 rfl (lv_at hl 1 rfl) ?_
                refine lv_iload_n hx hb dX3_isOdd_148 rfl (lv_at hl 2 rfl) ?_
                refine lv_iload_n hx hb dX3_isOdd_149 rfl (lv_at hl 3 rfl) ?_
                refine lv_iload_n hx hb dX3_isOdd_150 rfl (lv_at hl 4 rfl) ?_
                refine ro_V (As := [.int (nI (i)), .int (nI (j)), .int (nI (u))]) (rest := []) (q0 := 0) (ci := 3) hx hb hml hown hts (c_X3_turnOfPoints l dC dI cI cL cZ b w i j u hv (by omega) (by omega) (by omega)) (cwV 3 hts gX3_isOdd_X3_turnOfPoints rfl rfl rfl (by decide +kernel) ⟨Nat.le_of_ble_eq_true rfl, Nat.le_of_ble_eq_true rfl⟩) hK hP rfl rfl rfl hl.1 rfl (Nat.le_of_ble_eq_true rfl) dX3_isOdd_151 ⟨Nat.zero_le _, Nat.zero_le _⟩ ?_
                have ps_8 : lOk (tof w.1 i j u) := (tof_ok hv.1).l
                refine ro_S (As := [.long (lI (tof w.1 i j u))]) (rest := []) hx hb hml hown hts (c_X3_sign l dC dI  (tof w.1 i j u) (by assumption)) (va_cwS 1 hts gX3_isOdd_X3_sign rfl rfl rfl (by decide +kernel) ⟨Nat.le_of_ble_eq_true rfl, Nat.le_of_ble_eq_true rfl⟩) (hK.sub [] rfl) (hP.sub [] rfl) rfl hl.1 rfl (Nat.le_of_ble_eq_true rfl) dX3_isOdd_154 ⟨Nat.zero_le _, Nat.zero_le _⟩ ?_
                have ps_9 : zOk (sgn (tof w.1 i j u)) := sgn_ok _
                refine lv_aload_n hx hb dX3_isOdd_157 rfl (lv_at hl 1 rfl) ?_
                refine lv_iload_n hx hb dX3_isOdd_158 rfl (lv_at hl 2 rfl) ?_
                refine lv_iload_n hx hb dX3_isOdd_159 rfl (lv_at hl 3 rfl) ?_
                refine lv_iload hx hb dX3_isOdd_160 (lv_at hl 5 rfl) ?_
                refine ro_V (As := [.int (nI (i)), .int (nI (j)), .int (nI (q))]) (rest := [.int (iI (sgn (tof w.1 i j u)))]) (q0 := 0) (ci := 3) hx hb hml hown hts (c_X3_turnOfPoints l dC dI cI cL cZ b w i j q hv (by omega) (by omega) (by omega)) (cwV 3 hts gX3_isOdd_X3_turnOfPoints rfl rfl rfl (by decide +kernel) ⟨Nat.le_of_ble_eq_true rfl, Nat.le_of_ble_eq_true rfl⟩) hK hP rfl rfl rfl hl.1 rfl (Nat.le_of_ble_eq_true rfl) dX3_isOdd_162 ⟨Nat.zero_le _, Nat.zero_le _⟩ ?_
                have ps_10 : lOk (tof w.1 i j q) := (tof_ok hv.1).l
                refine ro_S (As := [.long (lI (tof w.1 i j q))]) (rest := [.int (iI (sgn (tof w.1 i j u)))]) hx hb hml hown hts (c_X3_sign l dC dI  (tof w.1 i j q) (by assumption)) (va_cwS 1 hts gX3_isOdd_X3_sign rfl rfl rfl (by decide +kernel) ⟨Nat.le_of_ble_eq_true rfl, Nat.le_of_ble_eq_true rfl⟩) (hK.sub [] rfl) (hP.sub [] rfl) rfl hl.1 rfl (Nat.le_of_ble_eq_true rfl) dX3_isOdd_165 ⟨Nat.zero_le _, Nat.zero_le _⟩ ?_
                have ps_11 : zOk (sgn (tof w.1 i j q)) := sgn_ok _
                refine lv_imul hx hb dX3_isOdd_168 ?_
                refine rt_i (y := (iI ((sgn (tof w.1 i j u)) * (sgn (tof w.1 i j q))))) (zz_mul (sgn (tof w.1 i j u)) (sgn (tof w.1 i j q))) ?_
                refine lv_if_ge (tgt := 202) hx hb dX3_isOdd_169 (by decide) (fun c_12 => ?_) (fun c_12 => ?_)
                · skip
                  have c_12 : 0 ≤ ((sgn (tof w.1 i j u)) * (sgn (tof w.1 i j q))) := (l0_le (sgn_mul_ok _ _)).mp c_12
                  refine lv_iconst (v := nI (0)) hx hb dX3_isOdd_202 (by decide) ?_
                  exact ro_zret hx hb hr (by decide) (rb_0 (by first | (simp only [odd, hsame, hg1, hg2, hg3, hg4]; simp [hsame, hg1, hg2, hg3, hg4, c_7, c_12]; done) | (simp [odd, hsame, hg1, hg2, hg3, hg4, c_7, c_12]; done) | (simp [odd, hsame, hg1, hg2, hg3, hg4, c_7, c_12]; omega))) dX3_isOdd_203 hlocks
                · skip
                  have c_12 : ¬ (0 ≤ ((sgn (tof w.1 i j u)) * (sgn (tof w.1 i j q)))) := fun hq9 => c_12 ((l0_le (sgn_mul_ok _ _)).mpr hq9)
                  refine lv_aload_n hx hb dX3_isOdd_172 rfl (lv_at hl 1 rfl) ?_
                  refine lv_iload_n hx hb dX3_isOdd_173 rfl (lv_at hl 4 rfl) ?_
                  refine lv_iload hx hb dX3_isOdd_174 (lv_at hl 5 rfl) ?_
                  refine lv_iload_n hx hb dX3_isOdd_176 rfl (lv_at hl 2 rfl) ?_
                  refine ro_V (As := [.int (nI (u)), .int (nI (q)), .int (nI (i))]) (rest := []) (q0 := 0) (ci := 3) hx hb hml hown hts (c_X3_turnOfPoints l dC dI cI cL cZ b w u q i hv (by omega) (by omega) (by omega)) (cwV 3 hts gX3_isOdd_X3_turnOfPoints rfl rfl rfl (by decide +kernel) ⟨Nat.le_of_ble_eq_true rfl, Nat.le_of_ble_eq_true rfl⟩) hK hP rfl rfl rfl hl.1 rfl (Nat.le_of_ble_eq_true rfl) dX3_isOdd_177 ⟨Nat.zero_le _, Nat.zero_le _⟩ ?_
                  have ps_13 : lOk (tof w.1 u q i) := (tof_ok hv.1).l
                  refine ro_S (As := [.long (lI (tof w.1 u q i))]) (rest := []) hx hb hml hown hts (c_X3_sign l dC dI  (tof w.1 u q i) (by assumption)) (va_cwS 1 hts gX3_isOdd_X3_sign rfl rfl rfl (by decide +kernel) ⟨Nat.le_of_ble_eq_true rfl, Nat.le_of_ble_eq_true rfl⟩) (hK.sub [] rfl) (hP.sub [] rfl) rfl hl.1 rfl (Nat.le_of_ble_eq_true rfl) dX3_isOdd_180 ⟨Nat.zero_le _, Nat.zero_le _⟩ ?_
                  have ps_14 : zOk (sgn (tof w.1 u q i)) := sgn_ok _
                  refine lv_aload_n hx hb dX3_isOdd_183 rfl (lv_at hl 1 rfl) ?_
                  refine lv_iload_n hx hb dX3_isOdd_184 rfl (lv_at hl 4 rfl) ?_
                  refine lv_iload hx hb dX3_isOdd_185 (lv_at hl 5 rfl) ?_
                  refine lv_iload_n hx hb dX3_isOdd_187 rfl (lv_at hl 3 rfl) ?_
                  refine ro_V (As := [.int (nI (u)), .int (nI (q)), .int (nI (j))]) (rest := [.int (iI (sgn (tof w.1 u q i)))]) (q0 := 0) (ci := 3) hx hb hml hown hts (c_X3_turnOfPoints l dC dI cI cL cZ b w u q j hv (by omega) (by omega) (by omega)) (cwV 3 hts gX3_isOdd_X3_turnOfPoints rfl rfl rfl (by decide +kernel) ⟨Nat.le_of_ble_eq_true rfl, Nat.le_of_ble_eq_true rfl⟩) hK hP rfl rfl rfl hl.1 rfl (Nat.le_of_ble_eq_true rfl) dX3_isOdd_188 ⟨Nat.zero_le _, Nat.zero_le _⟩ ?_
                  have ps_15 : lOk (tof w.1 u q j) := (tof_ok hv.1).l
                  refine ro_S (As := [.long (lI (tof w.1 u q j))]) (rest := [.int (iI (sgn (tof w.1 u q i)))]) hx hb hml hown hts (c_X3_sign l dC dI  (tof w.1 u q j) (by assumption)) (va_cwS 1 hts gX3_isOdd_X3_sign rfl rfl rfl (by decide +kernel) ⟨Nat.le_of_ble_eq_true rfl, Nat.le_of_ble_eq_true rfl⟩) (hK.sub [] rfl) (hP.sub [] rfl) rfl hl.1 rfl (Nat.le_of_ble_eq_true rfl) dX3_isOdd_191 ⟨Nat.zero_le _, Nat.zero_le _⟩ ?_
                  have ps_16 : zOk (sgn (tof w.1 u q j)) := sgn_ok _
                  refine lv_imul hx hb dX3_isOdd_194 ?_
                  refine rt_i (y := (iI ((sgn (tof w.1 u q i)) * (sgn (tof w.1 u q j))))) (zz_mul (sgn (tof w.1 u q i)) (sgn (tof w.1 u q j))) ?_
                  refine lv_if_ge (tgt := 202) hx hb dX3_isOdd_195 (by decide) (fun c_17 => ?_) (fun c_17 => ?_)
                  · skip
                    have c_17 : 0 ≤ ((sgn (tof w.1 u q i)) * (sgn (tof w.1 u q j))) := (l0_le (sgn_mul_ok _ _)).mp c_17
                    refine lv_iconst (v := nI (0)) hx hb dX3_isOdd_202 (by decide) ?_
                    exact ro_zret hx hb hr (by decide) (rb_0 (by first | (simp only [odd, hsame, hg1, hg2, hg3, hg4]; simp [hsame, hg1, hg2, hg3, hg4, c_7, c_12, c_17]; done) | (simp [odd, hsame, hg1, hg2, hg3, hg4, c_7, c_12, c_17]; done) | (simp [odd, hsame, hg1, hg2, hg3, hg4, c_7, c_12, c_17]; omega))) dX3_isOdd_203 hlocks
                  · skip
                    have c_17 : ¬ (0 ≤ ((sgn (tof w.1 u q i)) * (sgn (tof w.1 u q j)))) := fun hq9 => c_17 ((l0_le (sgn_mul_ok _ _)).mpr hq9)
                    refine lv_iconst (v := nI (1)) hx hb dX3_isOdd_198 (by decide) ?_
                    refine lv_goto (tgt := 203) hx hb dX3_isOdd_199 (by decide) ?_
                    exact ro_zret hx hb hr (by decide) (rb_1 (by first | (simp only [odd, hsame, hg1, hg2, hg3, hg4]; simp [hsame, hg1, hg2, hg3, hg4, c_7, c_12, c_17]; done) | (simp [odd, hsame, hg1, hg2, hg3, hg4, c_7, c_12, c_17]; done) | (simp [odd, hsame, hg1, hg2, hg3, hg4, c_7, c_12, c_17]; omega))) dX3_isOdd_203 hlocks
            refine lv_iload hx hb dX3_isOdd_117 (lv_at hl 5 rfl) ?_
            refine lv_iload_n hx hb dX3_isOdd_119 rfl (lv_at hl 2 rfl) ?_
            refine lv_icmp_eq (tgt := 142) hx hb dX3_isOdd_120 (by decide) (fun c_18 => ?_) (fun c_18 => ?_)
            · skip
              have c_18 : q = i := (nI_eq (a := q) (b := i) (by omega) (by omega)).mp c_18
              exact hj_6 (by first | (simp [hsame, hg1, hg2, hg3, c_18]; done) | (simp [hsame, hg1, hg2, hg3, c_18]; omega))
            · skip
              have c_18 : ¬ (q = i) := fun hq9 => c_18 ((nI_eq (a := q) (b := i) (by omega) (by omega)).mpr hq9)
              refine lv_iload hx hb dX3_isOdd_123 (lv_at hl 5 rfl) ?_
              refine lv_iload_n hx hb dX3_isOdd_125 rfl (lv_at hl 3 rfl) ?_
              refine lv_icmp_eq (tgt := 142) hx hb dX3_isOdd_126 (by decide) (fun c_19 => ?_) (fun c_19 => ?_)
              · skip
                have c_19 : q = j := (nI_eq (a := q) (b := j) (by omega) (by omega)).mp c_19
                exact hj_6 (by first | (simp [hsame, hg1, hg2, hg3, c_18, c_19]; done) | (simp [hsame, hg1, hg2, hg3, c_18, c_19]; omega))
              · skip
                have c_19 : ¬ (q = j) := fun hq9 => c_19 ((nI_eq (a := q) (b := j) (by omega) (by omega)).mpr hq9)
                refine lv_aload_n hx hb dX3_isOdd_129 rfl (lv_at hl 1 rfl) ?_
                refine lv_iload hx hb dX3_isOdd_130 (lv_at hl 5 rfl) ?_
                refine lv_iload_n hx hb dX3_isOdd_132 rfl (lv_at hl 2 rfl) ?_
                refine lv_iload_n hx hb dX3_isOdd_133 rfl (lv_at hl 3 rfl) ?_
                refine ro_V (As := [.int (nI (q)), .int (nI (i)), .int (nI (j))]) (rest := []) (q0 := 0) (ci := 3) hx hb hml hown hts (c_X3_isBetween l dC dI cI cL cZ b w q i j hv (by omega) (by omega) (by omega)) (cwV 3 hts gX3_isOdd_X3_isBetween rfl rfl rfl (by decide +kernel) ⟨Nat.le_of_ble_eq_true rfl, Nat.le_of_ble_eq_true rfl⟩) hK hP rfl rfl rfl hl.1 rfl (Nat.le_of_ble_eq_true rfl) dX3_isOdd_134 ⟨Nat.zero_le _, Nat.zero_le _⟩ ?_
                refine lv_if_eq (tgt := 142) hx hb dX3_isOdd_137 (by decide) (fun c_20 => ?_) (fun c_20 => ?_)
                · skip
                  have c_20 : (bet w.1 q i j) = false := bI_f c_20
                  exact hj_6 (by first | (simp [hsame, hg1, hg2, hg3, c_18, c_19, c_20]; done) | (simp [hsame, hg1, hg2, hg3, c_18, c_19, c_20]; omega))
                · skip
                  have c_20 : (bet w.1 q i j) = true := bI_t c_20
                  refine lv_iconst (v := nI (1)) hx hb dX3_isOdd_140 (by decide) ?_
                  exact ro_zret hx hb hr (by decide) (rb_1 (by first | (simp [odd, hsame, hg1, hg2, hg3, c_18, c_19, c_20]; done) | (simp [odd, hsame, hg1, hg2, hg3, c_18, c_19, c_20]; omega))) dX3_isOdd_141 hlocks
          refine lv_iload_n hx hb dX3_isOdd_97 rfl (lv_at hl 4 rfl) ?_
          refine lv_iload_n hx hb dX3_isOdd_98 rfl (lv_at hl 2 rfl) ?_
          refine lv_icmp_eq (tgt := 117) hx hb dX3_isOdd_99 (by decide) (fun c_21 => ?_) (fun c_21 => ?_)
          · skip
            have c_21 : u = i := (nI_eq (a := u) (b := i) (by omega) (by omega)).mp c_21
            exact hj_5 (by first | (simp [hsame, hg1, hg2, c_21]; done) | (simp [hsame, hg1, hg2, c_21]; omega))
          · skip
            have c_21 : ¬ (u = i) := fun hq9 => c_21 ((nI_eq (a := u) (b := i) (by omega) (by omega)).mpr hq9)
            refine lv_iload_n hx hb dX3_isOdd_102 rfl (lv_at hl 4 rfl) ?_
            refine lv_iload_n hx hb dX3_isOdd_103 rfl (lv_at hl 3 rfl) ?_
            refine lv_icmp_eq (tgt := 117) hx hb dX3_isOdd_104 (by decide) (fun c_22 => ?_) (fun c_22 => ?_)
            · skip
              have c_22 : u = j := (nI_eq (a := u) (b := j) (by omega) (by omega)).mp c_22
              exact hj_5 (by first | (simp [hsame, hg1, hg2, c_21, c_22]; done) | (simp [hsame, hg1, hg2, c_21, c_22]; omega))
            · skip
              have c_22 : ¬ (u = j) := fun hq9 => c_22 ((nI_eq (a := u) (b := j) (by omega) (by omega)).mpr hq9)
              refine lv_aload_n hx hb dX3_isOdd_107 rfl (lv_at hl 1 rfl) ?_
              refine lv_iload_n hx hb dX3_isOdd_108 rfl (lv_at hl 4 rfl) ?_
              refine lv_iload_n hx hb dX3_isOdd_109 rfl (lv_at hl 2 rfl) ?_
              refine lv_iload_n hx hb dX3_isOdd_110 rfl (lv_at hl 3 rfl) ?_
              refine ro_V (As := [.int (nI (u)), .int (nI (i)), .int (nI (j))]) (rest := []) (q0 := 0) (ci := 3) hx hb hml hown hts (c_X3_isBetween l dC dI cI cL cZ b w u i j hv (by omega) (by omega) (by omega)) (cwV 3 hts gX3_isOdd_X3_isBetween rfl rfl rfl (by decide +kernel) ⟨Nat.le_of_ble_eq_true rfl, Nat.le_of_ble_eq_true rfl⟩) hK hP rfl rfl rfl hl.1 rfl (Nat.le_of_ble_eq_true rfl) dX3_isOdd_111 ⟨Nat.zero_le _, Nat.zero_le _⟩ ?_
              refine lv_if_ne (tgt := 140) hx hb dX3_isOdd_114 (by decide) (fun c_23 => ?_) (fun c_23 => ?_)
              · skip
                have c_23 : (bet w.1 u i j) = true := bI_t c_23
                refine lv_iconst (v := nI (1)) hx hb dX3_isOdd_140 (by decide) ?_
                exact ro_zret hx hb hr (by decide) (rb_1 (by first | (simp [odd, hsame, hg1, hg2, c_21, c_22, c_23]; done) | (simp [odd, hsame, hg1, hg2, c_21, c_22, c_23]; omega))) dX3_isOdd_141 hlocks
              · skip
                have c_23 : (bet w.1 u i j) = false := bI_f c_23
                exact hj_5 (by first | (simp [hsame, hg1, hg2, c_21, c_22, c_23]; done) | (simp [hsame, hg1, hg2, c_21, c_22, c_23]; omega))
        refine lv_iload_n hx hb dX3_isOdd_75 rfl (lv_at hl 3 rfl) ?_
        refine lv_iload_n hx hb dX3_isOdd_76 rfl (lv_at hl 4 rfl) ?_
        refine lv_icmp_eq (tgt := 97) hx hb dX3_isOdd_77 (by decide) (fun c_24 => ?_) (fun c_24 => ?_)
        · skip
          have c_24 : j = u := (nI_eq (a := j) (b := u) (by omega) (by omega)).mp c_24
          exact hj_4 (by first | (simp [hsame, hg1, c_24]; done) | (simp [hsame, hg1, c_24]; omega))
        · skip
          have c_24 : ¬ (j = u) := fun hq9 => c_24 ((nI_eq (a := j) (b := u) (by omega) (by omega)).mpr hq9)
          refine lv_iload_n hx hb dX3_isOdd_80 rfl (lv_at hl 3 rfl) ?_
          refine lv_iload hx hb dX3_isOdd_81 (lv_at hl 5 rfl) ?_
          refine lv_icmp_eq (tgt := 97) hx hb dX3_isOdd_83 (by decide) (fun c_25 => ?_) (fun c_25 => ?_)
          · skip
            have c_25 : j = q := (nI_eq (a := j) (b := q) (by omega) (by omega)).mp c_25
            exact hj_4 (by first | (simp [hsame, hg1, c_24, c_25]; done) | (simp [hsame, hg1, c_24, c_25]; omega))
          · skip
            have c_25 : ¬ (j = q) := fun hq9 => c_25 ((nI_eq (a := j) (b := q) (by omega) (by omega)).mpr hq9)
            refine lv_aload_n hx hb dX3_isOdd_86 rfl (lv_at hl 1 rfl) ?_
            refine lv_iload_n hx hb dX3_isOdd_87 rfl (lv_at hl 3 rfl) ?_
            refine lv_iload_n hx hb dX3_isOdd_88 rfl (lv_at hl 4 rfl) ?_
            refine lv_iload hx hb dX3_isOdd_89 (lv_at hl 5 rfl) ?_
            refine ro_V (As := [.int (nI (j)), .int (nI (u)), .int (nI (q))]) (rest := []) (q0 := 0) (ci := 3) hx hb hml hown hts (c_X3_isBetween l dC dI cI cL cZ b w j u q hv (by omega) (by omega) (by omega)) (cwV 3 hts gX3_isOdd_X3_isBetween rfl rfl rfl (by decide +kernel) ⟨Nat.le_of_ble_eq_true rfl, Nat.le_of_ble_eq_true rfl⟩) hK hP rfl rfl rfl hl.1 rfl (Nat.le_of_ble_eq_true rfl) dX3_isOdd_91 ⟨Nat.zero_le _, Nat.zero_le _⟩ ?_
            refine lv_if_ne (tgt := 140) hx hb dX3_isOdd_94 (by decide) (fun c_26 => ?_) (fun c_26 => ?_)
            · skip
              have c_26 : (bet w.1 j u q) = true := bI_t c_26
              refine lv_iconst (v := nI (1)) hx hb dX3_isOdd_140 (by decide) ?_
              exact ro_zret hx hb hr (by decide) (rb_1 (by first | (simp [odd, hsame, hg1, c_24, c_25, c_26]; done) | (simp [odd, hsame, hg1, c_24, c_25, c_26]; omega))) dX3_isOdd_141 hlocks
            · skip
              have c_26 : (bet w.1 j u q) = false := bI_f c_26
              exact hj_4 (by first | (simp [hsame, hg1, c_24, c_25, c_26]; done) | (simp [hsame, hg1, c_24, c_25, c_26]; omega))
      refine lv_iload_n hx hb dX3_isOdd_53 rfl (lv_at hl 2 rfl) ?_
      refine lv_iload_n hx hb dX3_isOdd_54 rfl (lv_at hl 4 rfl) ?_
      refine lv_icmp_eq (tgt := 75) hx hb dX3_isOdd_55 (by decide) (fun c_27 => ?_) (fun c_27 => ?_)
      · skip
        have c_27 : i = u := (nI_eq (a := i) (b := u) (by omega) (by omega)).mp c_27
        exact hj_3 (by first | (simp [hsame, c_27]; done) | (simp [hsame, c_27]; omega))
      · skip
        have c_27 : ¬ (i = u) := fun hq9 => c_27 ((nI_eq (a := i) (b := u) (by omega) (by omega)).mpr hq9)
        refine lv_iload_n hx hb dX3_isOdd_58 rfl (lv_at hl 2 rfl) ?_
        refine lv_iload hx hb dX3_isOdd_59 (lv_at hl 5 rfl) ?_
        refine lv_icmp_eq (tgt := 75) hx hb dX3_isOdd_61 (by decide) (fun c_28 => ?_) (fun c_28 => ?_)
        · skip
          have c_28 : i = q := (nI_eq (a := i) (b := q) (by omega) (by omega)).mp c_28
          exact hj_3 (by first | (simp [hsame, c_27, c_28]; done) | (simp [hsame, c_27, c_28]; omega))
        · skip
          have c_28 : ¬ (i = q) := fun hq9 => c_28 ((nI_eq (a := i) (b := q) (by omega) (by omega)).mpr hq9)
          refine lv_aload_n hx hb dX3_isOdd_64 rfl (lv_at hl 1 rfl) ?_
          refine lv_iload_n hx hb dX3_isOdd_65 rfl (lv_at hl 2 rfl) ?_
          refine lv_iload_n hx hb dX3_isOdd_66 rfl (lv_at hl 4 rfl) ?_
          refine lv_iload hx hb dX3_isOdd_67 (lv_at hl 5 rfl) ?_
          refine ro_V (As := [.int (nI (i)), .int (nI (u)), .int (nI (q))]) (rest := []) (q0 := 0) (ci := 3) hx hb hml hown hts (c_X3_isBetween l dC dI cI cL cZ b w i u q hv (by omega) (by omega) (by omega)) (cwV 3 hts gX3_isOdd_X3_isBetween rfl rfl rfl (by decide +kernel) ⟨Nat.le_of_ble_eq_true rfl, Nat.le_of_ble_eq_true rfl⟩) hK hP rfl rfl rfl hl.1 rfl (Nat.le_of_ble_eq_true rfl) dX3_isOdd_69 ⟨Nat.zero_le _, Nat.zero_le _⟩ ?_
          refine lv_if_ne (tgt := 140) hx hb dX3_isOdd_72 (by decide) (fun c_29 => ?_) (fun c_29 => ?_)
          · skip
            have c_29 : (bet w.1 i u q) = true := bI_t c_29
            refine lv_iconst (v := nI (1)) hx hb dX3_isOdd_140 (by decide) ?_
            exact ro_zret hx hb hr (by decide) (rb_1 (by first | (simp [odd, hsame, c_27, c_28, c_29]; done) | (simp [odd, hsame, c_27, c_28, c_29]; omega))) dX3_isOdd_141 hlocks
          · skip
            have c_29 : (bet w.1 i u q) = false := bI_f c_29
            exact hj_3 (by first | (simp [hsame, c_27, c_28, c_29]; done) | (simp [hsame, c_27, c_28, c_29]; omega))
    refine lv_iload_n hx hb dX3_isOdd_24 rfl (lv_at hl 1 rfl) ?_
    refine lv_iload_n hx hb dX3_isOdd_25 rfl (lv_at hl 3 rfl) ?_
    refine lv_icmp_eq (tgt := 50) hx hb dX3_isOdd_26 (by decide) (fun c_30 => ?_) (fun c_30 => ?_)
    · skip
      have c_30 : i = u := (nI_eq (a := i) (b := u) (by omega) (by omega)).mp c_30
      refine lv_iconst (v := nI (0)) hx hb dX3_isOdd_50 (by decide) ?_
      refine rt_i (y := (bI (!decide (i = u) && (!decide (i = q) && (!decide (j = u) && !decide (j = q)))))) (bv_0 (by first | (simp [hsame, c_30]; done) | (simp; omega))) ?_
      exact hj_2
    · skip
      have c_30 : ¬ (i = u) := fun hq9 => c_30 ((nI_eq (a := i) (b := u) (by omega) (by omega)).mpr hq9)
      refine lv_iload_n hx hb dX3_isOdd_29 rfl (lv_at hl 1 rfl) ?_
      refine lv_iload hx hb dX3_isOdd_30 (lv_at hl 4 rfl) ?_
      refine lv_icmp_eq (tgt := 50) hx hb dX3_isOdd_32 (by decide) (fun c_31 => ?_) (fun c_31 => ?_)
      · skip
        have c_31 : i = q := (nI_eq (a := i) (b := q) (by omega) (by omega)).mp c_31
        refine lv_iconst (v := nI (0)) hx hb dX3_isOdd_50 (by decide) ?_
        refine rt_i (y := (bI (!decide (i = u) && (!decide (i = q) && (!decide (j = u) && !decide (j = q)))))) (bv_0 (by first | (simp [hsame, c_30, c_31]; done) | (simp; omega))) ?_
        exact hj_2
      · skip
        have c_31 : ¬ (i = q) := fun hq9 => c_31 ((nI_eq (a := i) (b := q) (by omega) (by omega)).mpr hq9)
        refine lv_iload_n hx hb dX3_isOdd_35 rfl (lv_at hl 2 rfl) ?_
        refine lv_iload_n hx hb dX3_isOdd_36 rfl (lv_at hl 3 rfl) ?_
        refine lv_icmp_eq (tgt := 50) hx hb dX3_isOdd_37 (by decide) (fun c_32 => ?_) (fun c_32 => ?_)
        · skip
          have c_32 : j = u := (nI_eq (a := j) (b := u) (by omega) (by omega)).mp c_32
          refine lv_iconst (v := nI (0)) hx hb dX3_isOdd_50 (by decide) ?_
          refine rt_i (y := (bI (!decide (i = u) && (!decide (i = q) && (!decide (j = u) && !decide (j = q)))))) (bv_0 (by first | (simp [hsame, c_30, c_31, c_32]; done) | (simp; omega))) ?_
          exact hj_2
        · skip
          have c_32 : ¬ (j = u) := fun hq9 => c_32 ((nI_eq (a := j) (b := u) (by omega) (by omega)).mpr hq9)
          refine lv_iload_n hx hb dX3_isOdd_40 rfl (lv_at hl 2 rfl) ?_
          refine lv_iload hx hb dX3_isOdd_41 (lv_at hl 4 rfl) ?_
          refine lv_icmp_eq (tgt := 50) hx hb dX3_isOdd_43 (by decide) (fun c_33 => ?_) (fun c_33 => ?_)
          · skip
            have c_33 : j = q := (nI_eq (a := j) (b := q) (by omega) (by omega)).mp c_33
            refine lv_iconst (v := nI (0)) hx hb dX3_isOdd_50 (by decide) ?_
            refine rt_i (y := (bI (!decide (i = u) && (!decide (i = q) && (!decide (j = u) && !decide (j = q)))))) (bv_0 (by first | (simp [hsame, c_30, c_31, c_32, c_33]; done) | (simp; omega))) ?_
            exact hj_2
          · skip
            have c_33 : ¬ (j = q) := fun hq9 => c_33 ((nI_eq (a := j) (b := q) (by omega) (by omega)).mpr hq9)
            refine lv_iconst (v := nI (1)) hx hb dX3_isOdd_46 (by decide) ?_
            refine lv_goto (tgt := 51) hx hb dX3_isOdd_47 (by decide) ?_
            refine rt_i (y := (bI (!decide (i = u) && (!decide (i = q) && (!decide (j = u) && !decide (j = q)))))) (bv_1 (by first | (simp [hsame, c_30, c_31, c_32, c_33]; done) | (simp; omega))) ?_
            exact hj_2
  refine lv_iload_n hx hb dX3_isOdd_0 rfl (lv_at hl 1 rfl) ?_
  refine lv_iload_n hx hb dX3_isOdd_1 rfl (lv_at hl 3 rfl) ?_
  refine lv_icmp_ne (tgt := 11) hx hb dX3_isOdd_2 (by decide) (fun c_34 => ?_) (fun c_34 => ?_)
  · skip
    have c_34 : ¬ (i = u) := fun hq9 => c_34 ((nI_eq (a := i) (b := u) (by omega) (by omega)).mpr hq9)
    refine lv_iload_n hx hb dX3_isOdd_11 rfl (lv_at hl 1 rfl) ?_
    refine lv_iload hx hb dX3_isOdd_12 (lv_at hl 4 rfl) ?_
    refine lv_icmp_ne (tgt := 24) hx hb dX3_isOdd_14 (by decide) (fun c_35 => ?_) (fun c_35 => ?_)
    · skip
      have c_35 : ¬ (i = q) := fun hq9 => c_35 ((nI_eq (a := i) (b := q) (by omega) (by omega)).mpr hq9)
      exact hj_1 (by first | (simp [c_34, c_35]; done) | (simp; omega))
    · skip
      have c_35 : i = q := (nI_eq (a := i) (b := q) (by omega) (by omega)).mp c_35
      refine lv_iload_n hx hb dX3_isOdd_17 rfl (lv_at hl 2 rfl) ?_
      refine lv_iload_n hx hb dX3_isOdd_18 rfl (lv_at hl 3 rfl) ?_
      refine lv_icmp_ne (tgt := 24) hx hb dX3_isOdd_19 (by decide) (fun c_36 => ?_) (fun c_36 => ?_)
      · skip
        have c_36 : ¬ (j = u) := fun hq9 => c_36 ((nI_eq (a := j) (b := u) (by omega) (by omega)).mpr hq9)
        exact hj_1 (by first | (simp [c_34, c_35, c_36]; done) | (simp; omega))
      · skip
        have c_36 : j = u := (nI_eq (a := j) (b := u) (by omega) (by omega)).mp c_36
        refine lv_iconst (v := nI (0)) hx hb dX3_isOdd_22 (by decide) ?_
        exact ro_zret hx hb hr (by decide) (rb_0 (by first | (simp [odd, c_34, c_35, c_36]; done) | (simp [odd]; omega))) dX3_isOdd_23 hlocks
  · skip
    have c_34 : i = u := (nI_eq (a := i) (b := u) (by omega) (by omega)).mp c_34
    refine lv_iload_n hx hb dX3_isOdd_5 rfl (lv_at hl 2 rfl) ?_
    refine lv_iload hx hb dX3_isOdd_6 (lv_at hl 4 rfl) ?_
    refine lv_icmp_eq (tgt := 22) hx hb dX3_isOdd_8 (by decide) (fun c_37 => ?_) (fun c_37 => ?_)
    · skip
      have c_37 : j = q := (nI_eq (a := j) (b := q) (by omega) (by omega)).mp c_37
      refine lv_iconst (v := nI (0)) hx hb dX3_isOdd_22 (by decide) ?_
      exact ro_zret hx hb hr (by decide) (rb_0 (by first | (simp [odd, c_34, c_37]; done) | (simp [odd]; omega))) dX3_isOdd_23 hlocks
    · skip
      have c_37 : ¬ (j = q) := fun hq9 => c_37 ((nI_eq (a := j) (b := q) (by omega) (by omega)).mpr hq9)
      refine lv_iload_n hx hb dX3_isOdd_11 rfl (lv_at hl 1 rfl) ?_
      refine lv_iload hx hb dX3_isOdd_12 (lv_at hl 4 rfl) ?_
      refine lv_icmp_ne (tgt := 24) hx hb dX3_isOdd_14 (by decide) (fun c_38 => ?_) (fun c_38 => ?_)
      · skip
        have c_38 : ¬ (i = q) := fun hq9 => c_38 ((nI_eq (a := i) (b := q) (by omega) (by omega)).mpr hq9)
        exact hj_1 (by first | (simp [c_34, c_37, c_38]; done) | (simp; omega))
      · skip
        have c_38 : i = q := (nI_eq (a := i) (b := q) (by omega) (by omega)).mp c_38
        refine lv_iload_n hx hb dX3_isOdd_17 rfl (lv_at hl 2 rfl) ?_
        refine lv_iload_n hx hb dX3_isOdd_18 rfl (lv_at hl 3 rfl) ?_
        refine lv_icmp_ne (tgt := 24) hx hb dX3_isOdd_19 (by decide) (fun c_39 => ?_) (fun c_39 => ?_)
        · skip
          have c_39 : ¬ (j = u) := fun hq9 => c_39 ((nI_eq (a := j) (b := u) (by omega) (by omega)).mpr hq9)
          exact hj_1 (by first | (simp [c_34, c_37, c_38, c_39]; done) | (simp; omega))
        · skip
          have c_39 : j = u := (nI_eq (a := j) (b := u) (by omega) (by omega)).mp c_39
          refine lv_iconst (v := nI (0)) hx hb dX3_isOdd_22 (by decide) ?_
          exact ro_zret hx hb hr (by decide) (rb_0 (by first | (simp [odd, c_34, c_37, c_38, c_39]; done) | (simp [odd]; omega))) dX3_isOdd_23 hlocks
set_option maxHeartbeats 4000000 in
set_option maxRecDepth 100000 in
theorem c_X3_isTidy (l : Launch) (dC : Nat → ClassId) (dI : Nat → Nat → Nat) (cI cL cZ : ClassId) (b : Nat → Nat) (w : MV) (t u : Nat) (hv : okM w) (ht : t < 200) (hu : u < 200) : Met l yX3_isTidy wsX3_isTidy ({ frames := 4, cells := 0, slots := 0, locals := 106 }) (va_Pc [.ref (b 0), .int (nI (t)), .int (nI (u))] (ro_B (dC, dI) vwCl (wM cI cZ b w) (tyS cI cL cZ))) (k2_QcV (.int (bI (mti w.1 t u)))) 0 0 (fun _ => False) := by
  refine ro_Met (cc := cX3_isTidy) (maxL := 6) (ret := (some .boolean)) (by decide) rfl (Nat.le_of_ble_eq_true rfl) ?_
  intro pr en s m below meth co ls hx hb hml hr hlocks hown hts hP hK hl
  have hl : lv_has ls 6 [(0, .ref (b 0)), (1, .int (nI (t))), (2, .int (nI (u)))] := hl
  have hown : s.vm.findClass RX3 = some m.cls := hown
  have hvp : mPn w ≤ 60 ∧ mTm w ≤ 200 ∧ mTn w ≤ 60 := ⟨hv.2.1, hv.2.2.1, hv.2.2.2.1⟩
  refine lv_iconst (v := nI (0)) hx hb dX3_isTidy_0 (by decide) ?_
  refine lv_istore_n (lv' := [(3, .int (nI (0))), (0, .ref (b 0)), (1, .int (nI (t))), (2, .int (nI (u)))]) hx hb dX3_isTidy_1 rfl hl (by decide) rfl (fun ls hl => ?_)
  refine lv_iconst (v := nI (0)) hx hb dX3_isTidy_2 (by decide) ?_
  refine lv_istore (lv' := [(4, .int (nI (0))), (3, .int (nI (0))), (0, .ref (b 0)), (1, .int (nI (t))), (2, .int (nI (u)))]) hx hb dX3_isTidy_3 hl (by decide) rfl (fun ls hl => ?_)
  refine lp (σ := Nat × Nat) (LV := fun (n, sm) => [(0, .ref (b 0)), (1, .int (nI (t))), (2, .int (nI (u))), (3, .int (nI (sm))), (4, .int (nI (n)))]) (I := fun k (n, sm) => n + k = 3 ∧ sm ≤ n ∧ cnt (fun k => hcr w.1 u (gc w.1 t k)) 3 0 = sm + cnt (fun k => hcr w.1 u (gc w.1 t k)) k n ∧ alf (fun k => !(!hcr w.1 u (gc w.1 t k) && has w.1 u (gx w.1 (gc w.1 t k)) (gy w.1 (gc w.1 t k))) && !(!hcr w.1 t (gc w.1 u k) && has w.1 t (gx w.1 (gc w.1 u k)) (gy w.1 (gc w.1 u k)))) 3 0 = alf (fun k => !(!hcr w.1 u (gc w.1 t k) && has w.1 u (gx w.1 (gc w.1 t k)) (gy w.1 (gc w.1 t k))) && !(!hcr w.1 t (gc w.1 u k) && has w.1 t (gx w.1 (gc w.1 u k)) (gy w.1 (gc w.1 u k)))) k n) (fun k (n, sm) ls hI_k hl ih_k => ?_) (3) (0, 0) ls ⟨by omega, by omega, by omega, rfl⟩ (lv_sub hl [2, 3, 4, 1, 0] rfl)
  obtain ⟨hk, hs, hc, hi⟩ := hI_k
  have hq0 := gc_lt hv.1 (t := t) (k := n)
  have hq1 := gc_lt hv.1 (t := u) (k := n)
  refine lv_iload hx hb dX3_isTidy_5 (lv_at hl 4 rfl) ?_
  refine lv_iconst (v := nI (3)) hx hb dX3_isTidy_7 (by decide) ?_
  refine lv_icmp_ge (tgt := 142) hx hb dX3_isTidy_8 (by decide) (fun c_1 => ?_) (fun c_1 => ?_)
  · skip
    have c_1 : 3 ≤ n := (nI_leI (a := 3) (b := n) (by omega) (by omega)).mp c_1
    refine lv_iload_n hx hb dX3_isTidy_142 rfl (lv_at hl 3 rfl) ?_
    refine lv_iconst (v := nI (3)) hx hb dX3_isTidy_143 (by decide) ?_
    refine lv_icmp_ne (tgt := 149) hx hb dX3_isTidy_144 (by decide) (fun c_2 => ?_) (fun c_2 => ?_)
    · skip
      have c_2 : ¬ (sm = 3) := fun hq9 => c_2 ((nI_eq (a := sm) (b := 3) (by omega) (by omega)).mpr hq9)
      refine lv_iconst (v := nI (0)) hx hb dX3_isTidy_149 (by decide) ?_
      refine lv_istore (lv' := [(4, .int (nI (0))), (0, .ref (b 0)), (1, .int (nI (t))), (2, .int (nI (u))), (3, .int (nI (sm)))]) hx hb dX3_isTidy_150 hl (by decide) rfl (fun ls hl => ?_)
      refine lp (σ := Nat) (LV := fun n2 => [(0, .ref (b 0)), (1, .int (nI (t))), (2, .int (nI (u))), (3, .int (nI (sm))), (4, .int (nI (n2)))]) (I := fun k3 n2 => n2 + k3 = 3 ∧ alf (fun i => alf (fun j => !odd w.1 (gc w.1 t i) (gc w.1 t (i + 1)) (gc w.1 u j) (gc w.1 u (j + 1))) 3 0) 3 0 = alf (fun i => alf (fun j => !odd w.1 (gc w.1 t i) (gc w.1 t (i + 1)) (gc w.1 u j) (gc w.1 u (j + 1))) 3 0) k3 n2) (fun k3 n2 ls hI_k3 hl ih_k3 => ?_) (3) (0) ls ⟨by omega, rfl⟩ (lv_sub hl [1, 2, 3, 4, 0] rfl)
      obtain ⟨hk3, hi3⟩ := hI_k3
      refine lv_iload hx hb dX3_isTidy_152 (lv_at hl 4 rfl) ?_
      refine lv_iconst (v := nI (3)) hx hb dX3_isTidy_154 (by decide) ?_
      refine lv_icmp_ge (tgt := 220) hx hb dX3_isTidy_155 (by decide) (fun c_3 => ?_) (fun c_3 => ?_)
      · skip
        have c_3 : 3 ≤ n2 := (nI_leI (a := 3) (b := n2) (by omega) (by omega)).mp c_3
        refine lv_iconst (v := nI (1)) hx hb dX3_isTidy_220 (by decide) ?_
        exact ro_zret hx hb hr (by decide) (rb_1 (by have ek : k = 0 := (by omega); rw [ek] at hi hc; rw [cnt_0] at hc; rw [mti, hi3, show k3 = 0 by omega, hi, hc]; simp [alf, cnt]; omega)) dX3_isTidy_221 hlocks
      · skip
        have c_3 : ¬ (3 ≤ n2) := fun hq9 => c_3 ((nI_leI (a := 3) (b := n2) (by omega) (by omega)).mpr hq9)
        refine lv_iconst (v := nI (0)) hx hb dX3_isTidy_158 (by decide) ?_
        refine lv_istore (lv' := [(5, .int (nI (0))), (0, .ref (b 0)), (1, .int (nI (t))), (2, .int (nI (u))), (3, .int (nI (sm))), (4, .int (nI (n2)))]) hx hb dX3_isTidy_159 hl (by decide) rfl (fun ls hl => ?_)
        refine lp (σ := Nat) (LV := fun m2 => [(0, .ref (b 0)), (1, .int (nI (t))), (2, .int (nI (u))), (3, .int (nI (sm))), (4, .int (nI (n2))), (5, .int (nI (m2)))]) (I := fun k4 m2 => m2 + k4 = 3 ∧ alf (fun j => !odd w.1 (gc w.1 t n2) (gc w.1 t (n2 + 1)) (gc w.1 u j) (gc w.1 u (j + 1))) 3 0 = alf (fun j => !odd w.1 (gc w.1 t n2) (gc w.1 t (n2 + 1)) (gc w.1 u j) (gc w.1 u (j + 1))) k4 m2) (fun k4 m2 ls hI_k4 hl ih_k4 => ?_) (3) (0) ls ⟨by omega, rfl⟩ (lv_sub hl [1, 2, 3, 4, 5, 0] rfl)
        obtain ⟨hk4, hi4⟩ := hI_k4
        refine lv_iload hx hb dX3_isTidy_161 (lv_at hl 5 rfl) ?_
        refine lv_iconst (v := nI (3)) hx hb dX3_isTidy_163 (by decide) ?_
        refine lv_icmp_ge (tgt := 214) hx hb dX3_isTidy_164 (by decide) (fun c_4 => ?_) (fun c_4 => ?_)
        · skip
          have c_4 : 3 ≤ m2 := (nI_leI (a := 3) (b := m2) (by omega) (by omega)).mp c_4
          refine lv_iinc (v := nI (n2 + 1)) (lv' := [(4, .int (nI (n2 + 1))), (0, .ref (b 0)), (1, .int (nI (t))), (2, .int (nI (u))), (3, .int (nI (sm))), (5, .int (nI (m2)))]) hx hb dX3_isTidy_214 hl (k := 4) rfl (nI_1 (n2)) (by decide) rfl (fun ls hl => ?_)
          refine lv_goto (tgt := 152) hx hb dX3_isTidy_217 (by decide) ?_
          exact ih_k3 (k3 - 1) (n2 + 1) ls (by omega) ⟨by omega, hi3.trans (alf_t (by omega) (by rw [hi4, show k4 = 0 by omega]; rfl))⟩ (lv_sub hl [1, 2, 3, 4, 0] rfl)
        · skip
          have c_4 : ¬ (3 ≤ m2) := fun hq9 => c_4 ((nI_leI (a := 3) (b := m2) (by omega) (by omega)).mpr hq9)
          refine lv_aload_n hx hb dX3_isTidy_167 rfl (lv_at hl 0 rfl) ?_
          refine lv_aload_n hx hb dX3_isTidy_168 rfl (lv_at hl 0 rfl) ?_
          refine lv_iload_n hx hb dX3_isTidy_169 rfl (lv_at hl 1 rfl) ?_
          refine lv_iload hx hb dX3_isTidy_170 (lv_at hl 4 rfl) ?_
          refine ro_V (As := [.int (nI (t)), .int (nI (n2))]) (rest := [.ref (b 0)]) (q0 := 0) (ci := 3) hx hb hml hown hts (c_X3_at l dC dI cI cL cZ b w t n2 (by omega) (by omega)) (cwV 2 hts gX3_isTidy_X3_at rfl rfl rfl (by decide +kernel) ⟨Nat.le_of_ble_eq_true rfl, Nat.le_of_ble_eq_true rfl⟩) hK hP rfl rfl rfl hl.1 rfl (Nat.le_of_ble_eq_true rfl) dX3_isTidy_172 ⟨Nat.zero_le _, Nat.zero_le _⟩ ?_
          refine lv_aload_n hx hb dX3_isTidy_175 rfl (lv_at hl 0 rfl) ?_
          refine lv_iload_n hx hb dX3_isTidy_176 rfl (lv_at hl 1 rfl) ?_
          refine lv_iload hx hb dX3_isTidy_177 (lv_at hl 4 rfl) ?_
          refine lv_iconst (v := nI (1)) hx hb dX3_isTidy_179 (by decide) ?_
          refine lv_iadd hx hb dX3_isTidy_180 ?_
          refine rt_i (y := (nI (n2 + 1))) (nn_add (n2) (1)) ?_
          refine ro_V (As := [.int (nI (t)), .int (nI (n2 + 1))]) (rest := [.int (nI (gc w.1 t n2)), .ref (b 0)]) (q0 := 0) (ci := 3) hx hb hml hown hts (c_X3_at l dC dI cI cL cZ b w t (n2 + 1) (by omega) (by omega)) (cwV 2 hts gX3_isTidy_X3_at rfl rfl rfl (by decide +kernel) ⟨Nat.le_of_ble_eq_true rfl, Nat.le_of_ble_eq_true rfl⟩) hK hP rfl rfl rfl hl.1 rfl (Nat.le_of_ble_eq_true rfl) dX3_isTidy_181 ⟨Nat.zero_le _, Nat.zero_le _⟩ ?_
          refine lv_aload_n hx hb dX3_isTidy_184 rfl (lv_at hl 0 rfl) ?_
          refine lv_iload_n hx hb dX3_isTidy_185 rfl (lv_at hl 2 rfl) ?_
          refine lv_iload hx hb dX3_isTidy_186 (lv_at hl 5 rfl) ?_
          refine ro_V (As := [.int (nI (u)), .int (nI (m2))]) (rest := [.int (nI (gc w.1 t (n2 + 1))), .int (nI (gc w.1 t n2)), .ref (b 0)]) (q0 := 0) (ci := 3) hx hb hml hown hts (c_X3_at l dC dI cI cL cZ b w u m2 (by omega) (by omega)) (cwV 2 hts gX3_isTidy_X3_at rfl rfl rfl (by decide +kernel) ⟨Nat.le_of_ble_eq_true rfl, Nat.le_of_ble_eq_true rfl⟩) hK hP rfl rfl rfl hl.1 rfl (Nat.le_of_ble_eq_true rfl) dX3_isTidy_188 ⟨Nat.zero_le _, Nat.zero_le _⟩ ?_
          refine lv_aload_n hx hb dX3_isTidy_191 rfl (lv_at hl 0 rfl) ?_
          refine lv_iload_n hx hb dX3_isTidy_192 rfl (lv_at hl 2 rfl) ?_
          refine lv_iload hx hb dX3_isTidy_193 (lv_at hl 5 rfl) ?_
          refine lv_iconst (v := nI (1)) hx hb dX3_isTidy_195 (by decide) ?_
          refine lv_iadd hx hb dX3_isTidy_196 ?_
          refine rt_i (y := (nI (m2 + 1))) (nn_add (m2) (1)) ?_
          refine ro_V (As := [.int (nI (u)), .int (nI (m2 + 1))]) (rest := [.int (nI (gc w.1 u m2)), .int (nI (gc w.1 t (n2 + 1))), .int (nI (gc w.1 t n2)), .ref (b 0)]) (q0 := 0) (ci := 3) hx hb hml hown hts (c_X3_at l dC dI cI cL cZ b w u (m2 + 1) (by omega) (by omega)) (cwV 2 hts gX3_isTidy_X3_at rfl rfl rfl (by decide +kernel) ⟨Nat.le_of_ble_eq_true rfl, Nat.le_of_ble_eq_true rfl⟩) hK hP rfl rfl rfl hl.1 rfl (Nat.le_of_ble_eq_true rfl) dX3_isTidy_197 ⟨Nat.zero_le _, Nat.zero_le _⟩ ?_
          refine ro_V (As := [.int (nI (gc w.1 t n2)), .int (nI (gc w.1 t (n2 + 1))), .int (nI (gc w.1 u m2)), .int (nI (gc w.1 u (m2 + 1)))]) (rest := []) (q0 := 0) (ci := 3) hx hb hml hown hts (c_X3_isOdd l dC dI cI cL cZ b w (gc w.1 t n2) (gc w.1 t (n2 + 1)) (gc w.1 u m2) (gc w.1 u (m2 + 1)) hv (gc_lt hv.1) (gc_lt hv.1) (gc_lt hv.1) (gc_lt hv.1)) (cwV 4 hts gX3_isTidy_X3_isOdd rfl rfl rfl (by decide +kernel) ⟨Nat.le_of_ble_eq_true rfl, Nat.le_of_ble_eq_true rfl⟩) hK hP rfl rfl rfl hl.1 rfl (Nat.le_of_ble_eq_true rfl) dX3_isTidy_200 ⟨Nat.zero_le _, Nat.zero_le _⟩ ?_
          refine lv_if_eq (tgt := 208) hx hb dX3_isTidy_203 (by decide) (fun c_5 => ?_) (fun c_5 => ?_)
          · skip
            have c_5 : (odd w.1 (gc w.1 t n2) (gc w.1 t (n2 + 1)) (gc w.1 u m2) (gc w.1 u (m2 + 1))) = false := bI_f c_5
            refine lv_iinc (v := nI (m2 + 1)) (lv' := [(5, .int (nI (m2 + 1))), (0, .ref (b 0)), (1, .int (nI (t))), (2, .int (nI (u))), (3, .int (nI (sm))), (4, .int (nI (n2)))]) hx hb dX3_isTidy_208 hl (k := 5) rfl (nI_1 (m2)) (by decide) rfl (fun ls hl => ?_)
            refine lv_goto (tgt := 161) hx hb dX3_isTidy_211 (by decide) ?_
            exact ih_k4 (k4 - 1) (m2 + 1) ls (by omega) ⟨by omega, hi4.trans (alf_t (by omega) (by simp [c_1, c_2, c_3, c_4, c_5]))⟩ (lv_sub hl [1, 2, 3, 4, 5, 0] rfl)
          · skip
            have c_5 : (odd w.1 (gc w.1 t n2) (gc w.1 t (n2 + 1)) (gc w.1 u m2) (gc w.1 u (m2 + 1))) = true := bI_t c_5
            refine lv_iconst (v := nI (0)) hx hb dX3_isTidy_206 (by decide) ?_
            exact ro_zret hx hb hr (by decide) (rb_0 (by have e7 : alf (fun i => alf (fun j => !odd w.1 (gc w.1 t i) (gc w.1 t (i + 1)) (gc w.1 u j) (gc w.1 u (j + 1))) 3 0) 3 0 = false := hi3.trans (alf_f (by omega) (by show alf (fun j => !odd w.1 (gc w.1 t n2) (gc w.1 t (n2 + 1)) (gc w.1 u j) (gc w.1 u (j + 1))) 3 0 = false; rw [hi4, alf_f (by omega) (by simp [c_1, c_2, c_3, c_4, c_5])])); rw [mti, e7]; simp)) dX3_isTidy_207 hlocks
    · skip
      have c_2 : sm = 3 := (nI_eq (a := sm) (b := 3) (by omega) (by omega)).mp c_2
      refine lv_iconst (v := nI (0)) hx hb dX3_isTidy_147 (by decide) ?_
      exact ro_zret hx hb hr (by decide) (rb_0 (by rw [mti, hc, show k = 0 by omega]; simp [cnt, c_1, c_2])) dX3_isTidy_148 hlocks
  · skip
    have c_1 : ¬ (3 ≤ n) := fun hq9 => c_1 ((nI_leI (a := 3) (b := n) (by omega) (by omega)).mpr hq9)
    refine lv_iload_n hx hb dX3_isTidy_11 rfl (lv_at hl 3 rfl) ?_
    refine lv_aload_n hx hb dX3_isTidy_12 rfl (lv_at hl 0 rfl) ?_
    refine lv_iload_n hx hb dX3_isTidy_13 rfl (lv_at hl 2 rfl) ?_
    refine lv_aload_n hx hb dX3_isTidy_14 rfl (lv_at hl 0 rfl) ?_
    refine lv_iload_n hx hb dX3_isTidy_15 rfl (lv_at hl 1 rfl) ?_
    refine lv_iload hx hb dX3_isTidy_16 (lv_at hl 4 rfl) ?_
    refine ro_V (As := [.int (nI (t)), .int (nI (n))]) (rest := [.int (nI (u)), .ref (b 0), .int (nI (sm))]) (q0 := 0) (ci := 3) hx hb hml hown hts (c_X3_at l dC dI cI cL cZ b w t n (by omega) (by omega)) (cwV 2 hts gX3_isTidy_X3_at rfl rfl rfl (by decide +kernel) ⟨Nat.le_of_ble_eq_true rfl, Nat.le_of_ble_eq_true rfl⟩) hK hP rfl rfl rfl hl.1 rfl (Nat.le_of_ble_eq_true rfl) dX3_isTidy_18 ⟨Nat.zero_le _, Nat.zero_le _⟩ ?_
    refine ro_V (As := [.int (nI (u)), .int (nI (gc w.1 t n))]) (rest := [.int (nI (sm))]) (q0 := 0) (ci := 3) hx hb hml hown hts (c_X3_isCorner l dC dI cI cL cZ b w u (gc w.1 t n) hv (by omega) (gc_lt hv.1)) (cwV 2 hts gX3_isTidy_X3_isCorner rfl rfl rfl (by decide +kernel) ⟨Nat.le_of_ble_eq_true rfl, Nat.le_of_ble_eq_true rfl⟩) hK hP rfl rfl rfl hl.1 rfl (Nat.le_of_ble_eq_true rfl) dX3_isTidy_21 ⟨Nat.zero_le _, Nat.zero_le _⟩ ?_
    have hj_6 : W pr l en ({ frames := 4, cells := 0, slots := 0, locals := 106 }) s m [.ref (b 0), .int (nI (t)), .int (nI (u))].toArray below meth co s.heap [] 0 0 (MQ below (k2_QcV (.int (bI (mti w.1 t u)))) [.ref (b 0), .int (nI (t)), .int (nI (u))].toArray s 0 0 (fun _ => False)) (F0 m 32 ls [.int (nI ((hcr w.1 u (gc w.1 t n)).toNat)), .int (nI (sm))]) := by
      refine lv_iadd hx hb dX3_isTidy_32 ?_
      refine rt_i (y := (nI (sm + (hcr w.1 u (gc w.1 t n)).toNat))) (nn_add (sm) ((hcr w.1 u (gc w.1 t n)).toNat)) ?_
      refine lv_istore_n (lv' := [(3, .int (nI (sm + (hcr w.1 u (gc w.1 t n)).toNat))), (0, .ref (b 0)), (1, .int (nI (t))), (2, .int (nI (u))), (4, .int (nI (n)))]) hx hb dX3_isTidy_33 rfl hl (by decide) rfl (fun ls hl => ?_)
      have hj_7 : ((!hcr w.1 u (gc w.1 t n) && has w.1 u (gx w.1 (gc w.1 t n)) (gy w.1 (gc w.1 t n))) = false) → W pr l en ({ frames := 4, cells := 0, slots := 0, locals := 106 }) s m [.ref (b 0), .int (nI (t)), .int (nI (u))].toArray below meth co s.heap [] 0 0 (MQ below (k2_QcV (.int (bI (mti w.1 t u)))) [.ref (b 0), .int (nI (t)), .int (nI (u))].toArray s 0 0 (fun _ => False)) (F0 m 85 ls []) := by
        intro hf1
        have hj_8 : ((!hcr w.1 t (gc w.1 u n) && has w.1 t (gx w.1 (gc w.1 u n)) (gy w.1 (gc w.1 u n))) = false) → W pr l en ({ frames := 4, cells := 0, slots := 0, locals := 106 }) s m [.ref (b 0), .int (nI (t)), .int (nI (u))].toArray below meth co s.heap [] 0 0 (MQ below (k2_QcV (.int (bI (mti w.1 t u)))) [.ref (b 0), .int (nI (t)), .int (nI (u))].toArray s 0 0 (fun _ => False)) (F0 m 136 ls []) := by
          intro hf2
          refine lv_iinc (v := nI (n + 1)) (lv' := [(4, .int (nI (n + 1))), (3, .int (nI (sm + (hcr w.1 u (gc w.1 t n)).toNat))), (0, .ref (b 0)), (1, .int (nI (t))), (2, .int (nI (u)))]) hx hb dX3_isTidy_136 hl (k := 4) rfl (nI_1 (n)) (by decide) rfl (fun ls hl => ?_)
          refine lv_goto (tgt := 5) hx hb dX3_isTidy_139 (by decide) ?_
          exact ih_k (k - 1) (n + 1, sm + (hcr w.1 u (gc w.1 t n)).toNat) ls (by omega) ⟨by omega, by cases hcr w.1 u (gc w.1 t n) <;> simp [Bool.toNat] <;> omega, by rw [hc, cnt_s (by omega)]; omega, hi.trans (alf_t (by omega) (by simp only [hf1, hf2]; rfl))⟩ (lv_sub hl [2, 3, 4, 1, 0] rfl)
        refine lv_aload_n hx hb dX3_isTidy_85 rfl (lv_at hl 1 rfl) ?_
        refine lv_iload_n hx hb dX3_isTidy_86 rfl (lv_at hl 2 rfl) ?_
        refine lv_aload_n hx hb dX3_isTidy_87 rfl (lv_at hl 1 rfl) ?_
        refine lv_iload_n hx hb dX3_isTidy_88 rfl (lv_at hl 3 rfl) ?_
        refine lv_iload hx hb dX3_isTidy_89 (lv_at hl 4 rfl) ?_
        refine ro_V (As := [.int (nI (u)), .int (nI (n))]) (rest := [.int (nI (t)), .ref (b 0)]) (q0 := 0) (ci := 3) hx hb hml hown hts (c_X3_at l dC dI cI cL cZ b w u n (by omega) (by omega)) (cwV 2 hts gX3_isTidy_X3_at rfl rfl rfl (by decide +kernel) ⟨Nat.le_of_ble_eq_true rfl, Nat.le_of_ble_eq_true rfl⟩) hK hP rfl rfl rfl hl.1 rfl (Nat.le_of_ble_eq_true rfl) dX3_isTidy_91 ⟨Nat.zero_le _, Nat.zero_le _⟩ ?_
        refine ro_V (As := [.int (nI (t)), .int (nI (gc w.1 u n))]) (rest := []) (q0 := 0) (ci := 3) hx hb hml hown hts (c_X3_isCorner l dC dI cI cL cZ b w t (gc w.1 u n) hv (by omega) (gc_lt hv.1)) (cwV 2 hts gX3_isTidy_X3_isCorner rfl rfl rfl (by decide +kernel) ⟨Nat.le_of_ble_eq_true rfl, Nat.le_of_ble_eq_true rfl⟩) hK hP rfl rfl rfl hl.1 rfl (Nat.le_of_ble_eq_true rfl) dX3_isTidy_94 ⟨Nat.zero_le _, Nat.zero_le _⟩ ?_
        refine lv_if_ne (tgt := 136) hx hb dX3_isTidy_97 (by decide) (fun c_9 => ?_) (fun c_9 => ?_)
        · skip
          have c_9 : (hcr w.1 t (gc w.1 u n)) = true := bI_t c_9
          exact hj_8 (by first | (simp [c_1, hf1, c_9]; done) | (simp [c_1, hf1, c_9]; omega))
        · skip
          have c_9 : (hcr w.1 t (gc w.1 u n)) = false := bI_f c_9
          refine lv_aload_n hx hb dX3_isTidy_100 rfl (lv_at hl 1 rfl) ?_
          refine lv_iload_n hx hb dX3_isTidy_101 rfl (lv_at hl 2 rfl) ?_
          refine lv_aload_n hx hb dX3_isTidy_102 rfl (lv_at hl 1 rfl) ?_
          refine va_get (D := (dC, dI)) (ci := 3) (v := .ref (b 1)) (C := RX3) (T := TX3) (N := 11) hx hb hts (by decide +kernel) hown hK hP 0 rfl rfl 4 (by decide) (hts (.fieldLink RX3 7 "TriangleSheetModel" "px" "[I") (by decide +kernel)) (fun _ h9 => h9) rfl dX3_isTidy_103 ?_
          refine lv_aload_n hx hb dX3_isTidy_106 rfl (lv_at hl 1 rfl) ?_
          refine lv_iload_n hx hb dX3_isTidy_107 rfl (lv_at hl 3 rfl) ?_
          refine lv_iload hx hb dX3_isTidy_108 (lv_at hl 4 rfl) ?_
          refine ro_V (As := [.int (nI (u)), .int (nI (n))]) (rest := [.ref (b 1), .int (nI (t)), .ref (b 0)]) (q0 := 0) (ci := 3) hx hb hml hown hts (c_X3_at l dC dI cI cL cZ b w u n (by omega) (by omega)) (cwV 2 hts gX3_isTidy_X3_at rfl rfl rfl (by decide +kernel) ⟨Nat.le_of_ble_eq_true rfl, Nat.le_of_ble_eq_true rfl⟩) hK hP rfl rfl rfl hl.1 rfl (Nat.le_of_ble_eq_true rfl) dX3_isTidy_110 ⟨Nat.zero_le _, Nat.zero_le _⟩ ?_
          refine ia_ld (k := gc w.1 u n) hx hb hK hP 1 0 rfl rfl (by omega) (by decide) dX3_isTidy_113 ?_
          refine W.eq (g2 := F0 m 114 ls [.int (nI (w.1.1 (gc w.1 u n))), .int (nI (t)), .ref (b 0)]) rfl ?_
          have bd_10 := hv.1.1 (gc w.1 u n)
          refine lv_i2l (v := lI (((w.1.1 (gc w.1 u n) : Nat) : Int))) hx hb dX3_isTidy_114 (nzI_l (by omega)) ?_
          refine lv_aload_n hx hb dX3_isTidy_115 rfl (lv_at hl 1 rfl) ?_
          refine va_get (D := (dC, dI)) (ci := 3) (v := .ref (b 2)) (C := RX3) (T := TX3) (N := 11) hx hb hts (by decide +kernel) hown hK hP 0 rfl rfl 5 (by decide) (hts (.fieldLink RX3 13 "TriangleSheetModel" "py" "[I") (by decide +kernel)) (fun _ h9 => h9) rfl dX3_isTidy_116 ?_
          refine lv_aload_n hx hb dX3_isTidy_119 rfl (lv_at hl 1 rfl) ?_
          refine lv_iload_n hx hb dX3_isTidy_120 rfl (lv_at hl 3 rfl) ?_
          refine lv_iload hx hb dX3_isTidy_121 (lv_at hl 4 rfl) ?_
          refine ro_V (As := [.int (nI (u)), .int (nI (n))]) (rest := [.ref (b 2), .long (lI (((w.1.1 (gc w.1 u n) : Nat) : Int))), .int (nI (t)), .ref (b 0)]) (q0 := 0) (ci := 3) hx hb hml hown hts (c_X3_at l dC dI cI cL cZ b w u n (by omega) (by omega)) (cwV 2 hts gX3_isTidy_X3_at rfl rfl rfl (by decide +kernel) ⟨Nat.le_of_ble_eq_true rfl, Nat.le_of_ble_eq_true rfl⟩) hK hP rfl rfl rfl hl.1 rfl (Nat.le_of_ble_eq_true rfl) dX3_isTidy_123 ⟨Nat.zero_le _, Nat.zero_le _⟩ ?_
          refine ia_ld (k := gc w.1 u n) hx hb hK hP 2 0 rfl rfl (by omega) (by decide) dX3_isTidy_126 ?_
          refine W.eq (g2 := F0 m 127 ls [.int (nI (w.1.2.1 (gc w.1 u n))), .long (lI (((w.1.1 (gc w.1 u n) : Nat) : Int))), .int (nI (t)), .ref (b 0)]) rfl ?_
          have bd_11 := hv.1.2.1 (gc w.1 u n)
          refine lv_i2l (v := lI (((w.1.2.1 (gc w.1 u n) : Nat) : Int))) hx hb dX3_isTidy_127 (nzI_l (by omega)) ?_
          refine ro_V (As := [.int (nI (t)), .long (lI (((w.1.1 (gc w.1 u n) : Nat) : Int))), .long (lI (((w.1.2.1 (gc w.1 u n) : Nat) : Int)))]) (rest := []) (q0 := 0) (ci := 3) hx hb hml hown hts (c_X3_hasPlace l dC dI cI cL cZ b w t (((w.1.1 (gc w.1 u n) : Nat) : Int)) (((w.1.2.1 (gc w.1 u n) : Nat) : Int)) hv (by omega) (zOkN (by omega)) (zOkN (by omega))) (cwV 3 hts gX3_isTidy_X3_hasPlace rfl rfl rfl (by decide +kernel) ⟨Nat.le_of_ble_eq_true rfl, Nat.le_of_ble_eq_true rfl⟩) hK hP rfl rfl rfl hl.1 rfl (Nat.le_of_ble_eq_true rfl) dX3_isTidy_128 ⟨Nat.zero_le _, Nat.zero_le _⟩ ?_
          refine rt_i (y := (bI (has w.1 t (gx w.1 (gc w.1 u n)) (gy w.1 (gc w.1 u n))))) rfl ?_
          refine lv_if_eq (tgt := 136) hx hb dX3_isTidy_131 (by decide) (fun c_12 => ?_) (fun c_12 => ?_)
          · skip
            have c_12 : (has w.1 t (gx w.1 (gc w.1 u n)) (gy w.1 (gc w.1 u n))) = false := bI_f c_12
            exact hj_8 (by first | (simp [c_1, hf1, c_9, c_12]; done) | (simp [c_1, hf1, c_9, c_12]; omega))
          · skip
            have c_12 : (has w.1 t (gx w.1 (gc w.1 u n)) (gy w.1 (gc w.1 u n))) = true := bI_t c_12
            refine lv_iconst (v := nI (0)) hx hb dX3_isTidy_134 (by decide) ?_
            exact ro_zret hx hb hr (by decide) (rb_0 (by rw [mti, hi, alf_f (by omega) (by simp [c_1, hf1, c_9, c_12])]; rfl)) dX3_isTidy_135 hlocks
      refine lv_aload_n hx hb dX3_isTidy_34 rfl (lv_at hl 1 rfl) ?_
      refine lv_iload_n hx hb dX3_isTidy_35 rfl (lv_at hl 3 rfl) ?_
      refine lv_aload_n hx hb dX3_isTidy_36 rfl (lv_at hl 1 rfl) ?_
      refine lv_iload_n hx hb dX3_isTidy_37 rfl (lv_at hl 2 rfl) ?_
      refine lv_iload hx hb dX3_isTidy_38 (lv_at hl 4 rfl) ?_
      refine ro_V (As := [.int (nI (t)), .int (nI (n))]) (rest := [.int (nI (u)), .ref (b 0)]) (q0 := 0) (ci := 3) hx hb hml hown hts (c_X3_at l dC dI cI cL cZ b w t n (by omega) (by omega)) (cwV 2 hts gX3_isTidy_X3_at rfl rfl rfl (by decide +kernel) ⟨Nat.le_of_ble_eq_true rfl, Nat.le_of_ble_eq_true rfl⟩) hK hP rfl rfl rfl hl.1 rfl (Nat.le_of_ble_eq_true rfl) dX3_isTidy_40 ⟨Nat.zero_le _, Nat.zero_le _⟩ ?_
      refine ro_V (As := [.int (nI (u)), .int (nI (gc w.1 t n))]) (rest := []) (q0 := 0) (ci := 3) hx hb hml hown hts (c_X3_isCorner l dC dI cI cL cZ b w u (gc w.1 t n) hv (by omega) (gc_lt hv.1)) (cwV 2 hts gX3_isTidy_X3_isCorner rfl rfl rfl (by decide +kernel) ⟨Nat.le_of_ble_eq_true rfl, Nat.le_of_ble_eq_true rfl⟩) hK hP rfl rfl rfl hl.1 rfl (Nat.le_of_ble_eq_true rfl) dX3_isTidy_43 ⟨Nat.zero_le _, Nat.zero_le _⟩ ?_
      refine lv_if_ne (tgt := 85) hx hb dX3_isTidy_46 (by decide) (fun c_13 => ?_) (fun c_13 => ?_)
      · skip
        have c_13 : (hcr w.1 u (gc w.1 t n)) = true := bI_t c_13
        exact hj_7 (by first | (simp [c_1, c_13]; done) | (simp [c_1, c_13]; omega))
      · skip
        have c_13 : (hcr w.1 u (gc w.1 t n)) = false := bI_f c_13
        refine lv_aload_n hx hb dX3_isTidy_49 rfl (lv_at hl 1 rfl) ?_
        refine lv_iload_n hx hb dX3_isTidy_50 rfl (lv_at hl 3 rfl) ?_
        refine lv_aload_n hx hb dX3_isTidy_51 rfl (lv_at hl 1 rfl) ?_
        refine va_get (D := (dC, dI)) (ci := 3) (v := .ref (b 1)) (C := RX3) (T := TX3) (N := 11) hx hb hts (by decide +kernel) hown hK hP 0 rfl rfl 4 (by decide) (hts (.fieldLink RX3 7 "TriangleSheetModel" "px" "[I") (by decide +kernel)) (fun _ h9 => h9) rfl dX3_isTidy_52 ?_
        refine lv_aload_n hx hb dX3_isTidy_55 rfl (lv_at hl 1 rfl) ?_
        refine lv_iload_n hx hb dX3_isTidy_56 rfl (lv_at hl 2 rfl) ?_
        refine lv_iload hx hb dX3_isTidy_57 (lv_at hl 4 rfl) ?_
        refine ro_V (As := [.int (nI (t)), .int (nI (n))]) (rest := [.ref (b 1), .int (nI (u)), .ref (b 0)]) (q0 := 0) (ci := 3) hx hb hml hown hts (c_X3_at l dC dI cI cL cZ b w t n (by omega) (by omega)) (cwV 2 hts gX3_isTidy_X3_at rfl rfl rfl (by decide +kernel) ⟨Nat.le_of_ble_eq_true rfl, Nat.le_of_ble_eq_true rfl⟩) hK hP rfl rfl rfl hl.1 rfl (Nat.le_of_ble_eq_true rfl) dX3_isTidy_59 ⟨Nat.zero_le _, Nat.zero_le _⟩ ?_
        refine ia_ld (k := gc w.1 t n) hx hb hK hP 1 0 rfl rfl (by omega) (by decide) dX3_isTidy_62 ?_
        refine W.eq (g2 := F0 m 63 ls [.int (nI (w.1.1 (gc w.1 t n))), .int (nI (u)), .ref (b 0)]) rfl ?_
        have bd_14 := hv.1.1 (gc w.1 t n)
        refine lv_i2l (v := lI (((w.1.1 (gc w.1 t n) : Nat) : Int))) hx hb dX3_isTidy_63 (nzI_l (by omega)) ?_
        refine lv_aload_n hx hb dX3_isTidy_64 rfl (lv_at hl 1 rfl) ?_
        refine va_get (D := (dC, dI)) (ci := 3) (v := .ref (b 2)) (C := RX3) (T := TX3) (N := 11) hx hb hts (by decide +kernel) hown hK hP 0 rfl rfl 5 (by decide) (hts (.fieldLink RX3 13 "TriangleSheetModel" "py" "[I") (by decide +kernel)) (fun _ h9 => h9) rfl dX3_isTidy_65 ?_
        refine lv_aload_n hx hb dX3_isTidy_68 rfl (lv_at hl 1 rfl) ?_
        refine lv_iload_n hx hb dX3_isTidy_69 rfl (lv_at hl 2 rfl) ?_
        refine lv_iload hx hb dX3_isTidy_70 (lv_at hl 4 rfl) ?_
        refine ro_V (As := [.int (nI (t)), .int (nI (n))]) (rest := [.ref (b 2), .long (lI (((w.1.1 (gc w.1 t n) : Nat) : Int))), .int (nI (u)), .ref (b 0)]) (q0 := 0) (ci := 3) hx hb hml hown hts (c_X3_at l dC dI cI cL cZ b w t n (by omega) (by omega)) (cwV 2 hts gX3_isTidy_X3_at rfl rfl rfl (by decide +kernel) ⟨Nat.le_of_ble_eq_true rfl, Nat.le_of_ble_eq_true rfl⟩) hK hP rfl rfl rfl hl.1 rfl (Nat.le_of_ble_eq_true rfl) dX3_isTidy_72 ⟨Nat.zero_le _, Nat.zero_le _⟩ ?_
        refine ia_ld (k := gc w.1 t n) hx hb hK hP 2 0 rfl rfl (by omega) (by decide) dX3_isTidy_75 ?_
        refine W.eq (g2 := F0 m 76 ls [.int (nI (w.1.2.1 (gc w.1 t n))), .long (lI (((w.1.1 (gc w.1 t n) : Nat) : Int))), .int (nI (u)), .ref (b 0)]) rfl ?_
        have bd_15 := hv.1.2.1 (gc w.1 t n)
        refine lv_i2l (v := lI (((w.1.2.1 (gc w.1 t n) : Nat) : Int))) hx hb dX3_isTidy_76 (nzI_l (by omega)) ?_
        refine ro_V (As := [.int (nI (u)), .long (lI (((w.1.1 (gc w.1 t n) : Nat) : Int))), .long (lI (((w.1.2.1 (gc w.1 t n) : Nat) : Int)))]) (rest := []) (q0 := 0) (ci := 3) hx hb hml hown hts (c_X3_hasPlace l dC dI cI cL cZ b w u (((w.1.1 (gc w.1 t n) : Nat) : Int)) (((w.1.2.1 (gc w.1 t n) : Nat) : Int)) hv (by omega) (zOkN (by omega)) (zOkN (by omega))) (cwV 3 hts gX3_isTidy_X3_hasPlace rfl rfl rfl (by decide +kernel) ⟨Nat.le_of_ble_eq_true rfl, Nat.le_of_ble_eq_true rfl⟩) hK hP rfl rfl rfl hl.1 rfl (Nat.le_of_ble_eq_true rfl) dX3_isTidy_77 ⟨Nat.zero_le _, Nat.zero_le _⟩ ?_
        refine rt_i (y := (bI (has w.1 u (gx w.1 (gc w.1 t n)) (gy w.1 (gc w.1 t n))))) rfl ?_
        refine lv_if_eq (tgt := 85) hx hb dX3_isTidy_80 (by decide) (fun c_16 => ?_) (fun c_16 => ?_)
        · skip
          have c_16 : (has w.1 u (gx w.1 (gc w.1 t n)) (gy w.1 (gc w.1 t n))) = false := bI_f c_16
          exact hj_7 (by first | (simp [c_1, c_13, c_16]; done) | (simp [c_1, c_13, c_16]; omega))
        · skip
          have c_16 : (has w.1 u (gx w.1 (gc w.1 t n)) (gy w.1 (gc w.1 t n))) = true := bI_t c_16
          refine lv_iconst (v := nI (0)) hx hb dX3_isTidy_83 (by decide) ?_
          exact ro_zret hx hb hr (by decide) (rb_0 (by rw [mti, hi, alf_f (by omega) (by simp [c_1, c_13, c_16])]; rfl)) dX3_isTidy_84 hlocks
    refine lv_if_eq (tgt := 31) hx hb dX3_isTidy_24 (by decide) (fun c_17 => ?_) (fun c_17 => ?_)
    · skip
      have c_17 : (hcr w.1 u (gc w.1 t n)) = false := bI_f c_17
      refine lv_iconst (v := nI (0)) hx hb dX3_isTidy_31 (by decide) ?_
      refine rt_i (y := (nI ((hcr w.1 u (gc w.1 t n)).toNat))) (congrArg nI (by simp [c_1, c_17])) ?_
      exact hj_6
    · skip
      have c_17 : (hcr w.1 u (gc w.1 t n)) = true := bI_t c_17
      refine lv_iconst (v := nI (1)) hx hb dX3_isTidy_27 (by decide) ?_
      refine lv_goto (tgt := 32) hx hb dX3_isTidy_28 (by decide) ?_
      refine rt_i (y := (nI ((hcr w.1 u (gc w.1 t n)).toNat))) (congrArg nI (by simp [c_1, c_17])) ?_
      exact hj_6
