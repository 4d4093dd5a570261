set_option maxHeartbeats 4000000 in
set_option maxRecDepth 100000 in
/-- from the entry, for every script of at most 2048 ints, the law comes to its end with true -/
theorem whole_start {p : Program} {e : Env} {s : State} {m : MethodId} {below : List Frame} {meth : Method} {c : Code} (l : Launch) (hst : l.stackTraces = false) {b L : Nat} {xs : Nat → Int32} (hL : L ≤ 2048) (C0 : lw_At p s m meth c b L xs) : W p l e room_1 s m #[Value.ref b] below meth c s.heap [] 0 0 (lw_Z below #[Value.ref b] s) (entryFrame m ([Value.ref b] : List Value).toArray 7) := by
  obtain ⟨hx, hb0, hr, hml, hown, hT, hX, hbl, hlocks, hgv⟩ := id C0
  have hts : ∀ w ∈ wsL_law, w.before #[Value.ref b] s = true := fun w h => hT w (wsL_law_in w h)
  have hb : c.code = cL_law := hb0
  have hown : s.vm.findClass RL = some m.cls := hown
  obtain ⟨dC, dI, cI, cL, cZ, hK⟩ := st_K hT
  obtain ⟨hE, hN⟩ := st_E hT hgv
  have CX : LX p l s m meth c #[Value.ref b] dC dI cI cL cZ b L xs := ⟨hx, hb, hml, hown, hts, hX, hbl, hK, hE, hN, hL, hst⟩
  have hA : ∀ q : Nat, s.heap.size ≤ q → nwA s q := fun _ h => h
  have hS : va_S (nwA s) s.heap s.heap [] := va_S.rf
  have hP : va_P (dC, dI) vwCl [] s.heap := fun k q h => by simp at h
  have hD : va_D (nwA s) [] := ⟨fun i j p q h => by simp at h, fun k q h => by simp at h⟩
  have hl := lv_entry ([.ref b]) (n := 7) (Nat.le_of_ble_eq_true rfl)
  rw [lg_entry_eq]
  generalize (lg_sl ([.ref b]) ++ List.replicate (7 - (lg_sl ([.ref b])).length) Slot.unset).toArray = ls at hl ⊢
  have hl : lv_has ls 7 [(0, .ref b)] := hl
  refine va_new (ci := 2) (fs := [.null, .null, .null, .null, .int 0, .int 0]) (C := RX2) (T := TX2) (N := 6) hx hb hts inlX2 tyX2 tyX2_ok hown (hT (.classLink RL 8 RX2) (by decide +kernel)) (hT (.instantiable RX2 6) (by decide +kernel)) (hT (.initialized RX2) (by decide +kernel)) hK hP hD hS hA rfl (fun j hj => by rcases (show j = 0 ∨ j = 1 ∨ j = 2 ∨ j = 3 ∨ j = 4 ∨ j = 5 by omega) with rfl | rfl | rfl | rfl | rfl | rfl <;> rfl) (Nat.le_of_ble_eq_true rfl) (Nat.le_of_ble_eq_true rfl) dL_law_0 (fun q0 H hP hD hS => ?_)
  have hP : va_P (dC, dI) vwCl [(q0, .inr (2, [.null, .null, .null, .null, .int 0, .int 0]))] H := hP
  have hD : va_D (nwA s) [(q0, .inr (2, [.null, .null, .null, .null, .int 0, .int 0]))] := hD
  refine W.widen (k := 1) (n := 6) (by decide) (by decide) ?_
  refine lv_dup hx hb dL_law_3 rfl ?_
  have hPc := hP
  have hDc := hD
  have hFc := va_free (wc := [(q0, .inr (2, [.null, .null, .null, .null, .int 0, .int 0]))]) hD hS hA [0] rfl
  refine va_callv (va_runI (As := []) (rest := [.ref q0]) ⟨hx, hb, hml, hown, hts⟩ (c_X2_init l dC dI cI cL cZ q0 H.size) (cwI 0 hts gL_law_X2_init rfl rfl rfl (hT (.initialized RX2) (by decide +kernel)) (hT (.methodLink RL 42 yX2_init) (by decide +kernel)) (hT (.instanceMethod yX2_init) (by decide +kernel)) rfl (by decide +kernel) ⟨Nat.le_of_ble_eq_true rfl, Nat.le_of_ble_eq_true rfl⟩) ⟨fun a U g mk q => by obtain ⟨q0, q1, qP, qK, qD⟩ := q; exact ⟨q0, q1, qP, va_K.moved (u := U) (U := U.calling g mk a) (Vm.Alike.refl U.vm) qK, qD⟩, fun U hU hW => ⟨rfl, by rw [hU], by rw [hU]; exact hPc, va_K.moved hW.alike hK, hDc.weaken (fun _ _ _ _ => trivial)⟩⟩ rfl rfl hl.1 rfl (lv_room (Nat.le_of_ble_eq_true rfl)) dL_law_4 ⟨Nat.le_of_ble_eq_true rfl, Nat.le_of_ble_eq_true rfl⟩) hS (fun q _ h => hFc q h) hFc (fun u t H1 locs ht hvm hw hB hz1 hk1 hS => ?_)
  obtain ⟨z1, z2, z3, z4, z5, z6, z7, z8, hP1, hK1, hD1⟩ := hB
  rw [ht] at hP1
  obtain ⟨a, ha0, hP1, hD1⟩ : ∃ a : Nat → Nat, a 0 = q0 ∧ va_P (dC, dI) vwCl (wS cI cL a v00) H1 ∧ va_D (va_A [(q0, .inr (2, [.null, .null, .null, .null, .int 0, .int 0]))] H.size) (wS cI cL a v00) := ⟨_, rfl, hP1, hD1⟩
  obtain ⟨hP, hD⟩ := va_join (wr := []) (w1 := wS cI cL a v00) hP hD [0] [] rfl rfl (by decide) (by decide) hk1 hFc hP1 hD1
  have hP : va_P (dC, dI) vwCl (wS cI cL a v00) H1 := hP
  have hD : va_D (nwA s) (wS cI cL a v00) := hD
  clear hP1 hD1 hK1 hFc hPc hDc hk1
  generalize H1 = H at hP hS ⊢
  refine W.widen (k := 9) (n := 1053) (by decide) (by decide) ?_
  refine lv_astore_n (lv' := [(1, .ref q0), (0, .ref b)]) hx hb dL_law_7 rfl hl (by decide) rfl (fun ls hl => ?_)
  refine va_new (ci := 3) (fs := [.int 0, .int 0, .int 0, .int 0, .null, .null, .null, .null, .int 0, .int 0, .null]) (C := RX3) (T := TX3) (N := 11) hx hb hts inlX3 tyX3 tyX3_ok hown (hT (.classLink RL 43 RX3) (by decide +kernel)) (hT (.instantiable RX3 11) (by decide +kernel)) (hT (.initialized RX3) (by decide +kernel)) hK hP hD hS hA rfl (fun j hj => by rcases (show j = 0 ∨ j = 1 ∨ j = 2 ∨ j = 3 ∨ j = 4 ∨ j = 5 ∨ j = 6 ∨ j = 7 ∨ j = 8 ∨ j = 9 ∨ j = 10 by omega) with rfl | rfl | rfl | rfl | rfl | rfl | rfl | rfl | rfl | rfl | rfl <;> rfl) (Nat.le_of_ble_eq_true rfl) (Nat.le_of_ble_eq_true rfl) dL_law_8 (fun q1 H hP hD hS => ?_)
  have hP : va_P (dC, dI) vwCl (wS cI cL a v00 ++ [(q1, .inr (3, [.int 0, .int 0, .int 0, .int 0, .null, .null, .null, .null, .int 0, .int 0, .null]))]) H := hP
  have hD : va_D (nwA s) (wS cI cL a v00 ++ [(q1, .inr (3, [.int 0, .int 0, .int 0, .int 0, .null, .null, .null, .null, .int 0, .int 0, .null]))]) := hD
  refine W.widen (k := 10) (n := 1064) (by decide) (by decide) ?_
  refine lv_dup hx hb dL_law_11 rfl ?_
  have hPc := hP.sub (ws' := [(q1, .inr (3, [.int 0, .int 0, .int 0, .int 0, .null, .null, .null, .null, .int 0, .int 0, .null]))]) [9] rfl
  have hDc := hD.sub (ws' := [(q1, .inr (3, [.int 0, .int 0, .int 0, .int 0, .null, .null, .null, .null, .int 0, .int 0, .null]))]) [9] (by decide) rfl
  have hFc := va_free (wc := [(q1, .inr (3, [.int 0, .int 0, .int 0, .int 0, .null, .null, .null, .null, .int 0, .int 0, .null]))]) hD hS hA [9] rfl
  refine va_callv (va_runI (As := []) (rest := [.ref q1]) ⟨hx, hb, hml, hown, hts⟩ (c_X3_init l dC dI cI cL cZ q1 H.size) (cwI 0 hts gL_law_X3_init rfl rfl rfl (hT (.initialized RX3) (by decide +kernel)) (hT (.methodLink RL 45 yX3_init) (by decide +kernel)) (hT (.instanceMethod yX3_init) (by decide +kernel)) rfl (by decide +kernel) ⟨Nat.le_of_ble_eq_true rfl, Nat.le_of_ble_eq_true rfl⟩) ⟨fun a U g mk q => by obtain ⟨q0, q1, qP, qK, qD⟩ := q; exact ⟨q0, q1, qP, va_K.moved (u := U) (U := U.calling g mk a) (Vm.Alike.refl U.vm) qK, qD⟩, fun U hU hW => ⟨rfl, by rw [hU], by rw [hU]; exact hPc, va_K.moved hW.alike hK, hDc.weaken (fun _ _ _ _ => trivial)⟩⟩ rfl rfl hl.1 rfl (lv_room (Nat.le_of_ble_eq_true rfl)) dL_law_12 ⟨Nat.le_of_ble_eq_true rfl, Nat.le_of_ble_eq_true rfl⟩) hS (fun q _ h => hFc q h) hFc (fun u t H1 locs ht hvm hw hB hz1 hk1 hS => ?_)
  obtain ⟨z1, z2, z3, z4, z5, hP1, hK1, hD1⟩ := hB
  rw [ht] at hP1
  obtain ⟨bb, hb9, hP1, hD1⟩ : ∃ bb : Nat → Nat, bb 0 = q1 ∧ va_P (dC, dI) vwCl (wM cI cZ bb w00) H1 ∧ va_D (va_A [(q1, .inr (3, [.int 0, .int 0, .int 0, .int 0, .null, .null, .null, .null, .int 0, .int 0, .null]))] H.size) (wM cI cZ bb w00) := ⟨_, rfl, hP1, hD1⟩
  obtain ⟨hP, hD⟩ := va_join (wr := wS cI cL a v00) (w1 := wM cI cZ bb w00) hP hD [9] [0, 1, 2, 3, 4, 5, 6, 7, 8] rfl rfl (by decide) (by decide) hk1 hFc hP1 hD1
  have hP : va_P (dC, dI) vwCl (wS cI cL a v00 ++ wM cI cZ bb w00) H1 := hP
  have hD : va_D (nwA s) (wS cI cL a v00 ++ wM cI cZ bb w00) := hD
  clear hP1 hD1 hK1 hFc hPc hDc hk1
  generalize H1 = H at hP hS ⊢
  refine W.widen (k := 15) (n := 2184) (by decide) (by decide) ?_
  refine lv_astore_n (lv' := [(2, .ref q1), (1, .ref q0), (0, .ref b)]) hx hb dL_law_15 rfl hl (by decide) rfl (fun ls hl => ?_)
  refine lv_iconst (v := nI (1)) hx hb dL_law_16 (by decide) ?_
  refine nwa (atype := .long) (n := nI (1)) (N' := 1) (t0 := 1) (cI := cL) (a0 := (1, .inr (.inl (fun _ => 0)))) hx hb (hT (.arrayClass .long) (by decide +kernel)) (ty := .long) rfl hK hP hD hS hA rfl (fun C h => by cases h) (ha_l 1) (by decide) (by decide) (by decide) (by decide) (by decide) dL_law_17 (fun o H hP hD hS => ?_)
  refine W.widen (k := 16) (n := 2185) (by decide) (by decide) ?_
  refine lv_astore_n (lv' := [(3, .ref o), (2, .ref q1), (1, .ref q0), (0, .ref b)]) hx hb dL_law_19 rfl hl (by decide) rfl (fun ls hl => ?_)
  refine lv_iconst (v := nI (0)) hx hb dL_law_20 (by decide) ?_
  refine lv_istore (lv' := [(4, .int (nI (0))), (3, .ref o), (2, .ref q1), (1, .ref q0), (0, .ref b)]) hx hb dL_law_21 hl (by decide) rfl (fun ls hl => ?_)
  have hl : lv_has ls 7 [(4, .int (nI (0))), (3, .ref o), (2, .ref (bb 0)), (1, .ref (a 0)), (0, .ref b)] := by rw [ha0, hb9]; exact hl
  have hP : va_P (dC, dI) vwCl (TW cI cL cZ a bb o v00 w00 (fun _ => 0)) H := hP.sub [9, 10, 11, 12, 13, 14, 0, 1, 2, 3, 4, 5, 6, 7, 8, 15] rfl
  have hD : va_D (nwA s) (TW cI cL cZ a bb o v00 w00 (fun _ => 0)) := hD.sub [9, 10, 11, 12, 13, 14, 0, 1, 2, 3, 4, 5, 6, 7, 8, 15] (by decide) rfl
  refine law_loop CX (fun ls H locs q hq hS => ?_) 513 0 v00 w00 (fun _ => 0) ls H _ rfl (Nat.zero_le _) ⟨rel00, lv_sub hl [4, 3, 2, 1, 0] rfl, hP, hD, hS⟩
  refine lv_iconst (v := 1) hx hb dL_law_892 (by decide) ?_
  refine va_forget hS.2.2 ?_
  refine W.widen (k := 1054) (n := 10461) (by omega) (by omega) ?_
  exact lw_ret hx hb0 hr hlocks dL_law_893
