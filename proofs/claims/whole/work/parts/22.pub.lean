theorem tsw_out {x : Int32} {n : Nat} (h : inR x 0 (nI n) = false) (hn : n < 2147483647) : x.toInt < 0 ∨ (n : Int) < x.toInt := by
  unfold inR at h
  have h0 : (0 : Int32).toInt = 0 := by decide
  rw [decide_eq_false_iff_not, Int32.le_iff_toInt_le, Int32.le_iff_toInt_le, nI_toInt (by omega), h0] at h
  omega

set_option maxHeartbeats 4000000 in
set_option maxRecDepth 100000 in
theorem c_X5_offset (l : Launch) (dC : Nat → ClassId) (dI : Nat → Nat → Nat) (a : Nat → Nat) (k : c_K) (u : c_St) (h : c_ok u) (sc : Nat) (hs : sc ≤ 9) : Met l yX5_offset wsX5_offset ({ frames := 1, cells := 0, slots := 0, locals := 22 }) (va_Pc [.ref (a 0), .int (nI sc)] (w_ro (dC, dI) vwCl (wC a k u) (tC k))) (vp_Si (fun r => r = iI (c_off u sc))) 0 0 (fun _ => False) := by
  refine Met.ofW (cc := cX5_offset) (maxL := 2) (ret := (some .int)) (by decide) rfl ?_
  intro p e s m args below meth c s₁ B hml hv
  obtain ⟨rfl, hP, hK⟩ := hv
  have hx := B.exec
  have hb := B.bytes
  have hr := B.returns
  have hts := atoms_spec (ws := wsX5_offset) B.pre
  have htg : ∀ w ∈ wG, w.before _ s = true := fun w h => hts w (List.mem_cons_of_mem _ h)
  have hown : s.vm.findClass RX5 = some m.cls := findClass_of_methodNamed B.named
  have hlocks := B.notSynchronized
  have hl := lv_entry ([.ref (a 0), .int (nI sc)]) (n := 2) (Nat.le_of_ble_eq_true rfl)
  rw [lg_entry_eq]
  generalize (lg_sl ([.ref (a 0), .int (nI sc)]) ++ List.replicate (2 - (lg_sl ([.ref (a 0), .int (nI sc)])).length) Slot.unset).toArray = ls at hl ⊢
  have hl : lv_has ls 2 [(0, .ref (a 0)), (1, .int (nI sc))] := hl
  have hd9 : cu_D u 1 sc = -1 ∨ ∃ j : Nat, j < 60 ∧ cu_D u 1 sc = (j : Int) := by
    rcases h.2.2.2.2 sc (by omega) with q | ⟨j, q1, q2⟩
    · exact Or.inl q
    · exact Or.inr ⟨j, by have := h.2.1; omega, q2⟩
  refine lv_iload_n hx hb dX5_offset_0 rfl (lv_at hl 1 rfl) ?_
  refine va_csv (W.runS (As := [.int (nI sc)]) (rest := []) ⟨hx, hb, hml, hown, hts⟩ (c_X5_checkSource l dC dI a k u sc hs) (cwS 1 hts (wG_S wG_c q_241 q_242 q_1 q_243) rfl rfl rfl (by decide +kernel) ⟨Nat.le_of_ble_eq_true rfl, Nat.le_of_ble_eq_true rfl⟩) (w_roS hK hP) rfl rfl hl.1 rfl (lv_room (Nat.le_of_ble_eq_true rfl)) dX5_offset_1 ⟨Nat.le_of_ble_eq_true rfl, Nat.le_of_ble_eq_true rfl⟩) (fun _ => ?_)
  refine lv_aload_n hx hb dX5_offset_4 rfl (lv_at hl 0 rfl) ?_
  refine va_get (D := (dC, dI)) (ci := 5) (v := .ref (a 2)) (C := RX5) (T := TX5) (N := 6) hx hb htg inX5 hown hK hP 0 (wC_g0 a k _) rfl 1 (by decide) (htg _ q_161) (fun _ h9 => h9) rfl dX5_offset_5 ?_
  refine lv_iload_n hx hb dX5_offset_8 rfl (lv_at hl 1 rfl) ?_
  refine vp_callSi (W.runV (As := [.int (nI sc)]) (rest := []) ⟨hx, hb, hml, hown, hts⟩ (c_X3_offsetOf l dC dI a k u sc (by omega) hd9) (cwV 1 hts (wG_V wG_c q_398 q_196 q_197 q_3 q_198) rfl rfl rfl (by decide +kernel) ⟨Nat.le_of_ble_eq_true rfl, Nat.le_of_ble_eq_true rfl⟩) (w_roV hK hP (ci := 3) (q0 := 2) rfl (wC_g2 a k _) rfl) rfl rfl hl.1 rfl (lv_room (Nat.le_of_ble_eq_true rfl)) dX5_offset_9 ⟨Nat.le_of_ble_eq_true rfl, Nat.le_of_ble_eq_true rfl⟩) (fun r_1 hr_1 => ?_)
  subst hr_1
  exact W.iret (v := iI (c_off u sc)) hx hb hr (fun t9 ht9 hW9 => ⟨_, rfl, rfl, ht9⟩) (fun _ h => by cases h) dX5_offset_12
set_option maxHeartbeats 4000000 in
set_option maxRecDepth 100000 in
theorem x_X5_offset (l : Launch) (dC : Nat → ClassId) (dI : Nat → Nat → Nat) (a : Nat → Nat) (k : c_K) (u : c_St) (sz : Nat) (hst : l.stackTraces = false) (p0 : Int32) (hb9 : inR p0 0 9 = false) : XMet l yX5_offset wsX5_offset ({ frames := 7, cells := 1, slots := 6, locals := 102 }) (va_Pc [.ref (a 0), .int p0] (w_px (dC, dI) vwCl (wC a k u) (tC k) sz)) (x_C eIAE sz) 1 6 (va_A [] sz) := by
  refine XMet.ofW (cc := cX5_offset) (maxL := 2) (ret := (some .int)) (by decide) rfl ?_
  intro p e s m args below meth c s₁ B hml hv
  obtain ⟨rfl, hsz, hP, hK, hX⟩ := hv
  have hx := B.exec
  have hb := B.bytes
  have hts := atoms_spec (ws := wsX5_offset) B.pre
  have htg : ∀ w ∈ wG, w.before _ s = true := fun w h => hts w (List.mem_cons_of_mem _ h)
  have hown : s.vm.findClass RX5 = some m.cls := findClass_of_methodNamed B.named
  have hlocks := B.notSynchronized
  have hnoh : ∀ x ∈ c.exceptionTable.toList, False := fun x hx9 => by
    have h9 := B.noHandlers (hts _ List.mem_cons_self)
    rw [Array.isEmpty_iff.mp h9] at hx9
    cases hx9
  subst hsz
  have hl := lv_entry ([.ref (a 0), .int p0]) (n := 2) (Nat.le_of_ble_eq_true rfl)
  rw [lg_entry_eq]
  generalize (lg_sl ([.ref (a 0), .int p0]) ++ List.replicate (2 - (lg_sl ([.ref (a 0), .int p0])).length) Slot.unset).toArray = ls at hl ⊢
  have hl : lv_has ls 2 [(0, .ref (a 0)), (1, .int p0)] := hl
  refine lv_iload_n hx hb dX5_offset_0 rfl (lv_at hl 1 rfl) ?_
  refine XW.callS (As := [.int p0]) (rest := []) ⟨hx, hb, hml, hown, hts⟩ (x_X5_checkSource l dC dI a k u _ hst p0 hb9) (cwS 1 hts (wG_S wG_c q_241 q_242 q_1 q_243) rfl rfl rfl (by decide +kernel) ⟨Nat.le_of_ble_eq_true rfl, Nat.le_of_ble_eq_true rfl⟩) (w_pxS hK hP hX) rfl hl.1 rfl (Nat.le_of_ble_eq_true rfl) dX5_offset_1 ⟨Nat.le_of_ble_eq_true rfl, Nat.le_of_ble_eq_true rfl⟩ (fun q9 st9 t9 H9 L9 h0 hfc ht9 _ hxc hL9 => ?_)
  exact x_on (fun x h9 => (hnoh x h9).elim) hlocks h0 hfc ht9 hxc hL9 (Nat.le_refl _) (Nat.le_refl _)
set_option maxHeartbeats 4000000 in
set_option maxRecDepth 100000 in
theorem c_X5_contradiction (l : Launch) (dC : Nat → ClassId) (dI : Nat → Nat → Nat) (a : Nat → Nat) (k : c_K) (u : c_St) (h : c_ok u) (q : Nat) (hq : q < 2147483648) (hf : ∀ j, j < cu_N u 1 → 0 ≤ cu_D u 1 (cu_F u 5 j)) : Met l yX5_contradiction wsX5_contradiction ({ frames := 2, cells := 0, slots := 0, locals := 45 }) (va_Pc [.ref (a 0), .int (nI q)] (w_ro (dC, dI) vwCl (wC a k u) (tC k))) (vp_Si (fun r => r = iI (c_con u q (cu_N u 1)))) 0 0 (fun _ => False) := by
  refine Met.ofW (cc := cX5_contradiction) (maxL := 2) (ret := (some .int)) (by decide) rfl ?_
  intro p e s m args below meth c s₁ B hml hv
  obtain ⟨rfl, hP, hK⟩ := hv
  have hx := B.exec
  have hb := B.bytes
  have hr := B.returns
  have hts := atoms_spec (ws := wsX5_contradiction) B.pre
  have htg : ∀ w ∈ wG, w.before _ s = true := fun w h => hts w (List.mem_cons_of_mem _ h)
  have hown : s.vm.findClass RX5 = some m.cls := findClass_of_methodNamed B.named
  have hlocks := B.notSynchronized
  have hl := lv_entry ([.ref (a 0), .int (nI q)]) (n := 2) (Nat.le_of_ble_eq_true rfl)
  rw [lg_entry_eq]
  generalize (lg_sl ([.ref (a 0), .int (nI q)]) ++ List.replicate (2 - (lg_sl ([.ref (a 0), .int (nI q)])).length) Slot.unset).toArray = ls at hl ⊢
  have hl : lv_has ls 2 [(0, .ref (a 0)), (1, .int (nI q))] := hl
  refine lv_iload_n hx hb dX5_contradiction_0 rfl (lv_at hl 1 rfl) ?_
  refine va_csv (W.runS (As := [.int (nI q)]) (rest := []) ⟨hx, hb, hml, hown, hts⟩ (c_X5_checkPlace l dC dI a k u q hq) (cwS 1 hts (wG_S wG_c q_406 q_407 q_1 q_408) rfl rfl rfl (by decide +kernel) ⟨Nat.le_of_ble_eq_true rfl, Nat.le_of_ble_eq_true rfl⟩) (w_roS hK hP) rfl rfl hl.1 rfl (lv_room (Nat.le_of_ble_eq_true rfl)) dX5_contradiction_1 ⟨Nat.le_of_ble_eq_true rfl, Nat.le_of_ble_eq_true rfl⟩) (fun _ => ?_)
  refine lv_aload_n hx hb dX5_contradiction_4 rfl (lv_at hl 0 rfl) ?_
  refine va_get (D := (dC, dI)) (ci := 5) (v := .ref (a 2)) (C := RX5) (T := TX5) (N := 6) hx hb htg inX5 hown hK hP 0 (wC_g0 a k _) rfl 1 (by decide) (htg _ q_161) (fun _ h9 => h9) rfl dX5_contradiction_5 ?_
  refine lv_iload_n hx hb dX5_contradiction_8 rfl (lv_at hl 1 rfl) ?_
  refine vp_callSi (W.runV (As := [.int (nI q)]) (rest := []) ⟨hx, hb, hml, hown, hts⟩ (c_X3_contradictionAt l dC dI a k u h q hq hf) (cwV 1 hts (wG_V wG_c q_410 q_411 q_412 q_3 q_413) rfl rfl rfl (by decide +kernel) ⟨Nat.le_of_ble_eq_true rfl, Nat.le_of_ble_eq_true rfl⟩) (w_roV hK hP (ci := 3) (q0 := 2) rfl (wC_g2 a k _) rfl) rfl rfl hl.1 rfl (lv_room (Nat.le_of_ble_eq_true rfl)) dX5_contradiction_9 ⟨Nat.le_of_ble_eq_true rfl, Nat.le_of_ble_eq_true rfl⟩) (fun r_1 hr_1 => ?_)
  subst hr_1
  exact W.iret (v := iI (c_con u q (cu_N u 1))) hx hb hr (fun t9 ht9 hW9 => ⟨_, rfl, rfl, ht9⟩) (fun _ h => by cases h) dX5_contradiction_12
set_option maxHeartbeats 4000000 in
set_option maxRecDepth 100000 in
theorem x_X5_contradiction (l : Launch) (dC : Nat → ClassId) (dI : Nat → Nat → Nat) (a : Nat → Nat) (k : c_K) (u : c_St) (sz : Nat) (hst : l.stackTraces = false) (p0 : Int32) (hb9 : p0 < 0) : XMet l yX5_contradiction wsX5_contradiction ({ frames := 7, cells := 1, slots := 6, locals := 102 }) (va_Pc [.ref (a 0), .int p0] (w_px (dC, dI) vwCl (wC a k u) (tC k) sz)) (x_C eIOE sz) 1 6 (va_A [] sz) := by
  refine XMet.ofW (cc := cX5_contradiction) (maxL := 2) (ret := (some .int)) (by decide) rfl ?_
  intro p e s m args below meth c s₁ B hml hv
  obtain ⟨rfl, hsz, hP, hK, hX⟩ := hv
  have hx := B.exec
  have hb := B.bytes
  have hts := atoms_spec (ws := wsX5_contradiction) B.pre
  have htg : ∀ w ∈ wG, w.before _ s = true := fun w h => hts w (List.mem_cons_of_mem _ h)
  have hown : s.vm.findClass RX5 = some m.cls := findClass_of_methodNamed B.named
  have hlocks := B.notSynchronized
  have hnoh : ∀ x ∈ c.exceptionTable.toList, False := fun x hx9 => by
    have h9 := B.noHandlers (hts _ List.mem_cons_self)
    rw [Array.isEmpty_iff.mp h9] at hx9
    cases hx9
  subst hsz
  have hl := lv_entry ([.ref (a 0), .int p0]) (n := 2) (Nat.le_of_ble_eq_true rfl)
  rw [lg_entry_eq]
  generalize (lg_sl ([.ref (a 0), .int p0]) ++ List.replicate (2 - (lg_sl ([.ref (a 0), .int p0])).length) Slot.unset).toArray = ls at hl ⊢
  have hl : lv_has ls 2 [(0, .ref (a 0)), (1, .int p0)] := hl
  refine lv_iload_n hx hb dX5_contradiction_0 rfl (lv_at hl 1 rfl) ?_
  refine XW.callS (As := [.int p0]) (rest := []) ⟨hx, hb, hml, hown, hts⟩ (x_X5_checkPlace l dC dI a k u _ hst p0 hb9) (cwS 1 hts (wG_S wG_c q_406 q_407 q_1 q_408) rfl rfl rfl (by decide +kernel) ⟨Nat.le_of_ble_eq_true rfl, Nat.le_of_ble_eq_true rfl⟩) (w_pxS hK hP hX) rfl hl.1 rfl (Nat.le_of_ble_eq_true rfl) dX5_contradiction_1 ⟨Nat.le_of_ble_eq_true rfl, Nat.le_of_ble_eq_true rfl⟩ (fun q9 st9 t9 H9 L9 h0 hfc ht9 _ hxc hL9 => ?_)
  exact x_on (fun x h9 => (hnoh x h9).elim) hlocks h0 hfc ht9 hxc hL9 (Nat.le_refl _) (Nat.le_refl _)
set_option maxHeartbeats 4000000 in
set_option maxRecDepth 100000 in
theorem c_X5_time (l : Launch) (dC : Nat → ClassId) (dI : Nat → Nat → Nat) (a : Nat → Nat) (k : c_K) (u : c_St) (h : c_ok u) (n : Nat) (hn : n < cu_N u 0) (ht : cu_B u 0 n = true) : Met l yX5_time wsX5_time ({ frames := 2, cells := 0, slots := 0, locals := 43 }) (va_Pc [.ref (a 0), .int (nI n)] (w_ro (dC, dI) vwCl (wC a k u) (tC k))) (vp_Si (fun r => r = iI (c_beg u n))) 0 0 (fun _ => False) := by
  refine Met.ofW (cc := cX5_time) (maxL := 2) (ret := (some .int)) (by decide) rfl ?_
  intro p e s m args below meth c s₁ B hml hv
  obtain ⟨rfl, hP, hK⟩ := hv
  have hx := B.exec
  have hb := B.bytes
  have hr := B.returns
  have hts := atoms_spec (ws := wsX5_time) B.pre
  have htg : ∀ w ∈ wG, w.before _ s = true := fun w h => hts w (List.mem_cons_of_mem _ h)
  have hown : s.vm.findClass RX5 = some m.cls := findClass_of_methodNamed B.named
  have hlocks := B.notSynchronized
  have hl := lv_entry ([.ref (a 0), .int (nI n)]) (n := 2) (Nat.le_of_ble_eq_true rfl)
  rw [lg_entry_eq]
  generalize (lg_sl ([.ref (a 0), .int (nI n)]) ++ List.replicate (2 - (lg_sl ([.ref (a 0), .int (nI n)])).length) Slot.unset).toArray = ls at hl ⊢
  have hl : lv_has ls 2 [(0, .ref (a 0)), (1, .int (nI n))] := hl
  have h20 := h.1
  refine lv_aload_n hx hb dX5_time_0 rfl (lv_at hl 0 rfl) ?_
  refine lv_iload_n hx hb dX5_time_1 rfl (lv_at hl 1 rfl) ?_
  refine va_csv (W.runV (As := [.int (nI n)]) (rest := []) ⟨hx, hb, hml, hown, hts⟩ (c_X5_checkSlot l dC dI a k u h20 n hn) (cwV 1 hts (wG_V wG_c q_434 q_436 p_5 q_1 q_437) rfl rfl rfl (by decide +kernel) ⟨Nat.le_of_ble_eq_true rfl, Nat.le_of_ble_eq_true rfl⟩) (w_roV hK hP (ci := 5) (q0 := 0) rfl (wC_g0 a k _) rfl) rfl rfl hl.1 rfl (lv_room (Nat.le_of_ble_eq_true rfl)) dX5_time_2 ⟨Nat.le_of_ble_eq_true rfl, Nat.le_of_ble_eq_true rfl⟩) (fun _ => ?_)
  refine lv_aload_n hx hb dX5_time_5 rfl (lv_at hl 0 rfl) ?_
  refine lv_iload_n hx hb dX5_time_6 rfl (lv_at hl 1 rfl) ?_
  refine va_csv (W.runV (As := [.int (nI n)]) (rest := []) ⟨hx, hb, hml, hown, hts⟩ (c_X5_checkThere l dC dI a k u n (by omega) ht) (cwV 1 hts (wG_V wG_c q_439 q_441 p_6 q_1 q_442) rfl rfl rfl (by decide +kernel) ⟨Nat.le_of_ble_eq_true rfl, Nat.le_of_ble_eq_true rfl⟩) (w_roV hK hP (ci := 5) (q0 := 0) rfl (wC_g0 a k _) rfl) rfl rfl hl.1 rfl (lv_room (Nat.le_of_ble_eq_true rfl)) dX5_time_7 ⟨Nat.le_of_ble_eq_true rfl, Nat.le_of_ble_eq_true rfl⟩) (fun _ => ?_)
  refine lv_aload_n hx hb dX5_time_10 rfl (lv_at hl 0 rfl) ?_
  refine va_get (D := (dC, dI)) (ci := 5) (v := .ref (a 3)) (C := RX5) (T := TX5) (N := 6) hx hb htg inX5 hown hK hP 0 (wC_g0 a k _) rfl 2 (by decide) (htg _ q_162) (fun _ h9 => h9) rfl dX5_time_11 ?_
  refine lv_iload_n hx hb dX5_time_14 rfl (lv_at hl 1 rfl) ?_
  refine vp_callSi (W.runV (As := [.int (nI n)]) (rest := []) ⟨hx, hb, hml, hown, hts⟩ (c_X1_beginOf l dC dI a k u h n hn) (cwV 1 hts (wG_V wG_c q_459 q_192 q_193 q_4 q_194) rfl rfl rfl (by decide +kernel) ⟨Nat.le_of_ble_eq_true rfl, Nat.le_of_ble_eq_true rfl⟩) (w_roV hK hP (ci := 1) (q0 := 3) rfl (wC_g3 a k _) rfl) rfl rfl hl.1 rfl (lv_room (Nat.le_of_ble_eq_true rfl)) dX5_time_15 ⟨Nat.le_of_ble_eq_true rfl, Nat.le_of_ble_eq_true rfl⟩) (fun r_1 hr_1 => ?_)
  subst hr_1
  exact W.iret (v := iI (c_beg u n)) hx hb hr (fun t9 ht9 hW9 => ⟨_, rfl, rfl, ht9⟩) (fun _ h => by cases h) dX5_time_18
set_option maxHeartbeats 4000000 in
set_option maxRecDepth 100000 in
theorem x_X5_time_1 (l : Launch) (dC : Nat → ClassId) (dI : Nat → Nat → Nat) (a : Nat → Nat) (k : c_K) (u : c_St) (sz : Nat) (hst : l.stackTraces = false) (h20 : cu_N u 0 ≤ 200) (p0 : Int32) (hb9 : isS (cu_N u 0) p0 = false) : XMet l yX5_time wsX5_time ({ frames := 7, cells := 1, slots := 6, locals := 103 }) (va_Pc [.ref (a 0), .int p0] (w_px (dC, dI) vwCl (wC a k u) (tC k) sz)) (x_C eIAE sz) 1 6 (va_A [] sz) := by
  refine XMet.ofW (cc := cX5_time) (maxL := 2) (ret := (some .int)) (by decide) rfl ?_
  intro p e s m args below meth c s₁ B hml hv
  obtain ⟨rfl, hsz, hP, hK, hX⟩ := hv
  have hx := B.exec
  have hb := B.bytes
  have hts := atoms_spec (ws := wsX5_time) B.pre
  have htg : ∀ w ∈ wG, w.before _ s = true := fun w h => hts w (List.mem_cons_of_mem _ h)
  have hown : s.vm.findClass RX5 = some m.cls := findClass_of_methodNamed B.named
  have hlocks := B.notSynchronized
  have hnoh : ∀ x ∈ c.exceptionTable.toList, False := fun x hx9 => by
    have h9 := B.noHandlers (hts _ List.mem_cons_self)
    rw [Array.isEmpty_iff.mp h9] at hx9
    cases hx9
  subst hsz
  have hl := lv_entry ([.ref (a 0), .int p0]) (n := 2) (Nat.le_of_ble_eq_true rfl)
  rw [lg_entry_eq]
  generalize (lg_sl ([.ref (a 0), .int p0]) ++ List.replicate (2 - (lg_sl ([.ref (a 0), .int p0])).length) Slot.unset).toArray = ls at hl ⊢
  have hl : lv_has ls 2 [(0, .ref (a 0)), (1, .int p0)] := hl
  refine lv_aload_n hx hb dX5_time_0 rfl (lv_at hl 0 rfl) ?_
  refine lv_iload_n hx hb dX5_time_1 rfl (lv_at hl 1 rfl) ?_
  refine XW.callV (As := [.int p0]) (rest := []) ⟨hx, hb, hml, hown, hts⟩ (x_X5_checkSlot l dC dI a k u _ hst h20 p0 hb9) (cwV 1 hts (wG_V wG_c q_434 q_436 p_5 q_1 q_437) rfl rfl rfl (by decide +kernel) ⟨Nat.le_of_ble_eq_true rfl, Nat.le_of_ble_eq_true rfl⟩) (w_pxV hK hP hX (ci := 5) (q0 := 0) rfl (wC_g0 a k _) rfl) rfl hl.1 rfl (Nat.le_of_ble_eq_true rfl) dX5_time_2 ⟨Nat.le_of_ble_eq_true rfl, Nat.le_of_ble_eq_true rfl⟩ (fun q9 st9 t9 H9 L9 h0 hfc ht9 _ hxc hL9 => ?_)
  exact x_on (fun x h9 => (hnoh x h9).elim) hlocks h0 hfc ht9 hxc hL9 (Nat.le_refl _) (Nat.le_refl _)
set_option maxHeartbeats 4000000 in
set_option maxRecDepth 100000 in
theorem x_X5_time_2 (l : Launch) (dC : Nat → ClassId) (dI : Nat → Nat → Nat) (a : Nat → Nat) (k : c_K) (u : c_St) (sz : Nat) (hst : l.stackTraces = false) (h20 : cu_N u 0 ≤ 200) (n : Nat) (hn : n < cu_N u 0) (ht : cu_B u 0 n = false) : XMet l yX5_time wsX5_time ({ frames := 7, cells := 1, slots := 6, locals := 103 }) (va_Pc [.ref (a 0), .int (nI n)] (w_px (dC, dI) vwCl (wC a k u) (tC k) sz)) (x_C eISE sz) 1 6 (va_A [] sz) := by
  refine XMet.ofW (cc := cX5_time) (maxL := 2) (ret := (some .int)) (by decide) rfl ?_
  intro p e s m args below meth c s₁ B hml hv
  obtain ⟨rfl, hsz, hP, hK, hX⟩ := hv
  have hx := B.exec
  have hb := B.bytes
  have hts := atoms_spec (ws := wsX5_time) B.pre
  have htg : ∀ w ∈ wG, w.before _ s = true := fun w h => hts w (List.mem_cons_of_mem _ h)
  have hown : s.vm.findClass RX5 = some m.cls := findClass_of_methodNamed B.named
  have hlocks := B.notSynchronized
  have hnoh : ∀ x ∈ c.exceptionTable.toList, False := fun x hx9 => by
    have h9 := B.noHandlers (hts _ List.mem_cons_self)
    rw [Array.isEmpty_iff.mp h9] at hx9
    cases hx9
  subst hsz
  have hl := lv_entry ([.ref (a 0), .int (nI n)]) (n := 2) (Nat.le_of_ble_eq_true rfl)
  rw [lg_entry_eq]
  generalize (lg_sl ([.ref (a 0), .int (nI n)]) ++ List.replicate (2 - (lg_sl ([.ref (a 0), .int (nI n)])).length) Slot.unset).toArray = ls at hl ⊢
  have hl : lv_has ls 2 [(0, .ref (a 0)), (1, .int (nI n))] := hl
  refine lv_aload_n hx hb dX5_time_0 rfl (lv_at hl 0 rfl) ?_
  refine lv_iload_n hx hb dX5_time_1 rfl (lv_at hl 1 rfl) ?_
  refine va_csv (W.runV (As := [.int (nI n)]) (rest := []) ⟨hx, hb, hml, hown, hts⟩ (c_X5_checkSlot l dC dI a k u h20 n hn) (cwV 1 hts (wG_V wG_c q_434 q_436 p_5 q_1 q_437) rfl rfl rfl (by decide +kernel) ⟨Nat.le_of_ble_eq_true rfl, Nat.le_of_ble_eq_true rfl⟩) (w_roV hK hP (ci := 5) (q0 := 0) rfl (wC_g0 a k _) rfl) rfl rfl hl.1 rfl (lv_room (Nat.le_of_ble_eq_true rfl)) dX5_time_2 ⟨Nat.le_of_ble_eq_true rfl, Nat.le_of_ble_eq_true rfl⟩) (fun _ => ?_)
  refine lv_aload_n hx hb dX5_time_5 rfl (lv_at hl 0 rfl) ?_
  refine lv_iload_n hx hb dX5_time_6 rfl (lv_at hl 1 rfl) ?_
  refine XW.callV (As := [.int (nI n)]) (rest := []) ⟨hx, hb, hml, hown, hts⟩ (x_X5_checkThere l dC dI a k u _ hst n (by omega) ht) (cwV 1 hts (wG_V wG_c q_439 q_441 p_6 q_1 q_442) rfl rfl rfl (by decide +kernel) ⟨Nat.le_of_ble_eq_true rfl, Nat.le_of_ble_eq_true rfl⟩) (w_pxV hK hP hX (ci := 5) (q0 := 0) rfl (wC_g0 a k _) rfl) rfl hl.1 rfl (Nat.le_of_ble_eq_true rfl) dX5_time_7 ⟨Nat.le_of_ble_eq_true rfl, Nat.le_of_ble_eq_true rfl⟩ (fun q9 st9 t9 H9 L9 h0 hfc ht9 _ hxc hL9 => ?_)
  exact x_on (fun x h9 => (hnoh x h9).elim) hlocks h0 hfc ht9 hxc hL9 (Nat.le_refl _) (Nat.le_refl _)
set_option maxHeartbeats 4000000 in
set_option maxRecDepth 100000 in
theorem c_X5_sum (l : Launch) (dC : Nat → ClassId) (dI : Nat → Nat → Nat) (a : Nat → Nat) (k : c_K) (u : c_St) (h : c_ok u) (n : Nat) (hn : n < cu_N u 0) (ht : cu_B u 0 n = true) : Met l yX5_sum wsX5_sum ({ frames := 3, cells := 0, slots := 0, locals := 71 }) (va_Pc [.ref (a 0), .int (nI n)] (w_ro (dC, dI) vwCl (wC a k u) (tC k))) (vp_Si (fun r => r = c_now u n)) 0 0 (fun _ => False) := by
  refine Met.ofW (cc := cX5_sum) (maxL := 2) (ret := (some .int)) (by decide) rfl ?_
  intro p e s m args below meth c s₁ B hml hv
  obtain ⟨rfl, hP, hK⟩ := hv
  have hx := B.exec
  have hb := B.bytes
  have hr := B.returns
  have hts := atoms_spec (ws := wsX5_sum) B.pre
  have htg : ∀ w ∈ wG, w.before _ s = true := fun w h => hts w (List.mem_cons_of_mem _ h)
  have hown : s.vm.findClass RX5 = some m.cls := findClass_of_methodNamed B.named
  have hlocks := B.notSynchronized
  have hl := lv_entry ([.ref (a 0), .int (nI n)]) (n := 2) (Nat.le_of_ble_eq_true rfl)
  rw [lg_entry_eq]
  generalize (lg_sl ([.ref (a 0), .int (nI n)]) ++ List.replicate (2 - (lg_sl ([.ref (a 0), .int (nI n)])).length) Slot.unset).toArray = ls at hl ⊢
  have hl : lv_has ls 2 [(0, .ref (a 0)), (1, .int (nI n))] := hl
  have h20 := h.1
  refine lv_aload_n hx hb dX5_sum_0 rfl (lv_at hl 0 rfl) ?_
  refine lv_iload_n hx hb dX5_sum_1 rfl (lv_at hl 1 rfl) ?_
  refine va_csv (W.runV (As := [.int (nI n)]) (rest := []) ⟨hx, hb, hml, hown, hts⟩ (c_X5_checkSlot l dC dI a k u h20 n hn) (cwV 1 hts (wG_V wG_c q_434 q_436 p_5 q_1 q_437) rfl rfl rfl (by decide +kernel) ⟨Nat.le_of_ble_eq_true rfl, Nat.le_of_ble_eq_true rfl⟩) (w_roV hK hP (ci := 5) (q0 := 0) rfl (wC_g0 a k _) rfl) rfl rfl hl.1 rfl (lv_room (Nat.le_of_ble_eq_true rfl)) dX5_sum_2 ⟨Nat.le_of_ble_eq_true rfl, Nat.le_of_ble_eq_true rfl⟩) (fun _ => ?_)
  refine lv_aload_n hx hb dX5_sum_5 rfl (lv_at hl 0 rfl) ?_
  refine lv_iload_n hx hb dX5_sum_6 rfl (lv_at hl 1 rfl) ?_
  refine va_csv (W.runV (As := [.int (nI n)]) (rest := []) ⟨hx, hb, hml, hown, hts⟩ (c_X5_checkThere l dC dI a k u n (by omega) ht) (cwV 1 hts (wG_V wG_c q_439 q_441 p_6 q_1 q_442) rfl rfl rfl (by decide +kernel) ⟨Nat.le_of_ble_eq_true rfl, Nat.le_of_ble_eq_true rfl⟩) (w_roV hK hP (ci := 5) (q0 := 0) rfl (wC_g0 a k _) rfl) rfl rfl hl.1 rfl (lv_room (Nat.le_of_ble_eq_true rfl)) dX5_sum_7 ⟨Nat.le_of_ble_eq_true rfl, Nat.le_of_ble_eq_true rfl⟩) (fun _ => ?_)
  refine lv_aload_n hx hb dX5_sum_10 rfl (lv_at hl 0 rfl) ?_
  refine va_get (D := (dC, dI)) (ci := 5) (v := .ref (a 1)) (C := RX5) (T := TX5) (N := 6) hx hb htg inX5 hown hK hP 0 (wC_g0 a k _) rfl 0 (by decide) (htg _ q_160) (fun _ h9 => h9) rfl dX5_sum_11 ?_
  refine lv_iload_n hx hb dX5_sum_14 rfl (lv_at hl 1 rfl) ?_
  refine vp_callSi (W.runV (As := [.int (nI n)]) (rest := []) ⟨hx, hb, hml, hown, hts⟩ (c_X4_sumNow l dC dI a k u n (by omega) (h.2.2.1 n hn).2.2.2.1) (cwV 1 hts (wG_V wG_c q_226 q_227 q_228 q_2 q_229) rfl rfl rfl (by decide +kernel) ⟨Nat.le_of_ble_eq_true rfl, Nat.le_of_ble_eq_true rfl⟩) (w_roV hK hP (ci := 4) (q0 := 1) rfl (wC_g1 a k _) rfl) rfl rfl hl.1 rfl (lv_room (Nat.le_of_ble_eq_true rfl)) dX5_sum_15 ⟨Nat.le_of_ble_eq_true rfl, Nat.le_of_ble_eq_true rfl⟩) (fun r_1 hr_1 => ?_)
  subst hr_1
  exact W.iret (v := c_now u n) hx hb hr (fun t9 ht9 hW9 => ⟨_, rfl, rfl, ht9⟩) (fun _ h => by cases h) dX5_sum_18
set_option maxHeartbeats 4000000 in
set_option maxRecDepth 100000 in
theorem x_X5_sum_1 (l : Launch) (dC : Nat → ClassId) (dI : Nat → Nat → Nat) (a : Nat → Nat) (k : c_K) (u : c_St) (sz : Nat) (hst : l.stackTraces = false) (h20 : cu_N u 0 ≤ 200) (p0 : Int32) (hb9 : isS (cu_N u 0) p0 = false) : XMet l yX5_sum wsX5_sum ({ frames := 7, cells := 1, slots := 6, locals := 103 }) (va_Pc [.ref (a 0), .int p0] (w_px (dC, dI) vwCl (wC a k u) (tC k) sz)) (x_C eIAE sz) 1 6 (va_A [] sz) := by
  refine XMet.ofW (cc := cX5_sum) (maxL := 2) (ret := (some .int)) (by decide) rfl ?_
  intro p e s m args below meth c s₁ B hml hv
  obtain ⟨rfl, hsz, hP, hK, hX⟩ := hv
  have hx := B.exec
  have hb := B.bytes
  have hts := atoms_spec (ws := wsX5_sum) B.pre
  have htg : ∀ w ∈ wG, w.before _ s = true := fun w h => hts w (List.mem_cons_of_mem _ h)
  have hown : s.vm.findClass RX5 = some m.cls := findClass_of_methodNamed B.named
  have hlocks := B.notSynchronized
  have hnoh : ∀ x ∈ c.exceptionTable.toList, False := fun x hx9 => by
    have h9 := B.noHandlers (hts _ List.mem_cons_self)
    rw [Array.isEmpty_iff.mp h9] at hx9
    cases hx9
  subst hsz
  have hl := lv_entry ([.ref (a 0), .int p0]) (n := 2) (Nat.le_of_ble_eq_true rfl)
  rw [lg_entry_eq]
  generalize (lg_sl ([.ref (a 0), .int p0]) ++ List.replicate (2 - (lg_sl ([.ref (a 0), .int p0])).length) Slot.unset).toArray = ls at hl ⊢
  have hl : lv_has ls 2 [(0, .ref (a 0)), (1, .int p0)] := hl
  refine lv_aload_n hx hb dX5_sum_0 rfl (lv_at hl 0 rfl) ?_
  refine lv_iload_n hx hb dX5_sum_1 rfl (lv_at hl 1 rfl) ?_
  refine XW.callV (As := [.int p0]) (rest := []) ⟨hx, hb, hml, hown, hts⟩ (x_X5_checkSlot l dC dI a k u _ hst h20 p0 hb9) (cwV 1 hts (wG_V wG_c q_434 q_436 p_5 q_1 q_437) rfl rfl rfl (by decide +kernel) ⟨Nat.le_of_ble_eq_true rfl, Nat.le_of_ble_eq_true rfl⟩) (w_pxV hK hP hX (ci := 5) (q0 := 0) rfl (wC_g0 a k _) rfl) rfl hl.1 rfl (Nat.le_of_ble_eq_true rfl) dX5_sum_2 ⟨Nat.le_of_ble_eq_true rfl, Nat.le_of_ble_eq_true rfl⟩ (fun q9 st9 t9 H9 L9 h0 hfc ht9 _ hxc hL9 => ?_)
  exact x_on (fun x h9 => (hnoh x h9).elim) hlocks h0 hfc ht9 hxc hL9 (Nat.le_refl _) (Nat.le_refl _)
set_option maxHeartbeats 4000000 in
set_option maxRecDepth 100000 in
theorem x_X5_sum_2 (l : Launch) (dC : Nat → ClassId) (dI : Nat → Nat → Nat) (a : Nat → Nat) (k : c_K) (u : c_St) (sz : Nat) (hst : l.stackTraces = false) (h20 : cu_N u 0 ≤ 200) (n : Nat) (hn : n < cu_N u 0) (ht : cu_B u 0 n = false) : XMet l yX5_sum wsX5_sum ({ frames := 7, cells := 1, slots := 6, locals := 103 }) (va_Pc [.ref (a 0), .int (nI n)] (w_px (dC, dI) vwCl (wC a k u) (tC k) sz)) (x_C eISE sz) 1 6 (va_A [] sz) := by
  refine XMet.ofW (cc := cX5_sum) (maxL := 2) (ret := (some .int)) (by decide) rfl ?_
  intro p e s m args below meth c s₁ B hml hv
  obtain ⟨rfl, hsz, hP, hK, hX⟩ := hv
  have hx := B.exec
  have hb := B.bytes
  have hts := atoms_spec (ws := wsX5_sum) B.pre
  have htg : ∀ w ∈ wG, w.before _ s = true := fun w h => hts w (List.mem_cons_of_mem _ h)
  have hown : s.vm.findClass RX5 = some m.cls := findClass_of_methodNamed B.named
  have hlocks := B.notSynchronized
  have hnoh : ∀ x ∈ c.exceptionTable.toList, False := fun x hx9 => by
    have h9 := B.noHandlers (hts _ List.mem_cons_self)
    rw [Array.isEmpty_iff.mp h9] at hx9
    cases hx9
  subst hsz
  have hl := lv_entry ([.ref (a 0), .int (nI n)]) (n := 2) (Nat.le_of_ble_eq_true rfl)
  rw [lg_entry_eq]
  generalize (lg_sl ([.ref (a 0), .int (nI n)]) ++ List.replicate (2 - (lg_sl ([.ref (a 0), .int (nI n)])).length) Slot.unset).toArray = ls at hl ⊢
  have hl : lv_has ls 2 [(0, .ref (a 0)), (1, .int (nI n))] := hl
  refine lv_aload_n hx hb dX5_sum_0 rfl (lv_at hl 0 rfl) ?_
  refine lv_iload_n hx hb dX5_sum_1 rfl (lv_at hl 1 rfl) ?_
  refine va_csv (W.runV (As := [.int (nI n)]) (rest := []) ⟨hx, hb, hml, hown, hts⟩ (c_X5_checkSlot l dC dI a k u h20 n hn) (cwV 1 hts (wG_V wG_c q_434 q_436 p_5 q_1 q_437) rfl rfl rfl (by decide +kernel) ⟨Nat.le_of_ble_eq_true rfl, Nat.le_of_ble_eq_true rfl⟩) (w_roV hK hP (ci := 5) (q0 := 0) rfl (wC_g0 a k _) rfl) rfl rfl hl.1 rfl (lv_room (Nat.le_of_ble_eq_true rfl)) dX5_sum_2 ⟨Nat.le_of_ble_eq_true rfl, Nat.le_of_ble_eq_true rfl⟩) (fun _ => ?_)
  refine lv_aload_n hx hb dX5_sum_5 rfl (lv_at hl 0 rfl) ?_
  refine lv_iload_n hx hb dX5_sum_6 rfl (lv_at hl 1 rfl) ?_
  refine XW.callV (As := [.int (nI n)]) (rest := []) ⟨hx, hb, hml, hown, hts⟩ (x_X5_checkThere l dC dI a k u _ hst n (by omega) ht) (cwV 1 hts (wG_V wG_c q_439 q_441 p_6 q_1 q_442) rfl rfl rfl (by decide +kernel) ⟨Nat.le_of_ble_eq_true rfl, Nat.le_of_ble_eq_true rfl⟩) (w_pxV hK hP hX (ci := 5) (q0 := 0) rfl (wC_g0 a k _) rfl) rfl hl.1 rfl (Nat.le_of_ble_eq_true rfl) dX5_sum_7 ⟨Nat.le_of_ble_eq_true rfl, Nat.le_of_ble_eq_true rfl⟩ (fun q9 st9 t9 H9 L9 h0 hfc ht9 _ hxc hL9 => ?_)
  exact x_on (fun x h9 => (hnoh x h9).elim) hlocks h0 hfc ht9 hxc hL9 (Nat.le_refl _) (Nat.le_refl _)
set_option maxHeartbeats 4000000 in
set_option maxRecDepth 100000 in
theorem c_X5_part (l : Launch) (dC : Nat → ClassId) (dI : Nat → Nat → Nat) (a : Nat → Nat) (k : c_K) (u : c_St) (h : c_ok u) (n : Nat) (hn : n < cu_N u 0) (ht : cu_B u 0 n = true) (t1 t2 : Int32) : Met l yX5_part wsX5_part ({ frames := 4, cells := 0, slots := 0, locals := 91 }) (va_Pc [.ref (a 0), .int (nI n), .int t1, .int t2] (w_ro (dC, dI) vwCl (wC a k u) (tC k))) (vp_Si (fun r => r = c_sm (cu_L u n) (cu_F u 2 n) 0 (c_bb u n t1) (c_bb u n t2 - c_bb u n t1))) 0 0 (fun _ => False) := by
  refine Met.ofW (cc := cX5_part) (maxL := 4) (ret := (some .int)) (by decide) rfl ?_
  intro p e s m args below meth c s₁ B hml hv
  obtain ⟨rfl, hP, hK⟩ := hv
  have hx := B.exec
  have hb := B.bytes
  have hr := B.returns
  have hts := atoms_spec (ws := wsX5_part) B.pre
  have htg : ∀ w ∈ wG, w.before _ s = true := fun w h => hts w (List.mem_cons_of_mem _ h)
  have hown : s.vm.findClass RX5 = some m.cls := findClass_of_methodNamed B.named
  have hlocks := B.notSynchronized
  have hl := lv_entry ([.ref (a 0), .int (nI n), .int t1, .int t2]) (n := 4) (Nat.le_of_ble_eq_true rfl)
  rw [lg_entry_eq]
  generalize (lg_sl ([.ref (a 0), .int (nI n), .int t1, .int t2]) ++ List.replicate (4 - (lg_sl ([.ref (a 0), .int (nI n), .int t1, .int t2])).length) Slot.unset).toArray = ls at hl ⊢
  have hl : lv_has ls 4 [(0, .ref (a 0)), (1, .int (nI n)), (2, .int t1), (3, .int t2)] := hl
  have h20 := h.1
  refine lv_aload_n hx hb dX5_part_0 rfl (lv_at hl 0 rfl) ?_
  refine lv_iload_n hx hb dX5_part_1 rfl (lv_at hl 1 rfl) ?_
  refine va_csv (W.runV (As := [.int (nI n)]) (rest := []) ⟨hx, hb, hml, hown, hts⟩ (c_X5_checkSlot l dC dI a k u h20 n hn) (cwV 1 hts (wG_V wG_c q_434 q_436 p_5 q_1 q_437) rfl rfl rfl (by decide +kernel) ⟨Nat.le_of_ble_eq_true rfl, Nat.le_of_ble_eq_true rfl⟩) (w_roV hK hP (ci := 5) (q0 := 0) rfl (wC_g0 a k _) rfl) rfl rfl hl.1 rfl (lv_room (Nat.le_of_ble_eq_true rfl)) dX5_part_2 ⟨Nat.le_of_ble_eq_true rfl, Nat.le_of_ble_eq_true rfl⟩) (fun _ => ?_)
  refine lv_aload_n hx hb dX5_part_5 rfl (lv_at hl 0 rfl) ?_
  refine lv_iload_n hx hb dX5_part_6 rfl (lv_at hl 1 rfl) ?_
  refine va_csv (W.runV (As := [.int (nI n)]) (rest := []) ⟨hx, hb, hml, hown, hts⟩ (c_X5_checkThere l dC dI a k u n (by omega) ht) (cwV 1 hts (wG_V wG_c q_439 q_441 p_6 q_1 q_442) rfl rfl rfl (by decide +kernel) ⟨Nat.le_of_ble_eq_true rfl, Nat.le_of_ble_eq_true rfl⟩) (w_roV hK hP (ci := 5) (q0 := 0) rfl (wC_g0 a k _) rfl) rfl rfl hl.1 rfl (lv_room (Nat.le_of_ble_eq_true rfl)) dX5_part_7 ⟨Nat.le_of_ble_eq_true rfl, Nat.le_of_ble_eq_true rfl⟩) (fun _ => ?_)
  refine lv_aload_n hx hb dX5_part_10 rfl (lv_at hl 0 rfl) ?_
  refine va_get (D := (dC, dI)) (ci := 5) (v := .ref (a 3)) (C := RX5) (T := TX5) (N := 6) hx hb htg inX5 hown hK hP 0 (wC_g0 a k _) rfl 2 (by decide) (htg _ q_162) (fun _ h9 => h9) rfl dX5_part_11 ?_
  refine lv_iconst (v := 0) hx hb dX5_part_14 (by decide) ?_
  refine lv_iload_n hx hb dX5_part_15 rfl (lv_at hl 1 rfl) ?_
  refine lv_iload_n hx hb dX5_part_16 rfl (lv_at hl 2 rfl) ?_
  refine lv_iload_n hx hb dX5_part_17 rfl (lv_at hl 3 rfl) ?_
  refine vp_callSi (W.runV (As := [.int 0, .int (nI n), .int t1, .int t2]) (rest := []) ⟨hx, hb, hml, hown, hts⟩ (c_X1_sumWithin l dC dI a k u h 0 n hn t1 t2) (cwV 4 hts (wG_V wG_c q_209 q_210 q_211 q_4 q_212) rfl rfl rfl (by decide +kernel) ⟨Nat.le_of_ble_eq_true rfl, Nat.le_of_ble_eq_true rfl⟩) (w_roV hK hP (ci := 1) (q0 := 3) rfl (wC_g3 a k _) rfl) rfl rfl hl.1 rfl (lv_room (Nat.le_of_ble_eq_true rfl)) dX5_part_18 ⟨Nat.le_of_ble_eq_true rfl, Nat.le_of_ble_eq_true rfl⟩) (fun r_1 hr_1 => ?_)
  subst hr_1
  exact W.iret (v := c_sm (cu_L u n) (cu_F u 2 n) 0 (c_bb u n t1) (c_bb u n t2 - c_bb u n t1)) hx hb hr (fun t9 ht9 hW9 => ⟨_, rfl, rfl, ht9⟩) (fun _ h => by cases h) dX5_part_21
set_option maxHeartbeats 4000000 in
set_option maxRecDepth 100000 in
theorem x_X5_part_1 (l : Launch) (dC : Nat → ClassId) (dI : Nat → Nat → Nat) (a : Nat → Nat) (k : c_K) (u : c_St) (sz : Nat) (hst : l.stackTraces = false) (h20 : cu_N u 0 ≤ 200) (p0 : Int32) (hb9 : isS (cu_N u 0) p0 = false) (t1 t2 : Int32) : XMet l yX5_part wsX5_part ({ frames := 7, cells := 1, slots := 6, locals := 103 }) (va_Pc [.ref (a 0), .int p0, .int t1, .int t2] (w_px (dC, dI) vwCl (wC a k u) (tC k) sz)) (x_C eIAE sz) 1 6 (va_A [] sz) := by
  refine XMet.ofW (cc := cX5_part) (maxL := 4) (ret := (some .int)) (by decide) rfl ?_
  intro p e s m args below meth c s₁ B hml hv
  obtain ⟨rfl, hsz, hP, hK, hX⟩ := hv
  have hx := B.exec
  have hb := B.bytes
  have hts := atoms_spec (ws := wsX5_part) B.pre
  have htg : ∀ w ∈ wG, w.before _ s = true := fun w h => hts w (List.mem_cons_of_mem _ h)
  have hown : s.vm.findClass RX5 = some m.cls := findClass_of_methodNamed B.named
  have hlocks := B.notSynchronized
  have hnoh : ∀ x ∈ c.exceptionTable.toList, False := fun x hx9 => by
    have h9 := B.noHandlers (hts _ List.mem_cons_self)
    rw [Array.isEmpty_iff.mp h9] at hx9
    cases hx9
  subst hsz
  have hl := lv_entry ([.ref (a 0), .int p0, .int t1, .int t2]) (n := 4) (Nat.le_of_ble_eq_true rfl)
  rw [lg_entry_eq]
  generalize (lg_sl ([.ref (a 0), .int p0, .int t1, .int t2]) ++ List.replicate (4 - (lg_sl ([.ref (a 0), .int p0, .int t1, .int t2])).length) Slot.unset).toArray = ls at hl ⊢
  have hl : lv_has ls 4 [(0, .ref (a 0)), (1, .int p0), (2, .int t1), (3, .int t2)] := hl
  refine lv_aload_n hx hb dX5_part_0 rfl (lv_at hl 0 rfl) ?_
  refine lv_iload_n hx hb dX5_part_1 rfl (lv_at hl 1 rfl) ?_
  refine XW.callV (As := [.int p0]) (rest := []) ⟨hx, hb, hml, hown, hts⟩ (x_X5_checkSlot l dC dI a k u _ hst h20 p0 hb9) (cwV 1 hts (wG_V wG_c q_434 q_436 p_5 q_1 q_437) rfl rfl rfl (by decide +kernel) ⟨Nat.le_of_ble_eq_true rfl, Nat.le_of_ble_eq_true rfl⟩) (w_pxV hK hP hX (ci := 5) (q0 := 0) rfl (wC_g0 a k _) rfl) rfl hl.1 rfl (Nat.le_of_ble_eq_true rfl) dX5_part_2 ⟨Nat.le_of_ble_eq_true rfl, Nat.le_of_ble_eq_true rfl⟩ (fun q9 st9 t9 H9 L9 h0 hfc ht9 _ hxc hL9 => ?_)
  exact x_on (fun x h9 => (hnoh x h9).elim) hlocks h0 hfc ht9 hxc hL9 (Nat.le_refl _) (Nat.le_refl _)
set_option maxHeartbeats 4000000 in
set_option maxRecDepth 100000 in
theorem x_X5_part_2 (l : Launch) (dC : Nat → ClassId) (dI : Nat → Nat → Nat) (a : Nat → Nat) (k : c_K) (u : c_St) (sz : Nat) (hst : l.stackTraces = false) (h20 : cu_N u 0 ≤ 200) (n : Nat) (hn : n < cu_N u 0) (ht : cu_B u 0 n = false) (t1 t2 : Int32) : XMet l yX5_part wsX5_part ({ frames := 7, cells := 1, slots := 6, locals := 103 }) (va_Pc [.ref (a 0), .int (nI n), .int t1, .int t2] (w_px (dC, dI) vwCl (wC a k u) (tC k) sz)) (x_C eISE sz) 1 6 (va_A [] sz) := by
  refine XMet.ofW (cc := cX5_part) (maxL := 4) (ret := (some .int)) (by decide) rfl ?_
  intro p e s m args below meth c s₁ B hml hv
  obtain ⟨rfl, hsz, hP, hK, hX⟩ := hv
  have hx := B.exec
  have hb := B.bytes
  have hts := atoms_spec (ws := wsX5_part) B.pre
  have htg : ∀ w ∈ wG, w.before _ s = true := fun w h => hts w (List.mem_cons_of_mem _ h)
  have hown : s.vm.findClass RX5 = some m.cls := findClass_of_methodNamed B.named
  have hlocks := B.notSynchronized
  have hnoh : ∀ x ∈ c.exceptionTable.toList, False := fun x hx9 => by
    have h9 := B.noHandlers (hts _ List.mem_cons_self)
    rw [Array.isEmpty_iff.mp h9] at hx9
    cases hx9
  subst hsz
  have hl := lv_entry ([.ref (a 0), .int (nI n), .int t1, .int t2]) (n := 4) (Nat.le_of_ble_eq_true rfl)
  rw [lg_entry_eq]
  generalize (lg_sl ([.ref (a 0), .int (nI n), .int t1, .int t2]) ++ List.replicate (4 - (lg_sl ([.ref (a 0), .int (nI n), .int t1, .int t2])).length) Slot.unset).toArray = ls at hl ⊢
  have hl : lv_has ls 4 [(0, .ref (a 0)), (1, .int (nI n)), (2, .int t1), (3, .int t2)] := hl
  refine lv_aload_n hx hb dX5_part_0 rfl (lv_at hl 0 rfl) ?_
  refine lv_iload_n hx hb dX5_part_1 rfl (lv_at hl 1 rfl) ?_
  refine va_csv (W.runV (As := [.int (nI n)]) (rest := []) ⟨hx, hb, hml, hown, hts⟩ (c_X5_checkSlot l dC dI a k u h20 n hn) (cwV 1 hts (wG_V wG_c q_434 q_436 p_5 q_1 q_437) rfl rfl rfl (by decide +kernel) ⟨Nat.le_of_ble_eq_true rfl, Nat.le_of_ble_eq_true rfl⟩) (w_roV hK hP (ci := 5) (q0 := 0) rfl (wC_g0 a k _) rfl) rfl rfl hl.1 rfl (lv_room (Nat.le_of_ble_eq_true rfl)) dX5_part_2 ⟨Nat.le_of_ble_eq_true rfl, Nat.le_of_ble_eq_true rfl⟩) (fun _ => ?_)
  refine lv_aload_n hx hb dX5_part_5 rfl (lv_at hl 0 rfl) ?_
  refine lv_iload_n hx hb dX5_part_6 rfl (lv_at hl 1 rfl) ?_
  refine XW.callV (As := [.int (nI n)]) (rest := []) ⟨hx, hb, hml, hown, hts⟩ (x_X5_checkThere l dC dI a k u _ hst n (by omega) ht) (cwV 1 hts (wG_V wG_c q_439 q_441 p_6 q_1 q_442) rfl rfl rfl (by decide +kernel) ⟨Nat.le_of_ble_eq_true rfl, Nat.le_of_ble_eq_true rfl⟩) (w_pxV hK hP hX (ci := 5) (q0 := 0) rfl (wC_g0 a k _) rfl) rfl hl.1 rfl (Nat.le_of_ble_eq_true rfl) dX5_part_7 ⟨Nat.le_of_ble_eq_true rfl, Nat.le_of_ble_eq_true rfl⟩ (fun q9 st9 t9 H9 L9 h0 hfc ht9 _ hxc hL9 => ?_)
  exact x_on (fun x h9 => (hnoh x h9).elim) hlocks h0 hfc ht9 hxc hL9 (Nat.le_refl _) (Nat.le_refl _)
set_option maxHeartbeats 4000000 in
set_option maxRecDepth 100000 in
theorem c_X5_hold (l : Launch) (dC : Nat → ClassId) (dI : Nat → Nat → Nat) (a : Nat → Nat) (k : c_K) (u : c_St) (sz : Nat) (i : Nat) (hi : i ≤ 49) (on : Bool) (hn : cu_B u 3 i ≠ on) : Met l yX5_hold wsX5_hold ({ frames := 1, cells := 0, slots := 0, locals := 20 }) (va_Pc [.ref (a 0), .int (nI i), .int (bI on)] (w_mu (dC, dI) vwCl (wC a k u) (tC k) sz)) (va_Qv (fun (u1 : c_St) => u1 = cs_B u 3 i on) (w_at (dC, dI) vwCl (wC a k) (tC k) (va_A (wC a k u) sz)) (va_A (wC a k u) sz)) 0 0 (va_A (wC a k u) sz) := by
  refine Met.ofW (cc := cX5_hold) (maxL := 3) (ret := none) (by decide) rfl ?_
  intro p e s m args below meth c s₁ B hml hv
  obtain ⟨rfl, hsz, hP, hK, hD0⟩ := hv
  have hx := B.exec
  have hb := B.bytes
  have hr := B.returns
  have hts := atoms_spec (ws := wsX5_hold) B.pre
  have htg : ∀ w ∈ wG, w.before _ s = true := fun w h => hts w (List.mem_cons_of_mem _ h)
  have hown : s.vm.findClass RX5 = some m.cls := findClass_of_methodNamed B.named
  have hlocks := B.notSynchronized
  subst hsz
  have hD := hD0.self (sz := s.heap.size)
  generalize hAe : va_A (wC a k u) s.heap.size = A at hD ⊢
  have hA : ∀ q : Nat, s.heap.size ≤ q → A q := fun q h => by rw [← hAe]; exact Or.inr h
  have hS : va_S A s.heap s.heap [] := va_S.rf
  have hl := lv_entry ([.ref (a 0), .int (nI i), .int (bI on)]) (n := 3) (Nat.le_of_ble_eq_true rfl)
  rw [lg_entry_eq]
  generalize (lg_sl ([.ref (a 0), .int (nI i), .int (bI on)]) ++ List.replicate (3 - (lg_sl ([.ref (a 0), .int (nI i), .int (bI on)])).length) Slot.unset).toArray = ls at hl ⊢
  have hl : lv_has ls 3 [(0, .ref (a 0)), (1, .int (nI i)), (2, .int (bI on))] := hl
  refine lv_iload_n hx hb dX5_hold_0 rfl (lv_at hl 1 rfl) ?_
  refine va_csv (W.runS (As := [.int (nI i)]) (rest := []) ⟨hx, hb, hml, hown, hts⟩ (c_X5_checkIncident l dC dI a k u i hi) (cwS 1 hts (wG_S wG_c q_317 q_318 q_1 q_319) rfl rfl rfl (by decide +kernel) ⟨Nat.le_of_ble_eq_true rfl, Nat.le_of_ble_eq_true rfl⟩) (w_roS hK hP) rfl rfl hl.1 rfl (lv_room (Nat.le_of_ble_eq_true rfl)) dX5_hold_1 ⟨Nat.le_of_ble_eq_true rfl, Nat.le_of_ble_eq_true rfl⟩) (fun _ => ?_)
  refine lv_aload_n hx hb dX5_hold_4 rfl (lv_at hl 0 rfl) ?_
  refine va_get (D := (dC, dI)) (ci := 5) (v := .ref (a 6)) (C := RX5) (T := TX5) (N := 6) hx hb htg inX5 hown hK hP 0 (wC_g0 a k _) rfl 5 (by decide) (htg _ q_165) (fun _ h9 => h9) rfl dX5_hold_5 ?_
  refine lv_iload_n hx hb dX5_hold_8 rfl (lv_at hl 1 rfl) ?_
  refine va_zald hx hb hK hP 6 2 (wC_g6 a k _) rfl (vp_in_nI (n := i) (N := 50) (show i < 50 by omega) (by decide)) dX5_hold_9 ?_
  refine wtopi (bI (cu_B u 3 i)) (congrArg (fun j9 => bI (cu_B u 3 j9)) (nI_clamp (n := i) (Nat.lt_trans (m := 50) (show i < 50 by omega) (by decide)))) ?_
  refine lv_iload_n hx hb dX5_hold_10 rfl (lv_at hl 2 rfl) ?_
  refine lv_icmp_ne (tgt := 24) hx hb dX5_hold_11 (by decide) (fun c_11 => ?_) (fun c_11 => ?_)
  · refine lv_aload_n hx hb dX5_hold_24 rfl (lv_at hl 0 rfl) ?_
    refine va_get (D := (dC, dI)) (ci := 5) (v := .ref (a 6)) (C := RX5) (T := TX5) (N := 6) hx hb htg inX5 hown hK hP 0 (wC_g0 a k _) rfl 5 (by decide) (htg _ q_165) (fun _ h9 => h9) rfl dX5_hold_25 ?_
    refine lv_iload_n hx hb dX5_hold_28 rfl (lv_at hl 1 rfl) ?_
    refine lv_iload_n hx hb dX5_hold_29 rfl (lv_at hl 2 rfl) ?_
    refine va_zast hx hb hK hP hD hS 6 2 (wC_g6 a k _) rfl (vp_in_nI (n := i) (N := 50) (show i < 50 by omega) (by decide)) dX5_hold_30 (fun H locs hP hD hS => ?_)
    have hP := w_pE (wC_s6 a k _ i on (Nat.lt_trans (m := 50) (show i < 50 by omega) (by decide))) hP
    have hD := w_dE (wC_s6 a k _ i on (Nat.lt_trans (m := 50) (show i < 50 by omega) (by decide))) hD
    exact W.vret hx hb hr (fun t9 ht9 hW9 => ⟨⟨cs_B u 3 i on, rfl, rfl, by rw [ht9]; exact hP, va_K.moved hW9.alike hK, hD⟩, hS.F ht9⟩) hS.2.2 dX5_hold_31
  · exact absurd (bI_inj.mp c_11) hn
set_option maxHeartbeats 4000000 in
set_option maxRecDepth 100000 in
theorem x_X5_hold_1 (l : Launch) (dC : Nat → ClassId) (dI : Nat → Nat → Nat) (a : Nat → Nat) (k : c_K) (u : c_St) (sz : Nat) (hst : l.stackTraces = false) (p0 : Int32) (on : Bool) (hb9 : inR p0 0 49 = false) : XMet l yX5_hold wsX5_hold ({ frames := 7, cells := 1, slots := 6, locals := 102 }) (va_Pc [.ref (a 0), .int p0, .int (bI on)] (w_px (dC, dI) vwCl (wC a k u) (tC k) sz)) (x_C eIAE sz) 1 6 (va_A [] sz) := by
  refine XMet.ofW (cc := cX5_hold) (maxL := 3) (ret := none) (by decide) rfl ?_
  intro p e s m args below meth c s₁ B hml hv
  obtain ⟨rfl, hsz, hP, hK, hX⟩ := hv
  have hx := B.exec
  have hb := B.bytes
  have hts := atoms_spec (ws := wsX5_hold) B.pre
  have htg : ∀ w ∈ wG, w.before _ s = true := fun w h => hts w (List.mem_cons_of_mem _ h)
  have hown : s.vm.findClass RX5 = some m.cls := findClass_of_methodNamed B.named
  have hlocks := B.notSynchronized
  have hnoh : ∀ x ∈ c.exceptionTable.toList, False := fun x hx9 => by
    have h9 := B.noHandlers (hts _ List.mem_cons_self)
    rw [Array.isEmpty_iff.mp h9] at hx9
    cases hx9
  subst hsz
  have hl := lv_entry ([.ref (a 0), .int p0, .int (bI on)]) (n := 3) (Nat.le_of_ble_eq_true rfl)
  rw [lg_entry_eq]
  generalize (lg_sl ([.ref (a 0), .int p0, .int (bI on)]) ++ List.replicate (3 - (lg_sl ([.ref (a 0), .int p0, .int (bI on)])).length) Slot.unset).toArray = ls at hl ⊢
  have hl : lv_has ls 3 [(0, .ref (a 0)), (1, .int p0), (2, .int (bI on))] := hl
  refine lv_iload_n hx hb dX5_hold_0 rfl (lv_at hl 1 rfl) ?_
  refine XW.callS (As := [.int p0]) (rest := []) ⟨hx, hb, hml, hown, hts⟩ (x_X5_checkIncident l dC dI a k u _ hst p0 hb9) (cwS 1 hts (wG_S wG_c q_317 q_318 q_1 q_319) rfl rfl rfl (by decide +kernel) ⟨Nat.le_of_ble_eq_true rfl, Nat.le_of_ble_eq_true rfl⟩) (w_pxS hK hP hX) rfl hl.1 rfl (Nat.le_of_ble_eq_true rfl) dX5_hold_1 ⟨Nat.le_of_ble_eq_true rfl, Nat.le_of_ble_eq_true rfl⟩ (fun q9 st9 t9 H9 L9 h0 hfc ht9 _ hxc hL9 => ?_)
  exact x_on (fun x h9 => (hnoh x h9).elim) hlocks h0 hfc ht9 hxc hL9 (Nat.le_refl _) (Nat.le_refl _)
set_option maxHeartbeats 4000000 in
set_option maxRecDepth 100000 in
theorem x_X5_hold_2 (l : Launch) (dC : Nat → ClassId) (dI : Nat → Nat → Nat) (a : Nat → Nat) (k : c_K) (u : c_St) (sz : Nat) (hst : l.stackTraces = false) (i : Nat) (hi : i ≤ 49) (on : Bool) (hn : cu_B u 3 i = on) : XMet l yX5_hold wsX5_hold ({ frames := 6, cells := 1, slots := 6, locals := 82 }) (va_Pc [.ref (a 0), .int (nI i), .int (bI on)] (w_px (dC, dI) vwCl (wC a k u) (tC k) sz)) (x_C eISE sz) 1 6 (va_A [] sz) := by
  refine XMet.ofW (cc := cX5_hold) (maxL := 3) (ret := none) (by decide) rfl ?_
  intro p e s m args below meth c s₁ B hml hv
  obtain ⟨rfl, hsz, hP, hK, hX⟩ := hv
  have hx := B.exec
  have hb := B.bytes
  have hts := atoms_spec (ws := wsX5_hold) B.pre
  have htg : ∀ w ∈ wG, w.before _ s = true := fun w h => hts w (List.mem_cons_of_mem _ h)
  have hown : s.vm.findClass RX5 = some m.cls := findClass_of_methodNamed B.named
  have hlocks := B.notSynchronized
  have hnoh : ∀ x ∈ c.exceptionTable.toList, False := fun x hx9 => by
    have h9 := B.noHandlers (hts _ List.mem_cons_self)
    rw [Array.isEmpty_iff.mp h9] at hx9
    cases hx9
  subst hsz
  have hl := lv_entry ([.ref (a 0), .int (nI i), .int (bI on)]) (n := 3) (Nat.le_of_ble_eq_true rfl)
  rw [lg_entry_eq]
  generalize (lg_sl ([.ref (a 0), .int (nI i), .int (bI on)]) ++ List.replicate (3 - (lg_sl ([.ref (a 0), .int (nI i), .int (bI on)])).length) Slot.unset).toArray = ls at hl ⊢
  have hl : lv_has ls 3 [(0, .ref (a 0)), (1, .int (nI i)), (2, .int (bI on))] := hl
  refine lv_iload_n hx hb dX5_hold_0 rfl (lv_at hl 1 rfl) ?_
  refine va_csv (W.runS (As := [.int (nI i)]) (rest := []) ⟨hx, hb, hml, hown, hts⟩ (c_X5_checkIncident l dC dI a k u i hi) (cwS 1 hts (wG_S wG_c q_317 q_318 q_1 q_319) rfl rfl rfl (by decide +kernel) ⟨Nat.le_of_ble_eq_true rfl, Nat.le_of_ble_eq_true rfl⟩) (w_roS hK hP) rfl rfl hl.1 rfl (lv_room (Nat.le_of_ble_eq_true rfl)) dX5_hold_1 ⟨Nat.le_of_ble_eq_true rfl, Nat.le_of_ble_eq_true rfl⟩) (fun _ => ?_)
  refine lv_aload_n hx hb dX5_hold_4 rfl (lv_at hl 0 rfl) ?_
  refine va_get (D := (dC, dI)) (ci := 5) (v := .ref (a 6)) (C := RX5) (T := TX5) (N := 6) hx hb htg inX5 hown hK hP 0 (wC_g0 a k _) rfl 5 (by decide) (htg _ q_165) (fun _ h9 => h9) rfl dX5_hold_5 ?_
  refine lv_iload_n hx hb dX5_hold_8 rfl (lv_at hl 1 rfl) ?_
  refine va_zald hx hb hK hP 6 2 (wC_g6 a k _) rfl (vp_in_nI (n := i) (N := 50) (show i < 50 by omega) (by decide)) dX5_hold_9 ?_
  refine wtopi (bI (cu_B u 3 i)) (congrArg (fun j9 => bI (cu_B u 3 j9)) (nI_clamp (n := i) (Nat.lt_trans (m := 50) (show i < 50 by omega) (by decide)))) ?_
  refine lv_iload_n hx hb dX5_hold_10 rfl (lv_at hl 2 rfl) ?_
  refine lv_icmp_ne (tgt := 24) hx hb dX5_hold_11 (by decide) (fun c_11 => ?_) (fun c_11 => ?_)
  · exact absurd (bI_inj.mpr hn) c_11
  · exact x_throw (E := eISE) (text := "the hold is so already") (A := va_A [] s.heap.size) hx hb hst hown (by decide +kernel) htg hX own_ISE q_443 q_444 q_15 (by decide +kernel) va_S.rf (hl.1.trans hml.symm) dX5_hold_14 dX5_hold_17 dX5_hold_18 dX5_hold_20 dX5_hold_23 (fun x h9 => (hnoh x h9).elim) (Nat.le_of_ble_eq_true rfl) (Nat.le_of_ble_eq_true rfl) (Nat.le_of_ble_eq_true rfl) (Nat.le_of_ble_eq_true rfl) hlocks (fun q9 t9 ce9 _ z1 z2 z3 z4 z5 => ⟨⟨ce9, z3, z4, z5⟩, z1, fun z z6 _ => z2 z z6⟩) (fun _ h9 => by cases h9) (Nat.le_refl _) (Nat.le_refl _)
set_option maxHeartbeats 4000000 in
set_option maxRecDepth 100000 in
theorem c_X5_right (l : Launch) (dC : Nat → ClassId) (dI : Nat → Nat → Nat) (a : Nat → Nat) (k : c_K) (u : c_St) (sz : Nat) (ps ic : Nat) (hp : ps ≤ 19) (hi : ic ≤ 49) (on : Bool) : Met l yX5_right wsX5_right ({ frames := 1, cells := 0, slots := 0, locals := 23 }) (va_Pc [.ref (a 0), .int (nI ps), .int (nI ic), .int (bI on)] (w_mu (dC, dI) vwCl (wC a k u) (tC k) sz)) (va_Qv (fun (u1 : c_St) => u1 = cs_B u 2 (ps * 50 + ic) on) (w_at (dC, dI) vwCl (wC a k) (tC k) (va_A (wC a k u) sz)) (va_A (wC a k u) sz)) 0 0 (va_A (wC a k u) sz) := by
  refine Met.ofW (cc := cX5_right) (maxL := 4) (ret := none) (by decide) rfl ?_
  intro p e s m args below meth c s₁ B hml hv
  obtain ⟨rfl, hsz, hP, hK, hD0⟩ := hv
  have hx := B.exec
  have hb := B.bytes
  have hr := B.returns
  have hts := atoms_spec (ws := wsX5_right) B.pre
  have htg : ∀ w ∈ wG, w.before _ s = true := fun w h => hts w (List.mem_cons_of_mem _ h)
  have hown : s.vm.findClass RX5 = some m.cls := findClass_of_methodNamed B.named
  have hlocks := B.notSynchronized
  subst hsz
  have hD := hD0.self (sz := s.heap.size)
  generalize hAe : va_A (wC a k u) s.heap.size = A at hD ⊢
  have hA : ∀ q : Nat, s.heap.size ≤ q → A q := fun q h => by rw [← hAe]; exact Or.inr h
  have hS : va_S A s.heap s.heap [] := va_S.rf
  have hl := lv_entry ([.ref (a 0), .int (nI ps), .int (nI ic), .int (bI on)]) (n := 4) (Nat.le_of_ble_eq_true rfl)
  rw [lg_entry_eq]
  generalize (lg_sl ([.ref (a 0), .int (nI ps), .int (nI ic), .int (bI on)]) ++ List.replicate (4 - (lg_sl ([.ref (a 0), .int (nI ps), .int (nI ic), .int (bI on)])).length) Slot.unset).toArray = ls at hl ⊢
  have hl : lv_has ls 4 [(0, .ref (a 0)), (1, .int (nI ps)), (2, .int (nI ic)), (3, .int (bI on))] := hl
  refine lv_iload_n hx hb dX5_right_0 rfl (lv_at hl 1 rfl) ?_
  refine va_csv (W.runS (As := [.int (nI ps)]) (rest := []) ⟨hx, hb, hml, hown, hts⟩ (c_X5_checkPerson l dC dI a k u ps hp) (cwS 1 hts (wG_S wG_c q_514 q_515 q_1 q_516) rfl rfl rfl (by decide +kernel) ⟨Nat.le_of_ble_eq_true rfl, Nat.le_of_ble_eq_true rfl⟩) (w_roS hK hP) rfl rfl hl.1 rfl (lv_room (Nat.le_of_ble_eq_true rfl)) dX5_right_1 ⟨Nat.le_of_ble_eq_true rfl, Nat.le_of_ble_eq_true rfl⟩) (fun _ => ?_)
  refine lv_iload_n hx hb dX5_right_4 rfl (lv_at hl 2 rfl) ?_
  refine va_csv (W.runS (As := [.int (nI ic)]) (rest := []) ⟨hx, hb, hml, hown, hts⟩ (c_X5_checkIncident l dC dI a k u ic hi) (cwS 1 hts (wG_S wG_c q_317 q_318 q_1 q_319) rfl rfl rfl (by decide +kernel) ⟨Nat.le_of_ble_eq_true rfl, Nat.le_of_ble_eq_true rfl⟩) (w_roS hK hP) rfl rfl hl.1 rfl (lv_room (Nat.le_of_ble_eq_true rfl)) dX5_right_5 ⟨Nat.le_of_ble_eq_true rfl, Nat.le_of_ble_eq_true rfl⟩) (fun _ => ?_)
  refine lv_aload_n hx hb dX5_right_8 rfl (lv_at hl 0 rfl) ?_
  refine va_get (D := (dC, dI)) (ci := 5) (v := .ref (a 5)) (C := RX5) (T := TX5) (N := 6) hx hb htg inX5 hown hK hP 0 (wC_g0 a k _) rfl 4 (by decide) (htg _ q_164) (fun _ h9 => h9) rfl dX5_right_9 ?_
  refine lv_iload_n hx hb dX5_right_12 rfl (lv_at hl 1 rfl) ?_
  refine lv_iload_n hx hb dX5_right_13 rfl (lv_at hl 2 rfl) ?_
  refine lv_iload_n hx hb dX5_right_14 rfl (lv_at hl 3 rfl) ?_
  refine w_calv (w := wC a k) (va_runV (As := [.int (nI ps), .int (nI ic), .int (bI on)]) (rest := []) ⟨hx, hb, hml, hown, hts⟩ (c_X2_allow l dC dI a k u _ ps ic on (by omega) (by omega)) (cwV 3 hts (wG_V wG_c q_518 q_519 q_520 q_6 q_521) rfl rfl rfl (by decide +kernel) ⟨Nat.le_of_ble_eq_true rfl, Nat.le_of_ble_eq_true rfl⟩) (w_muV hK hP hD (ci := 2) (q0 := 5) rfl (wC_g5 a k _) rfl) rfl rfl hl.1 rfl (lv_room (Nat.le_of_ble_eq_true rfl)) dX5_right_15 ⟨Nat.le_of_ble_eq_true rfl, Nat.le_of_ble_eq_true rfl⟩) hD hS hA (fun u_1 H locs hq_1 hP hD hS => ?_)
  subst hq_1
  exact W.vret hx hb hr (fun t9 ht9 hW9 => ⟨⟨cs_B u 2 (ps * 50 + ic) on, rfl, rfl, by rw [ht9]; exact hP, va_K.moved hW9.alike hK, hD⟩, hS.F ht9⟩) hS.2.2 dX5_right_18
set_option maxHeartbeats 4000000 in
set_option maxRecDepth 100000 in
theorem x_X5_right_1 (l : Launch) (dC : Nat → ClassId) (dI : Nat → Nat → Nat) (a : Nat → Nat) (k : c_K) (u : c_St) (sz : Nat) (hst : l.stackTraces = false) (p0 p1 : Int32) (on : Bool) (hb9 : inR p0 0 19 = false) : XMet l yX5_right wsX5_right ({ frames := 7, cells := 1, slots := 6, locals := 102 }) (va_Pc [.ref (a 0), .int p0, .int p1, .int (bI on)] (w_px (dC, dI) vwCl (wC a k u) (tC k) sz)) (x_C eIAE sz) 1 6 (va_A [] sz) := by
  refine XMet.ofW (cc := cX5_right) (maxL := 4) (ret := none) (by decide) rfl ?_
  intro p e s m args below meth c s₁ B hml hv
  obtain ⟨rfl, hsz, hP, hK, hX⟩ := hv
  have hx := B.exec
  have hb := B.bytes
  have hts := atoms_spec (ws := wsX5_right) B.pre
  have htg : ∀ w ∈ wG, w.before _ s = true := fun w h => hts w (List.mem_cons_of_mem _ h)
  have hown : s.vm.findClass RX5 = some m.cls := findClass_of_methodNamed B.named
  have hlocks := B.notSynchronized
  have hnoh : ∀ x ∈ c.exceptionTable.toList, False := fun x hx9 => by
    have h9 := B.noHandlers (hts _ List.mem_cons_self)
    rw [Array.isEmpty_iff.mp h9] at hx9
    cases hx9
  subst hsz
  have hl := lv_entry ([.ref (a 0), .int p0, .int p1, .int (bI on)]) (n := 4) (Nat.le_of_ble_eq_true rfl)
  rw [lg_entry_eq]
  generalize (lg_sl ([.ref (a 0), .int p0, .int p1, .int (bI on)]) ++ List.replicate (4 - (lg_sl ([.ref (a 0), .int p0, .int p1, .int (bI on)])).length) Slot.unset).toArray = ls at hl ⊢
  have hl : lv_has ls 4 [(0, .ref (a 0)), (1, .int p0), (2, .int p1), (3, .int (bI on))] := hl
  refine lv_iload_n hx hb dX5_right_0 rfl (lv_at hl 1 rfl) ?_
  refine XW.callS (As := [.int p0]) (rest := []) ⟨hx, hb, hml, hown, hts⟩ (x_X5_checkPerson l dC dI a k u _ hst p0 hb9) (cwS 1 hts (wG_S wG_c q_514 q_515 q_1 q_516) rfl rfl rfl (by decide +kernel) ⟨Nat.le_of_ble_eq_true rfl, Nat.le_of_ble_eq_true rfl⟩) (w_pxS hK hP hX) rfl hl.1 rfl (Nat.le_of_ble_eq_true rfl) dX5_right_1 ⟨Nat.le_of_ble_eq_true rfl, Nat.le_of_ble_eq_true rfl⟩ (fun q9 st9 t9 H9 L9 h0 hfc ht9 _ hxc hL9 => ?_)
  exact x_on (fun x h9 => (hnoh x h9).elim) hlocks h0 hfc ht9 hxc hL9 (Nat.le_refl _) (Nat.le_refl _)
set_option maxHeartbeats 4000000 in
set_option maxRecDepth 100000 in
theorem x_X5_right_2 (l : Launch) (dC : Nat → ClassId) (dI : Nat → Nat → Nat) (a : Nat → Nat) (k : c_K) (u : c_St) (sz : Nat) (hst : l.stackTraces = false) (ps : Nat) (hp : ps ≤ 19) (p1 : Int32) (on : Bool) (hb9 : inR p1 0 49 = false) : XMet l yX5_right wsX5_right ({ frames := 7, cells := 1, slots := 6, locals := 102 }) (va_Pc [.ref (a 0), .int (nI ps), .int p1, .int (bI on)] (w_px (dC, dI) vwCl (wC a k u) (tC k) sz)) (x_C eIAE sz) 1 6 (va_A [] sz) := by
  refine XMet.ofW (cc := cX5_right) (maxL := 4) (ret := none) (by decide) rfl ?_
  intro p e s m args below meth c s₁ B hml hv
  obtain ⟨rfl, hsz, hP, hK, hX⟩ := hv
  have hx := B.exec
  have hb := B.bytes
  have hts := atoms_spec (ws := wsX5_right) B.pre
  have htg : ∀ w ∈ wG, w.before _ s = true := fun w h => hts w (List.mem_cons_of_mem _ h)
  have hown : s.vm.findClass RX5 = some m.cls := findClass_of_methodNamed B.named
  have hlocks := B.notSynchronized
  have hnoh : ∀ x ∈ c.exceptionTable.toList, False := fun x hx9 => by
    have h9 := B.noHandlers (hts _ List.mem_cons_self)
    rw [Array.isEmpty_iff.mp h9] at hx9
    cases hx9
  subst hsz
  have hl := lv_entry ([.ref (a 0), .int (nI ps), .int p1, .int (bI on)]) (n := 4) (Nat.le_of_ble_eq_true rfl)
  rw [lg_entry_eq]
  generalize (lg_sl ([.ref (a 0), .int (nI ps), .int p1, .int (bI on)]) ++ List.replicate (4 - (lg_sl ([.ref (a 0), .int (nI ps), .int p1, .int (bI on)])).length) Slot.unset).toArray = ls at hl ⊢
  have hl : lv_has ls 4 [(0, .ref (a 0)), (1, .int (nI ps)), (2, .int p1), (3, .int (bI on))] := hl
  refine lv_iload_n hx hb dX5_right_0 rfl (lv_at hl 1 rfl) ?_
  refine va_csv (W.runS (As := [.int (nI ps)]) (rest := []) ⟨hx, hb, hml, hown, hts⟩ (c_X5_checkPerson l dC dI a k u ps hp) (cwS 1 hts (wG_S wG_c q_514 q_515 q_1 q_516) rfl rfl rfl (by decide +kernel) ⟨Nat.le_of_ble_eq_true rfl, Nat.le_of_ble_eq_true rfl⟩) (w_roS hK hP) rfl rfl hl.1 rfl (lv_room (Nat.le_of_ble_eq_true rfl)) dX5_right_1 ⟨Nat.le_of_ble_eq_true rfl, Nat.le_of_ble_eq_true rfl⟩) (fun _ => ?_)
  refine lv_iload_n hx hb dX5_right_4 rfl (lv_at hl 2 rfl) ?_
  refine XW.callS (As := [.int p1]) (rest := []) ⟨hx, hb, hml, hown, hts⟩ (x_X5_checkIncident l dC dI a k u _ hst p1 hb9) (cwS 1 hts (wG_S wG_c q_317 q_318 q_1 q_319) rfl rfl rfl (by decide +kernel) ⟨Nat.le_of_ble_eq_true rfl, Nat.le_of_ble_eq_true rfl⟩) (w_pxS hK hP hX) rfl hl.1 rfl (Nat.le_of_ble_eq_true rfl) dX5_right_5 ⟨Nat.le_of_ble_eq_true rfl, Nat.le_of_ble_eq_true rfl⟩ (fun q9 st9 t9 H9 L9 h0 hfc ht9 _ hxc hL9 => ?_)
  exact x_on (fun x h9 => (hnoh x h9).elim) hlocks h0 hfc ht9 hxc hL9 (Nat.le_refl _) (Nat.le_refl _)
