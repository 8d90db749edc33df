set_option maxHeartbeats 4000000 in
set_option maxRecDepth 100000 in
theorem r_sum_0 (l : Launch) (dC : Nat → ClassId) (dI : Nat → Nat → Nat) (a : Nat → Nat) (k : c_K) (u : c_St) (o : Nat) (f : Nat → Int64) (sz : Nat) (hst : l.stackTraces = false)  (h : c_ok u) (n : Nat) (hn : n < cu_N u 0) (ht : cu_B u 0 n = true) (post : Int32 → c_X → Prop) (hpost : ∀ g : Nat → Int64, g 0 = (c_now u n).toInt64 → post 0 (u, g)) : Met l yL_sum wsL_sum ({ frames := 8, cells := 1, slots := 6, locals := 150 }) (va_Pc [.ref (a 0), .int (nI n), .ref o] (w_wr (dC, dI) vwCl (wL a o k (u, f)) (tC k) sz)) (va_Qi post (w_at (dC, dI) vwCl (wL a o k) (tC k) (va_A (wL a o k (u, f)) sz)) (va_A (wL a o k (u, f)) sz)) 1 6 (va_A (wL a o k (u, f)) sz) := by
  refine va_MetW (cc := cL_sum) (maxL := 4) (ret := (some .int)) (by decide) rfl ?_
  intro p e s m args below meth c s₁ B hml hv
  obtain ⟨rfl, ⟨hsz, hP, hK, hD0, hX⟩, hNC⟩ := hv
  have hx := B.exec
  have hb := B.bytes
  have hr := B.returns
  have hts := atoms_spec (ws := wsL_sum) B.pre
  have htg : ∀ w ∈ wG, w.before _ s = true := fun w h => hts w (List.mem_cons_of_mem _ h)
  have hown : s.vm.findClass RL = some m.cls := findClass_of_methodNamed B.named
  have hlocks := B.notSynchronized
  have htab := x_tab B (hts _ List.mem_cons_self)
  subst hsz
  have hX0 : w_x (va_A [] s.heap.size) s s.heap := hX.narrow (fun q h => Or.inr (va_A0.mp h))
  have hX1 : w_x (va_A (wC a k u) s.heap.size) s s.heap := hX.narrow (fun q h => va_Al h)
  have hP : va_P (dC, dI) vwCl (wC a k u ++ wO o k f) s.heap := hP
  have hD : va_D (va_A (wL a o k (u, f)) s.heap.size) (wC a k u ++ wO o k f) := hD0.self (sz := s.heap.size)
  have hAw : ∀ q, va_A (wC a k u) s.heap.size q → va_A (wL a o k (u, f)) s.heap.size q := fun q h => va_Al h
  generalize hAe : va_A (wL a o k (u, f)) s.heap.size = A at hD hAw ⊢
  have hA : ∀ q : Nat, s.heap.size ≤ q → A q := fun q h => by rw [← hAe]; exact Or.inr h
  have hS : va_S A s.heap s.heap [] := va_S.rf
  have hl := lv_entry ([.ref (a 0), .int (nI n), .ref o]) (n := 4) (Nat.le_of_ble_eq_true rfl)
  rw [lg_entry_eq]
  generalize (lg_sl ([.ref (a 0), .int (nI n), .ref o]) ++ List.replicate (4 - (lg_sl ([.ref (a 0), .int (nI n), .ref o])).length) Slot.unset).toArray = ls at hl ⊢
  have hl : lv_has ls 4 [(0, .ref (a 0)), (1, .int (nI n)), (2, .ref o)] := hl
  refine x_more (mc := 0) (ms := 0) (Nat.le_of_ble_eq_true rfl) (Nat.le_of_ble_eq_true rfl) ?_
  refine lv_aload_n hx hb dL_sum_0 rfl (lv_at hl 2 rfl) ?_
  refine lv_iconst (v := 0) hx hb dL_sum_1 (by decide) ?_
  refine lv_aload_n hx hb dL_sum_2 rfl (lv_at hl 0 rfl) ?_
  refine lv_iload_n hx hb dL_sum_3 rfl (lv_at hl 1 rfl) ?_
  refine vp_callSi (W.runV (As := [.int (nI n)]) (rest := [.int 0, .ref o]) ⟨hx, hb, hml, hown, hts⟩ (c_X5_sum l dC dI a k u h n hn ht) (cwV 1 hts (wG_V wG_c q_463 q_464 q_465 q_1 q_466) rfl rfl rfl (by decide +kernel) ⟨Nat.le_of_ble_eq_true rfl, Nat.le_of_ble_eq_true rfl⟩) (w_roV hK (w_Pl hP) (ci := 5) (q0 := 0) rfl (wC_g0 a k _) rfl) rfl rfl hl.1 rfl (lv_room (Nat.le_of_ble_eq_true rfl)) dL_sum_4 ⟨Nat.le_of_ble_eq_true rfl, Nat.le_of_ble_eq_true rfl⟩) (fun r9 hr9 => ?_)
  subst hr9
  refine lv_i2l hx hb dL_sum_7 rfl ?_
  refine va_last hx hb hK hP hD hS 26 1 (cA := k.2.1) (n := 1) rfl rfl (i := 0) vp_in01 dL_sum_8 (fun H locs hP hD hS => ?_)
  have hP := w_pE (wL_s26 a o k _ _ _) hP
  have hD := w_dE (wL_s26 a o k _ _ _) hD
  refine lv_goto (tgt := 18) hx hb dL_sum_9 (by decide) ?_
  refine lv_iconst (v := 0) hx hb dL_sum_18 (by decide) ?_
  exact W.iret (v := 0) hx hb hr (fun t9 ht9 hW9 => ⟨⟨_, (u, vp_updL f (0 : Int32).toNatClampNeg ((c_now u n).toInt64)), rfl, hpost _ (wO_0 f _), by rw [ht9]; exact hP, va_K.moved hW9.alike hK, hD⟩, hS.F ht9⟩) hS.2.2 dL_sum_19
set_option maxHeartbeats 4000000 in
set_option maxRecDepth 100000 in
theorem r_sum_1 (l : Launch) (dC : Nat → ClassId) (dI : Nat → Nat → Nat) (a : Nat → Nat) (k : c_K) (u : c_St) (o : Nat) (f : Nat → Int64) (sz : Nat) (hst : l.stackTraces = false)    (h20 : cu_N u 0 ≤ 200) (p0 : Int32) (hb9 : isS (cu_N u 0) p0 = false) (post : Int32 → c_X → Prop) (hpost : post 1 (u, f)) : Met l yL_sum wsL_sum ({ frames := 8, cells := 1, slots := 6, locals := 150 }) (va_Pc [.ref (a 0), .int p0, .ref o] (w_wr (dC, dI) vwCl (wL a o k (u, f)) (tC k) sz)) (va_Qi post (w_at (dC, dI) vwCl (wL a o k) (tC k) (va_A (wL a o k (u, f)) sz)) (va_A (wL a o k (u, f)) sz)) 1 6 (va_A (wL a o k (u, f)) sz) := by
  refine va_MetW (cc := cL_sum) (maxL := 4) (ret := (some .int)) (by decide) rfl ?_
  intro p e s m args below meth c s₁ B hml hv
  obtain ⟨rfl, ⟨hsz, hP, hK, hD0, hX⟩, hNC⟩ := hv
  have hx := B.exec
  have hb := B.bytes
  have hr := B.returns
  have hts := atoms_spec (ws := wsL_sum) B.pre
  have htg : ∀ w ∈ wG, w.before _ s = true := fun w h => hts w (List.mem_cons_of_mem _ h)
  have hown : s.vm.findClass RL = some m.cls := findClass_of_methodNamed B.named
  have hlocks := B.notSynchronized
  have htab := x_tab B (hts _ List.mem_cons_self)
  subst hsz
  have hX0 : w_x (va_A [] s.heap.size) s s.heap := hX.narrow (fun q h => Or.inr (va_A0.mp h))
  have hX1 : w_x (va_A (wC a k u) s.heap.size) s s.heap := hX.narrow (fun q h => va_Al h)
  have hP : va_P (dC, dI) vwCl (wC a k u ++ wO o k f) s.heap := hP
  have hD : va_D (va_A (wL a o k (u, f)) s.heap.size) (wC a k u ++ wO o k f) := hD0.self (sz := s.heap.size)
  have hAw : ∀ q, va_A (wC a k u) s.heap.size q → va_A (wL a o k (u, f)) s.heap.size q := fun q h => va_Al h
  generalize hAe : va_A (wL a o k (u, f)) s.heap.size = A at hD hAw ⊢
  have hA : ∀ q : Nat, s.heap.size ≤ q → A q := fun q h => by rw [← hAe]; exact Or.inr h
  have hS : va_S A s.heap s.heap [] := va_S.rf
  have hl := lv_entry ([.ref (a 0), .int p0, .ref o]) (n := 4) (Nat.le_of_ble_eq_true rfl)
  rw [lg_entry_eq]
  generalize (lg_sl ([.ref (a 0), .int p0, .ref o]) ++ List.replicate (4 - (lg_sl ([.ref (a 0), .int p0, .ref o])).length) Slot.unset).toArray = ls at hl ⊢
  have hl : lv_has ls 4 [(0, .ref (a 0)), (1, .int p0), (2, .ref o)] := hl
  refine lv_aload_n hx hb dL_sum_0 rfl (lv_at hl 2 rfl) ?_
  refine lv_iconst (v := 0) hx hb dL_sum_1 (by decide) ?_
  refine lv_aload_n hx hb dL_sum_2 rfl (lv_at hl 0 rfl) ?_
  refine lv_iload_n hx hb dL_sum_3 rfl (lv_at hl 1 rfl) ?_
  refine XW.callV (As := [.int p0]) (rest := [.int 0, .ref o]) ⟨hx, hb, hml, hown, hts⟩ (x_X5_sum_1 l dC dI a k u _ hst h20 p0 hb9) (cwV 1 hts (wG_V wG_c q_463 q_464 q_465 q_1 q_466) rfl rfl rfl (by decide +kernel) ⟨Nat.le_of_ble_eq_true rfl, Nat.le_of_ble_eq_true rfl⟩) (w_pxV hK (w_Pl hP) hX0 (ci := 5) (q0 := 0) rfl (wC_g0 a k _) rfl) rfl hl.1 rfl (Nat.le_of_ble_eq_true rfl) dL_sum_4 ⟨Nat.le_of_ble_eq_true rfl, Nat.le_of_ble_eq_true rfl⟩ (fun q9 st9 t9 H9 L9 h0 hfc ht9 hal9 hxc hL9 => ?_)
  obtain ⟨⟨ce9, k1, k2, k3⟩, hP, hS⟩ := x_back h0 hfc ht9 hxc hL9 hP hA
  refine XW.caught (own := RL) (name := eIAE) (E := eIAE) hown [] (x_en (0, 9, 12, 13)) [(x_en (0, 9, 15, 37))] htab (fun y9 hy9 => by cases hy9) rfl (by decide) (htg _ q_234) (x_cIAE hX0) k1 k2 k3 ?_
  refine lv_astore_n (lv' := [(3, .ref q9), (0, .ref (a 0)), (1, .int p0), (2, .ref o)]) hx hb dL_sum_12 rfl hl (by decide) rfl (fun ls hl => ?_)
  refine lv_iconst (v := 1) hx hb dL_sum_13 (by decide) ?_
  exact W.iret (v := 1) hx hb hr (fun t9 ht9 hW9 => ⟨⟨_, (u, f), rfl, hpost, by rw [ht9]; exact hP, va_K.moved hW9.alike hK, hD⟩, hS.F ht9⟩) hS.2.2 dL_sum_14
set_option maxHeartbeats 4000000 in
set_option maxRecDepth 100000 in
theorem r_sum_2 (l : Launch) (dC : Nat → ClassId) (dI : Nat → Nat → Nat) (a : Nat → Nat) (k : c_K) (u : c_St) (o : Nat) (f : Nat → Int64) (sz : Nat) (hst : l.stackTraces = false)    (h20 : cu_N u 0 ≤ 200) (n : Nat) (hn : n < cu_N u 0) (ht : cu_B u 0 n = false) (post : Int32 → c_X → Prop) (hpost : post 2 (u, f)) : Met l yL_sum wsL_sum ({ frames := 8, cells := 1, slots := 6, locals := 150 }) (va_Pc [.ref (a 0), .int (nI n), .ref o] (w_wr (dC, dI) vwCl (wL a o k (u, f)) (tC k) sz)) (va_Qi post (w_at (dC, dI) vwCl (wL a o k) (tC k) (va_A (wL a o k (u, f)) sz)) (va_A (wL a o k (u, f)) sz)) 1 6 (va_A (wL a o k (u, f)) sz) := by
  refine va_MetW (cc := cL_sum) (maxL := 4) (ret := (some .int)) (by decide) rfl ?_
  intro p e s m args below meth c s₁ B hml hv
  obtain ⟨rfl, ⟨hsz, hP, hK, hD0, hX⟩, hNC⟩ := hv
  have hx := B.exec
  have hb := B.bytes
  have hr := B.returns
  have hts := atoms_spec (ws := wsL_sum) B.pre
  have htg : ∀ w ∈ wG, w.before _ s = true := fun w h => hts w (List.mem_cons_of_mem _ h)
  have hown : s.vm.findClass RL = some m.cls := findClass_of_methodNamed B.named
  have hlocks := B.notSynchronized
  have htab := x_tab B (hts _ List.mem_cons_self)
  subst hsz
  have hX0 : w_x (va_A [] s.heap.size) s s.heap := hX.narrow (fun q h => Or.inr (va_A0.mp h))
  have hX1 : w_x (va_A (wC a k u) s.heap.size) s s.heap := hX.narrow (fun q h => va_Al h)
  have hP : va_P (dC, dI) vwCl (wC a k u ++ wO o k f) s.heap := hP
  have hD : va_D (va_A (wL a o k (u, f)) s.heap.size) (wC a k u ++ wO o k f) := hD0.self (sz := s.heap.size)
  have hAw : ∀ q, va_A (wC a k u) s.heap.size q → va_A (wL a o k (u, f)) s.heap.size q := fun q h => va_Al h
  generalize hAe : va_A (wL a o k (u, f)) s.heap.size = A at hD hAw ⊢
  have hA : ∀ q : Nat, s.heap.size ≤ q → A q := fun q h => by rw [← hAe]; exact Or.inr h
  have hS : va_S A s.heap s.heap [] := va_S.rf
  have hl := lv_entry ([.ref (a 0), .int (nI n), .ref o]) (n := 4) (Nat.le_of_ble_eq_true rfl)
  rw [lg_entry_eq]
  generalize (lg_sl ([.ref (a 0), .int (nI n), .ref o]) ++ List.replicate (4 - (lg_sl ([.ref (a 0), .int (nI n), .ref o])).length) Slot.unset).toArray = ls at hl ⊢
  have hl : lv_has ls 4 [(0, .ref (a 0)), (1, .int (nI n)), (2, .ref o)] := hl
  refine lv_aload_n hx hb dL_sum_0 rfl (lv_at hl 2 rfl) ?_
  refine lv_iconst (v := 0) hx hb dL_sum_1 (by decide) ?_
  refine lv_aload_n hx hb dL_sum_2 rfl (lv_at hl 0 rfl) ?_
  refine lv_iload_n hx hb dL_sum_3 rfl (lv_at hl 1 rfl) ?_
  refine XW.callV (As := [.int (nI n)]) (rest := [.int 0, .ref o]) ⟨hx, hb, hml, hown, hts⟩ (x_X5_sum_2 l dC dI a k u _ hst h20 n hn ht) (cwV 1 hts (wG_V wG_c q_463 q_464 q_465 q_1 q_466) rfl rfl rfl (by decide +kernel) ⟨Nat.le_of_ble_eq_true rfl, Nat.le_of_ble_eq_true rfl⟩) (w_pxV hK (w_Pl hP) hX0 (ci := 5) (q0 := 0) rfl (wC_g0 a k _) rfl) rfl hl.1 rfl (Nat.le_of_ble_eq_true rfl) dL_sum_4 ⟨Nat.le_of_ble_eq_true rfl, Nat.le_of_ble_eq_true rfl⟩ (fun q9 st9 t9 H9 L9 h0 hfc ht9 hal9 hxc hL9 => ?_)
  obtain ⟨⟨ce9, k1, k2, k3⟩, hP, hS⟩ := x_back h0 hfc ht9 hxc hL9 hP hA
  refine XW.caught (own := RL) (name := eISE) (E := eISE) hown [(x_en (0, 9, 12, 13))] (x_en (0, 9, 15, 37)) [] htab (x_p1 ⟨rfl, by decide, eIAE, htg _ q_234, x_nc.use hNC.2.2.2.1⟩) rfl (by decide) (htg _ q_429) (x_cISE hX0) k1 k2 k3 ?_
  refine lv_astore_n (lv' := [(3, .ref q9), (0, .ref (a 0)), (1, .int (nI n)), (2, .ref o)]) hx hb dL_sum_15 rfl hl (by decide) rfl (fun ls hl => ?_)
  refine lv_iconst (v := 2) hx hb dL_sum_16 (by decide) ?_
  exact W.iret (v := 2) hx hb hr (fun t9 ht9 hW9 => ⟨⟨_, (u, f), rfl, hpost, by rw [ht9]; exact hP, va_K.moved hW9.alike hK, hD⟩, hS.F ht9⟩) hS.2.2 dL_sum_17
set_option maxHeartbeats 4000000 in
set_option maxRecDepth 100000 in
theorem r_part_0 (l : Launch) (dC : Nat → ClassId) (dI : Nat → Nat → Nat) (a : Nat → Nat) (k : c_K) (u : c_St) (o : Nat) (f : Nat → Int64) (sz : Nat) (hst : l.stackTraces = false)  (h : c_ok u) (n : Nat) (hn : n < cu_N u 0) (ht : cu_B u 0 n = true) (t1 t2 : Int32) (post : Int32 → c_X → Prop) (hpost : ∀ g : Nat → Int64, g 0 = (c_sm (cu_L u n) (cu_F u 2 n) 0 (c_bb u n t1) (c_bb u n t2 - c_bb u n t1)).toInt64 → post 0 (u, g)) : Met l yL_part wsL_part ({ frames := 8, cells := 1, slots := 6, locals := 150 }) (va_Pc [.ref (a 0), .int (nI n), .int t1, .int t2, .ref o] (w_wr (dC, dI) vwCl (wL a o k (u, f)) (tC k) sz)) (va_Qi post (w_at (dC, dI) vwCl (wL a o k) (tC k) (va_A (wL a o k (u, f)) sz)) (va_A (wL a o k (u, f)) sz)) 1 6 (va_A (wL a o k (u, f)) sz) := by
  refine va_MetW (cc := cL_part) (maxL := 6) (ret := (some .int)) (by decide) rfl ?_
  intro p e s m args below meth c s₁ B hml hv
  obtain ⟨rfl, ⟨hsz, hP, hK, hD0, hX⟩, hNC⟩ := hv
  have hx := B.exec
  have hb := B.bytes
  have hr := B.returns
  have hts := atoms_spec (ws := wsL_part) B.pre
  have htg : ∀ w ∈ wG, w.before _ s = true := fun w h => hts w (List.mem_cons_of_mem _ h)
  have hown : s.vm.findClass RL = some m.cls := findClass_of_methodNamed B.named
  have hlocks := B.notSynchronized
  have htab := x_tab B (hts _ List.mem_cons_self)
  subst hsz
  have hX0 : w_x (va_A [] s.heap.size) s s.heap := hX.narrow (fun q h => Or.inr (va_A0.mp h))
  have hX1 : w_x (va_A (wC a k u) s.heap.size) s s.heap := hX.narrow (fun q h => va_Al h)
  have hP : va_P (dC, dI) vwCl (wC a k u ++ wO o k f) s.heap := hP
  have hD : va_D (va_A (wL a o k (u, f)) s.heap.size) (wC a k u ++ wO o k f) := hD0.self (sz := s.heap.size)
  have hAw : ∀ q, va_A (wC a k u) s.heap.size q → va_A (wL a o k (u, f)) s.heap.size q := fun q h => va_Al h
  generalize hAe : va_A (wL a o k (u, f)) s.heap.size = A at hD hAw ⊢
  have hA : ∀ q : Nat, s.heap.size ≤ q → A q := fun q h => by rw [← hAe]; exact Or.inr h
  have hS : va_S A s.heap s.heap [] := va_S.rf
  have hl := lv_entry ([.ref (a 0), .int (nI n), .int t1, .int t2, .ref o]) (n := 6) (Nat.le_of_ble_eq_true rfl)
  rw [lg_entry_eq]
  generalize (lg_sl ([.ref (a 0), .int (nI n), .int t1, .int t2, .ref o]) ++ List.replicate (6 - (lg_sl ([.ref (a 0), .int (nI n), .int t1, .int t2, .ref o])).length) Slot.unset).toArray = ls at hl ⊢
  have hl : lv_has ls 6 [(0, .ref (a 0)), (1, .int (nI n)), (2, .int t1), (3, .int t2), (4, .ref o)] := hl
  refine x_more (mc := 0) (ms := 0) (Nat.le_of_ble_eq_true rfl) (Nat.le_of_ble_eq_true rfl) ?_
  refine lv_aload hx hb dL_part_0 (lv_at hl 4 rfl) ?_
  refine lv_iconst (v := 0) hx hb dL_part_2 (by decide) ?_
  refine lv_aload_n hx hb dL_part_3 rfl (lv_at hl 0 rfl) ?_
  refine lv_iload_n hx hb dL_part_4 rfl (lv_at hl 1 rfl) ?_
  refine lv_iload_n hx hb dL_part_5 rfl (lv_at hl 2 rfl) ?_
  refine lv_iload_n hx hb dL_part_6 rfl (lv_at hl 3 rfl) ?_
  refine vp_callSi (W.runV (As := [.int (nI n), .int t1, .int t2]) (rest := [.int 0, .ref o]) ⟨hx, hb, hml, hown, hts⟩ (c_X5_part l dC dI a k u h n hn ht t1 t2) (cwV 3 hts (wG_V wG_c q_470 q_471 q_472 q_1 q_473) rfl rfl rfl (by decide +kernel) ⟨Nat.le_of_ble_eq_true rfl, Nat.le_of_ble_eq_true rfl⟩) (w_roV hK (w_Pl hP) (ci := 5) (q0 := 0) rfl (wC_g0 a k _) rfl) rfl rfl hl.1 rfl (lv_room (Nat.le_of_ble_eq_true rfl)) dL_part_7 ⟨Nat.le_of_ble_eq_true rfl, Nat.le_of_ble_eq_true rfl⟩) (fun r9 hr9 => ?_)
  subst hr9
  refine lv_i2l hx hb dL_part_10 rfl ?_
  refine va_last hx hb hK hP hD hS 26 1 (cA := k.2.1) (n := 1) rfl rfl (i := 0) vp_in01 dL_part_11 (fun H locs hP hD hS => ?_)
  have hP := w_pE (wL_s26 a o k _ _ _) hP
  have hD := w_dE (wL_s26 a o k _ _ _) hD
  refine lv_goto (tgt := 23) hx hb dL_part_12 (by decide) ?_
  refine lv_iconst (v := 0) hx hb dL_part_23 (by decide) ?_
  exact W.iret (v := 0) hx hb hr (fun t9 ht9 hW9 => ⟨⟨_, (u, vp_updL f (0 : Int32).toNatClampNeg ((c_sm (cu_L u n) (cu_F u 2 n) 0 (c_bb u n t1) (c_bb u n t2 - c_bb u n t1)).toInt64)), rfl, hpost _ (wO_0 f _), by rw [ht9]; exact hP, va_K.moved hW9.alike hK, hD⟩, hS.F ht9⟩) hS.2.2 dL_part_24
set_option maxHeartbeats 4000000 in
set_option maxRecDepth 100000 in
theorem r_part_1 (l : Launch) (dC : Nat → ClassId) (dI : Nat → Nat → Nat) (a : Nat → Nat) (k : c_K) (u : c_St) (o : Nat) (f : Nat → Int64) (sz : Nat) (hst : l.stackTraces = false)    (h20 : cu_N u 0 ≤ 200) (p0 : Int32) (hb9 : isS (cu_N u 0) p0 = false) (t1 t2 : Int32) (post : Int32 → c_X → Prop) (hpost : post 1 (u, f)) : Met l yL_part wsL_part ({ frames := 8, cells := 1, slots := 6, locals := 150 }) (va_Pc [.ref (a 0), .int p0, .int t1, .int t2, .ref o] (w_wr (dC, dI) vwCl (wL a o k (u, f)) (tC k) sz)) (va_Qi post (w_at (dC, dI) vwCl (wL a o k) (tC k) (va_A (wL a o k (u, f)) sz)) (va_A (wL a o k (u, f)) sz)) 1 6 (va_A (wL a o k (u, f)) sz) := by
  refine va_MetW (cc := cL_part) (maxL := 6) (ret := (some .int)) (by decide) rfl ?_
  intro p e s m args below meth c s₁ B hml hv
  obtain ⟨rfl, ⟨hsz, hP, hK, hD0, hX⟩, hNC⟩ := hv
  have hx := B.exec
  have hb := B.bytes
  have hr := B.returns
  have hts := atoms_spec (ws := wsL_part) B.pre
  have htg : ∀ w ∈ wG, w.before _ s = true := fun w h => hts w (List.mem_cons_of_mem _ h)
  have hown : s.vm.findClass RL = some m.cls := findClass_of_methodNamed B.named
  have hlocks := B.notSynchronized
  have htab := x_tab B (hts _ List.mem_cons_self)
  subst hsz
  have hX0 : w_x (va_A [] s.heap.size) s s.heap := hX.narrow (fun q h => Or.inr (va_A0.mp h))
  have hX1 : w_x (va_A (wC a k u) s.heap.size) s s.heap := hX.narrow (fun q h => va_Al h)
  have hP : va_P (dC, dI) vwCl (wC a k u ++ wO o k f) s.heap := hP
  have hD : va_D (va_A (wL a o k (u, f)) s.heap.size) (wC a k u ++ wO o k f) := hD0.self (sz := s.heap.size)
  have hAw : ∀ q, va_A (wC a k u) s.heap.size q → va_A (wL a o k (u, f)) s.heap.size q := fun q h => va_Al h
  generalize hAe : va_A (wL a o k (u, f)) s.heap.size = A at hD hAw ⊢
  have hA : ∀ q : Nat, s.heap.size ≤ q → A q := fun q h => by rw [← hAe]; exact Or.inr h
  have hS : va_S A s.heap s.heap [] := va_S.rf
  have hl := lv_entry ([.ref (a 0), .int p0, .int t1, .int t2, .ref o]) (n := 6) (Nat.le_of_ble_eq_true rfl)
  rw [lg_entry_eq]
  generalize (lg_sl ([.ref (a 0), .int p0, .int t1, .int t2, .ref o]) ++ List.replicate (6 - (lg_sl ([.ref (a 0), .int p0, .int t1, .int t2, .ref o])).length) Slot.unset).toArray = ls at hl ⊢
  have hl : lv_has ls 6 [(0, .ref (a 0)), (1, .int p0), (2, .int t1), (3, .int t2), (4, .ref o)] := hl
  refine lv_aload hx hb dL_part_0 (lv_at hl 4 rfl) ?_
  refine lv_iconst (v := 0) hx hb dL_part_2 (by decide) ?_
  refine lv_aload_n hx hb dL_part_3 rfl (lv_at hl 0 rfl) ?_
  refine lv_iload_n hx hb dL_part_4 rfl (lv_at hl 1 rfl) ?_
  refine lv_iload_n hx hb dL_part_5 rfl (lv_at hl 2 rfl) ?_
  refine lv_iload_n hx hb dL_part_6 rfl (lv_at hl 3 rfl) ?_
  refine XW.callV (As := [.int p0, .int t1, .int t2]) (rest := [.int 0, .ref o]) ⟨hx, hb, hml, hown, hts⟩ (x_X5_part_1 l dC dI a k u _ hst h20 p0 hb9 t1 t2) (cwV 3 hts (wG_V wG_c q_470 q_471 q_472 q_1 q_473) rfl rfl rfl (by decide +kernel) ⟨Nat.le_of_ble_eq_true rfl, Nat.le_of_ble_eq_true rfl⟩) (w_pxV hK (w_Pl hP) hX0 (ci := 5) (q0 := 0) rfl (wC_g0 a k _) rfl) rfl hl.1 rfl (Nat.le_of_ble_eq_true rfl) dL_part_7 ⟨Nat.le_of_ble_eq_true rfl, Nat.le_of_ble_eq_true rfl⟩ (fun q9 st9 t9 H9 L9 h0 hfc ht9 hal9 hxc hL9 => ?_)
  obtain ⟨⟨ce9, k1, k2, k3⟩, hP, hS⟩ := x_back h0 hfc ht9 hxc hL9 hP hA
  refine XW.caught (own := RL) (name := eIAE) (E := eIAE) hown [] (x_en (0, 12, 15, 13)) [(x_en (0, 12, 19, 37))] htab (fun y9 hy9 => by cases hy9) rfl (by decide) (htg _ q_234) (x_cIAE hX0) k1 k2 k3 ?_
  refine lv_astore (lv' := [(5, .ref q9), (0, .ref (a 0)), (1, .int p0), (2, .int t1), (3, .int t2), (4, .ref o)]) hx hb dL_part_15 hl (by decide) rfl (fun ls hl => ?_)
  refine lv_iconst (v := 1) hx hb dL_part_17 (by decide) ?_
  exact W.iret (v := 1) hx hb hr (fun t9 ht9 hW9 => ⟨⟨_, (u, f), rfl, hpost, by rw [ht9]; exact hP, va_K.moved hW9.alike hK, hD⟩, hS.F ht9⟩) hS.2.2 dL_part_18
set_option maxHeartbeats 4000000 in
set_option maxRecDepth 100000 in
theorem r_part_2 (l : Launch) (dC : Nat → ClassId) (dI : Nat → Nat → Nat) (a : Nat → Nat) (k : c_K) (u : c_St) (o : Nat) (f : Nat → Int64) (sz : Nat) (hst : l.stackTraces = false)    (h20 : cu_N u 0 ≤ 200) (n : Nat) (hn : n < cu_N u 0) (ht : cu_B u 0 n = false) (t1 t2 : Int32) (post : Int32 → c_X → Prop) (hpost : post 2 (u, f)) : Met l yL_part wsL_part ({ frames := 8, cells := 1, slots := 6, locals := 150 }) (va_Pc [.ref (a 0), .int (nI n), .int t1, .int t2, .ref o] (w_wr (dC, dI) vwCl (wL a o k (u, f)) (tC k) sz)) (va_Qi post (w_at (dC, dI) vwCl (wL a o k) (tC k) (va_A (wL a o k (u, f)) sz)) (va_A (wL a o k (u, f)) sz)) 1 6 (va_A (wL a o k (u, f)) sz) := by
  refine va_MetW (cc := cL_part) (maxL := 6) (ret := (some .int)) (by decide) rfl ?_
  intro p e s m args below meth c s₁ B hml hv
  obtain ⟨rfl, ⟨hsz, hP, hK, hD0, hX⟩, hNC⟩ := hv
  have hx := B.exec
  have hb := B.bytes
  have hr := B.returns
  have hts := atoms_spec (ws := wsL_part) B.pre
  have htg : ∀ w ∈ wG, w.before _ s = true := fun w h => hts w (List.mem_cons_of_mem _ h)
  have hown : s.vm.findClass RL = some m.cls := findClass_of_methodNamed B.named
  have hlocks := B.notSynchronized
  have htab := x_tab B (hts _ List.mem_cons_self)
  subst hsz
  have hX0 : w_x (va_A [] s.heap.size) s s.heap := hX.narrow (fun q h => Or.inr (va_A0.mp h))
  have hX1 : w_x (va_A (wC a k u) s.heap.size) s s.heap := hX.narrow (fun q h => va_Al h)
  have hP : va_P (dC, dI) vwCl (wC a k u ++ wO o k f) s.heap := hP
  have hD : va_D (va_A (wL a o k (u, f)) s.heap.size) (wC a k u ++ wO o k f) := hD0.self (sz := s.heap.size)
  have hAw : ∀ q, va_A (wC a k u) s.heap.size q → va_A (wL a o k (u, f)) s.heap.size q := fun q h => va_Al h
  generalize hAe : va_A (wL a o k (u, f)) s.heap.size = A at hD hAw ⊢
  have hA : ∀ q : Nat, s.heap.size ≤ q → A q := fun q h => by rw [← hAe]; exact Or.inr h
  have hS : va_S A s.heap s.heap [] := va_S.rf
  have hl := lv_entry ([.ref (a 0), .int (nI n), .int t1, .int t2, .ref o]) (n := 6) (Nat.le_of_ble_eq_true rfl)
  rw [lg_entry_eq]
  generalize (lg_sl ([.ref (a 0), .int (nI n), .int t1, .int t2, .ref o]) ++ List.replicate (6 - (lg_sl ([.ref (a 0), .int (nI n), .int t1, .int t2, .ref o])).length) Slot.unset).toArray = ls at hl ⊢
  have hl : lv_has ls 6 [(0, .ref (a 0)), (1, .int (nI n)), (2, .int t1), (3, .int t2), (4, .ref o)] := hl
  refine lv_aload hx hb dL_part_0 (lv_at hl 4 rfl) ?_
  refine lv_iconst (v := 0) hx hb dL_part_2 (by decide) ?_
  refine lv_aload_n hx hb dL_part_3 rfl (lv_at hl 0 rfl) ?_
  refine lv_iload_n hx hb dL_part_4 rfl (lv_at hl 1 rfl) ?_
  refine lv_iload_n hx hb dL_part_5 rfl (lv_at hl 2 rfl) ?_
  refine lv_iload_n hx hb dL_part_6 rfl (lv_at hl 3 rfl) ?_
  refine XW.callV (As := [.int (nI n), .int t1, .int t2]) (rest := [.int 0, .ref o]) ⟨hx, hb, hml, hown, hts⟩ (x_X5_part_2 l dC dI a k u _ hst h20 n hn ht t1 t2) (cwV 3 hts (wG_V wG_c q_470 q_471 q_472 q_1 q_473) rfl rfl rfl (by decide +kernel) ⟨Nat.le_of_ble_eq_true rfl, Nat.le_of_ble_eq_true rfl⟩) (w_pxV hK (w_Pl hP) hX0 (ci := 5) (q0 := 0) rfl (wC_g0 a k _) rfl) rfl hl.1 rfl (Nat.le_of_ble_eq_true rfl) dL_part_7 ⟨Nat.le_of_ble_eq_true rfl, Nat.le_of_ble_eq_true rfl⟩ (fun q9 st9 t9 H9 L9 h0 hfc ht9 hal9 hxc hL9 => ?_)
  obtain ⟨⟨ce9, k1, k2, k3⟩, hP, hS⟩ := x_back h0 hfc ht9 hxc hL9 hP hA
  refine XW.caught (own := RL) (name := eISE) (E := eISE) hown [(x_en (0, 12, 15, 13))] (x_en (0, 12, 19, 37)) [] htab (x_p1 ⟨rfl, by decide, eIAE, htg _ q_234, x_nc.use hNC.2.2.2.1⟩) rfl (by decide) (htg _ q_429) (x_cISE hX0) k1 k2 k3 ?_
  refine lv_astore (lv' := [(5, .ref q9), (0, .ref (a 0)), (1, .int (nI n)), (2, .int t1), (3, .int t2), (4, .ref o)]) hx hb dL_part_19 hl (by decide) rfl (fun ls hl => ?_)
  refine lv_iconst (v := 2) hx hb dL_part_21 (by decide) ?_
  exact W.iret (v := 2) hx hb hr (fun t9 ht9 hW9 => ⟨⟨_, (u, f), rfl, hpost, by rw [ht9]; exact hP, va_K.moved hW9.alike hK, hD⟩, hS.F ht9⟩) hS.2.2 dL_part_22
set_option maxHeartbeats 4000000 in
set_option maxRecDepth 100000 in
theorem r_hold_0 (l : Launch) (dC : Nat → ClassId) (dI : Nat → Nat → Nat) (a : Nat → Nat) (k : c_K) (u : c_St) (o : Nat) (f : Nat → Int64) (sz : Nat) (hst : l.stackTraces = false)   (i : Nat) (hi : i ≤ 49) (on : Bool) (hn : cu_B u 3 i ≠ on) (post : Int32 → c_X → Prop) (hpost : ∀ u1 : c_St, u1 = cs_B u 3 i on → post 0 (u1, f)) : Met l yL_hold wsL_hold ({ frames := 8, cells := 1, slots := 6, locals := 150 }) (va_Pc [.ref (a 0), .int (nI i), .int (bI on)] (w_wr (dC, dI) vwCl (wL a o k (u, f)) (tC k) sz)) (va_Qi post (w_at (dC, dI) vwCl (wL a o k) (tC k) (va_A (wL a o k (u, f)) sz)) (va_A (wL a o k (u, f)) sz)) 1 6 (va_A (wL a o k (u, f)) sz) := by
  refine va_MetW (cc := cL_hold) (maxL := 4) (ret := (some .int)) (by decide) rfl ?_
  intro p e s m args below meth c s₁ B hml hv
  obtain ⟨rfl, ⟨hsz, hP, hK, hD0, hX⟩, hNC⟩ := hv
  have hx := B.exec
  have hb := B.bytes
  have hr := B.returns
  have hts := atoms_spec (ws := wsL_hold) B.pre
  have htg : ∀ w ∈ wG, w.before _ s = true := fun w h => hts w (List.mem_cons_of_mem _ h)
  have hown : s.vm.findClass RL = some m.cls := findClass_of_methodNamed B.named
  have hlocks := B.notSynchronized
  have htab := x_tab B (hts _ List.mem_cons_self)
  subst hsz
  have hX0 : w_x (va_A [] s.heap.size) s s.heap := hX.narrow (fun q h => Or.inr (va_A0.mp h))
  have hX1 : w_x (va_A (wC a k u) s.heap.size) s s.heap := hX.narrow (fun q h => va_Al h)
  have hP : va_P (dC, dI) vwCl (wC a k u ++ wO o k f) s.heap := hP
  have hD : va_D (va_A (wL a o k (u, f)) s.heap.size) (wC a k u ++ wO o k f) := hD0.self (sz := s.heap.size)
  have hAw : ∀ q, va_A (wC a k u) s.heap.size q → va_A (wL a o k (u, f)) s.heap.size q := fun q h => va_Al h
  generalize hAe : va_A (wL a o k (u, f)) s.heap.size = A at hD hAw ⊢
  have hA : ∀ q : Nat, s.heap.size ≤ q → A q := fun q h => by rw [← hAe]; exact Or.inr h
  have hS : va_S A s.heap s.heap [] := va_S.rf
  have hl := lv_entry ([.ref (a 0), .int (nI i), .int (bI on)]) (n := 4) (Nat.le_of_ble_eq_true rfl)
  rw [lg_entry_eq]
  generalize (lg_sl ([.ref (a 0), .int (nI i), .int (bI on)]) ++ List.replicate (4 - (lg_sl ([.ref (a 0), .int (nI i), .int (bI on)])).length) Slot.unset).toArray = ls at hl ⊢
  have hl : lv_has ls 4 [(0, .ref (a 0)), (1, .int (nI i)), (2, .int (bI on))] := hl
  refine x_more (mc := 0) (ms := 0) (Nat.le_of_ble_eq_true rfl) (Nat.le_of_ble_eq_true rfl) ?_
  refine lv_aload_n hx hb dL_hold_0 rfl (lv_at hl 0 rfl) ?_
  refine lv_iload_n hx hb dL_hold_1 rfl (lv_at hl 1 rfl) ?_
  refine lv_iload_n hx hb dL_hold_2 rfl (lv_at hl 2 rfl) ?_
  refine w_callv (w := wC a k) (va_runV (As := [.int (nI i), .int (bI on)]) (rest := []) ⟨hx, hb, hml, hown, hts⟩ (c_X5_hold l dC dI a k u _ i hi on hn) (cwV 2 hts (wG_V wG_c q_477 q_478 q_479 q_1 q_480) rfl rfl rfl (by decide +kernel) ⟨Nat.le_of_ble_eq_true rfl, Nat.le_of_ble_eq_true rfl⟩) (w_muV hK (w_Pl hP) (w_Dl hD) (ci := 5) (q0 := 0) rfl (wC_g0 a k _) rfl) rfl rfl hl.1 rfl (lv_room (Nat.le_of_ble_eq_true rfl)) dL_hold_3 ⟨Nat.le_of_ble_eq_true rfl, Nat.le_of_ble_eq_true rfl⟩) hP hD hS hA (fun u9 H locs hp9 hP hD hS => ?_)
  refine lv_goto (tgt := 15) hx hb dL_hold_6 (by decide) ?_
  refine lv_iconst (v := 0) hx hb dL_hold_15 (by decide) ?_
  exact W.iret (v := 0) hx hb hr (fun t9 ht9 hW9 => ⟨⟨_, (u9, f), rfl, hpost u9 hp9, by rw [ht9]; exact hP, va_K.moved hW9.alike hK, hD⟩, hS.F ht9⟩) hS.2.2 dL_hold_16
set_option maxHeartbeats 4000000 in
set_option maxRecDepth 100000 in
theorem r_hold_1 (l : Launch) (dC : Nat → ClassId) (dI : Nat → Nat → Nat) (a : Nat → Nat) (k : c_K) (u : c_St) (o : Nat) (f : Nat → Int64) (sz : Nat) (hst : l.stackTraces = false)    (p0 : Int32) (on : Bool) (hb9 : inR p0 0 49 = false) (post : Int32 → c_X → Prop) (hpost : post 1 (u, f)) : Met l yL_hold wsL_hold ({ frames := 8, cells := 1, slots := 6, locals := 150 }) (va_Pc [.ref (a 0), .int p0, .int (bI on)] (w_wr (dC, dI) vwCl (wL a o k (u, f)) (tC k) sz)) (va_Qi post (w_at (dC, dI) vwCl (wL a o k) (tC k) (va_A (wL a o k (u, f)) sz)) (va_A (wL a o k (u, f)) sz)) 1 6 (va_A (wL a o k (u, f)) sz) := by
  refine va_MetW (cc := cL_hold) (maxL := 4) (ret := (some .int)) (by decide) rfl ?_
  intro p e s m args below meth c s₁ B hml hv
  obtain ⟨rfl, ⟨hsz, hP, hK, hD0, hX⟩, hNC⟩ := hv
  have hx := B.exec
  have hb := B.bytes
  have hr := B.returns
  have hts := atoms_spec (ws := wsL_hold) B.pre
  have htg : ∀ w ∈ wG, w.before _ s = true := fun w h => hts w (List.mem_cons_of_mem _ h)
  have hown : s.vm.findClass RL = some m.cls := findClass_of_methodNamed B.named
  have hlocks := B.notSynchronized
  have htab := x_tab B (hts _ List.mem_cons_self)
  subst hsz
  have hX0 : w_x (va_A [] s.heap.size) s s.heap := hX.narrow (fun q h => Or.inr (va_A0.mp h))
  have hX1 : w_x (va_A (wC a k u) s.heap.size) s s.heap := hX.narrow (fun q h => va_Al h)
  have hP : va_P (dC, dI) vwCl (wC a k u ++ wO o k f) s.heap := hP
  have hD : va_D (va_A (wL a o k (u, f)) s.heap.size) (wC a k u ++ wO o k f) := hD0.self (sz := s.heap.size)
  have hAw : ∀ q, va_A (wC a k u) s.heap.size q → va_A (wL a o k (u, f)) s.heap.size q := fun q h => va_Al h
  generalize hAe : va_A (wL a o k (u, f)) s.heap.size = A at hD hAw ⊢
  have hA : ∀ q : Nat, s.heap.size ≤ q → A q := fun q h => by rw [← hAe]; exact Or.inr h
  have hS : va_S A s.heap s.heap [] := va_S.rf
  have hl := lv_entry ([.ref (a 0), .int p0, .int (bI on)]) (n := 4) (Nat.le_of_ble_eq_true rfl)
  rw [lg_entry_eq]
  generalize (lg_sl ([.ref (a 0), .int p0, .int (bI on)]) ++ List.replicate (4 - (lg_sl ([.ref (a 0), .int p0, .int (bI on)])).length) Slot.unset).toArray = ls at hl ⊢
  have hl : lv_has ls 4 [(0, .ref (a 0)), (1, .int p0), (2, .int (bI on))] := hl
  refine lv_aload_n hx hb dL_hold_0 rfl (lv_at hl 0 rfl) ?_
  refine lv_iload_n hx hb dL_hold_1 rfl (lv_at hl 1 rfl) ?_
  refine lv_iload_n hx hb dL_hold_2 rfl (lv_at hl 2 rfl) ?_
  refine XW.callV (As := [.int p0, .int (bI on)]) (rest := []) ⟨hx, hb, hml, hown, hts⟩ (x_X5_hold_1 l dC dI a k u _ hst p0 on hb9) (cwV 2 hts (wG_V wG_c q_477 q_478 q_479 q_1 q_480) rfl rfl rfl (by decide +kernel) ⟨Nat.le_of_ble_eq_true rfl, Nat.le_of_ble_eq_true rfl⟩) (w_pxV hK (w_Pl hP) hX0 (ci := 5) (q0 := 0) rfl (wC_g0 a k _) rfl) rfl hl.1 rfl (Nat.le_of_ble_eq_true rfl) dL_hold_3 ⟨Nat.le_of_ble_eq_true rfl, Nat.le_of_ble_eq_true rfl⟩ (fun q9 st9 t9 H9 L9 h0 hfc ht9 hal9 hxc hL9 => ?_)
  obtain ⟨⟨ce9, k1, k2, k3⟩, hP, hS⟩ := x_back h0 hfc ht9 hxc hL9 hP hA
  refine XW.caught (own := RL) (name := eIAE) (E := eIAE) hown [] (x_en (0, 6, 9, 13)) [(x_en (0, 6, 12, 37))] htab (fun y9 hy9 => by cases hy9) rfl (by decide) (htg _ q_234) (x_cIAE hX0) k1 k2 k3 ?_
  refine lv_astore_n (lv' := [(3, .ref q9), (0, .ref (a 0)), (1, .int p0), (2, .int (bI on))]) hx hb dL_hold_9 rfl hl (by decide) rfl (fun ls hl => ?_)
  refine lv_iconst (v := 1) hx hb dL_hold_10 (by decide) ?_
  exact W.iret (v := 1) hx hb hr (fun t9 ht9 hW9 => ⟨⟨_, (u, f), rfl, hpost, by rw [ht9]; exact hP, va_K.moved hW9.alike hK, hD⟩, hS.F ht9⟩) hS.2.2 dL_hold_11
set_option maxHeartbeats 4000000 in
set_option maxRecDepth 100000 in
theorem r_hold_2 (l : Launch) (dC : Nat → ClassId) (dI : Nat → Nat → Nat) (a : Nat → Nat) (k : c_K) (u : c_St) (o : Nat) (f : Nat → Int64) (sz : Nat) (hst : l.stackTraces = false)    (i : Nat) (hi : i ≤ 49) (on : Bool) (hn : cu_B u 3 i = on) (post : Int32 → c_X → Prop) (hpost : post 2 (u, f)) : Met l yL_hold wsL_hold ({ frames := 8, cells := 1, slots := 6, locals := 150 }) (va_Pc [.ref (a 0), .int (nI i), .int (bI on)] (w_wr (dC, dI) vwCl (wL a o k (u, f)) (tC k) sz)) (va_Qi post (w_at (dC, dI) vwCl (wL a o k) (tC k) (va_A (wL a o k (u, f)) sz)) (va_A (wL a o k (u, f)) sz)) 1 6 (va_A (wL a o k (u, f)) sz) := by
  refine va_MetW (cc := cL_hold) (maxL := 4) (ret := (some .int)) (by decide) rfl ?_
  intro p e s m args below meth c s₁ B hml hv
  obtain ⟨rfl, ⟨hsz, hP, hK, hD0, hX⟩, hNC⟩ := hv
  have hx := B.exec
  have hb := B.bytes
  have hr := B.returns
  have hts := atoms_spec (ws := wsL_hold) B.pre
  have htg : ∀ w ∈ wG, w.before _ s = true := fun w h => hts w (List.mem_cons_of_mem _ h)
  have hown : s.vm.findClass RL = some m.cls := findClass_of_methodNamed B.named
  have hlocks := B.notSynchronized
  have htab := x_tab B (hts _ List.mem_cons_self)
  subst hsz
  have hX0 : w_x (va_A [] s.heap.size) s s.heap := hX.narrow (fun q h => Or.inr (va_A0.mp h))
  have hX1 : w_x (va_A (wC a k u) s.heap.size) s s.heap := hX.narrow (fun q h => va_Al h)
  have hP : va_P (dC, dI) vwCl (wC a k u ++ wO o k f) s.heap := hP
  have hD : va_D (va_A (wL a o k (u, f)) s.heap.size) (wC a k u ++ wO o k f) := hD0.self (sz := s.heap.size)
  have hAw : ∀ q, va_A (wC a k u) s.heap.size q → va_A (wL a o k (u, f)) s.heap.size q := fun q h => va_Al h
  generalize hAe : va_A (wL a o k (u, f)) s.heap.size = A at hD hAw ⊢
  have hA : ∀ q : Nat, s.heap.size ≤ q → A q := fun q h => by rw [← hAe]; exact Or.inr h
  have hS : va_S A s.heap s.heap [] := va_S.rf
  have hl := lv_entry ([.ref (a 0), .int (nI i), .int (bI on)]) (n := 4) (Nat.le_of_ble_eq_true rfl)
  rw [lg_entry_eq]
  generalize (lg_sl ([.ref (a 0), .int (nI i), .int (bI on)]) ++ List.replicate (4 - (lg_sl ([.ref (a 0), .int (nI i), .int (bI on)])).length) Slot.unset).toArray = ls at hl ⊢
  have hl : lv_has ls 4 [(0, .ref (a 0)), (1, .int (nI i)), (2, .int (bI on))] := hl
  refine lv_aload_n hx hb dL_hold_0 rfl (lv_at hl 0 rfl) ?_
  refine lv_iload_n hx hb dL_hold_1 rfl (lv_at hl 1 rfl) ?_
  refine lv_iload_n hx hb dL_hold_2 rfl (lv_at hl 2 rfl) ?_
  refine XW.callV (As := [.int (nI i), .int (bI on)]) (rest := []) ⟨hx, hb, hml, hown, hts⟩ (x_X5_hold_2 l dC dI a k u _ hst i hi on hn) (cwV 2 hts (wG_V wG_c q_477 q_478 q_479 q_1 q_480) rfl rfl rfl (by decide +kernel) ⟨Nat.le_of_ble_eq_true rfl, Nat.le_of_ble_eq_true rfl⟩) (w_pxV hK (w_Pl hP) hX0 (ci := 5) (q0 := 0) rfl (wC_g0 a k _) rfl) rfl hl.1 rfl (Nat.le_of_ble_eq_true rfl) dL_hold_3 ⟨Nat.le_of_ble_eq_true rfl, Nat.le_of_ble_eq_true rfl⟩ (fun q9 st9 t9 H9 L9 h0 hfc ht9 hal9 hxc hL9 => ?_)
  obtain ⟨⟨ce9, k1, k2, k3⟩, hP, hS⟩ := x_back h0 hfc ht9 hxc hL9 hP hA
  refine XW.caught (own := RL) (name := eISE) (E := eISE) hown [(x_en (0, 6, 9, 13))] (x_en (0, 6, 12, 37)) [] htab (x_p1 ⟨rfl, by decide, eIAE, htg _ q_234, x_nc.use hNC.2.2.2.1⟩) rfl (by decide) (htg _ q_429) (x_cISE hX0) k1 k2 k3 ?_
  refine lv_astore_n (lv' := [(3, .ref q9), (0, .ref (a 0)), (1, .int (nI i)), (2, .int (bI on))]) hx hb dL_hold_12 rfl hl (by decide) rfl (fun ls hl => ?_)
  refine lv_iconst (v := 2) hx hb dL_hold_13 (by decide) ?_
  exact W.iret (v := 2) hx hb hr (fun t9 ht9 hW9 => ⟨⟨_, (u, f), rfl, hpost, by rw [ht9]; exact hP, va_K.moved hW9.alike hK, hD⟩, hS.F ht9⟩) hS.2.2 dL_hold_14
set_option maxHeartbeats 4000000 in
set_option maxRecDepth 100000 in
theorem r_drop_0 (l : Launch) (dC : Nat → ClassId) (dI : Nat → Nat → Nat) (a : Nat → Nat) (k : c_K) (u : c_St) (o : Nat) (f : Nat → Int64) (sz : Nat) (hst : l.stackTraces = false)   (h : c_ok u) (hC : cu_N u 3 < 200) (n t : Nat) (hn : n < cu_N u 0) (hth : cu_B u 0 n = true) (hh : cu_B u 3 (cu_F u 4 n) = false) (hp : cu_N u 2 ≤ 200) (ho : ∀ j, j < cu_N u 2 → cu_F u 6 j < 200) (ht : t < cu_N u 2) (he : cu_F u 6 t = n) (hu : ∀ j, j < cu_N u 2 → j ≠ t → cu_F u 6 j ≠ n) (post : Int32 → c_X → Prop) (hpost : ∀ (r : Int32) (u1 : c_St) (g : Nat → Int64), (r = nI (cu_N u 3) ∧ u1 = cs_N (cs_G (cs_G (cs_F (cs_N (c_cut (cs_B u 0 n false) t (cu_N u 2)) 2 (cu_N u 2 - 1)) 7 (cu_N u 3) n) 1 (cu_N u 3) (cu_G u 0 n)) 2 (cu_N u 3) (c_now u n)) 3 (cu_N u 3 + 1)) → g 0 = r.toInt64 → post 0 (u1, g)) : Met l yL_drop wsL_drop ({ frames := 8, cells := 1, slots := 6, locals := 150 }) (va_Pc [.ref (a 0), .int (nI n), .ref o] (w_wr (dC, dI) vwCl (wL a o k (u, f)) (tC k) sz)) (va_Qi post (w_at (dC, dI) vwCl (wL a o k) (tC k) (va_A (wL a o k (u, f)) sz)) (va_A (wL a o k (u, f)) sz)) 1 6 (va_A (wL a o k (u, f)) sz) := by
  refine va_MetW (cc := cL_drop) (maxL := 4) (ret := (some .int)) (by decide) rfl ?_
  intro p e s m args below meth c s₁ B hml hv
  obtain ⟨rfl, ⟨hsz, hP, hK, hD0, hX⟩, hNC⟩ := hv
  have hx := B.exec
  have hb := B.bytes
  have hr := B.returns
  have hts := atoms_spec (ws := wsL_drop) B.pre
  have htg : ∀ w ∈ wG, w.before _ s = true := fun w h => hts w (List.mem_cons_of_mem _ h)
  have hown : s.vm.findClass RL = some m.cls := findClass_of_methodNamed B.named
  have hlocks := B.notSynchronized
  have htab := x_tab B (hts _ List.mem_cons_self)
  subst hsz
  have hX0 : w_x (va_A [] s.heap.size) s s.heap := hX.narrow (fun q h => Or.inr (va_A0.mp h))
  have hX1 : w_x (va_A (wC a k u) s.heap.size) s s.heap := hX.narrow (fun q h => va_Al h)
  have hP : va_P (dC, dI) vwCl (wC a k u ++ wO o k f) s.heap := hP
  have hD : va_D (va_A (wL a o k (u, f)) s.heap.size) (wC a k u ++ wO o k f) := hD0.self (sz := s.heap.size)
  have hAw : ∀ q, va_A (wC a k u) s.heap.size q → va_A (wL a o k (u, f)) s.heap.size q := fun q h => va_Al h
  generalize hAe : va_A (wL a o k (u, f)) s.heap.size = A at hD hAw ⊢
  have hA : ∀ q : Nat, s.heap.size ≤ q → A q := fun q h => by rw [← hAe]; exact Or.inr h
  have hS : va_S A s.heap s.heap [] := va_S.rf
  have hl := lv_entry ([.ref (a 0), .int (nI n), .ref o]) (n := 4) (Nat.le_of_ble_eq_true rfl)
  rw [lg_entry_eq]
  generalize (lg_sl ([.ref (a 0), .int (nI n), .ref o]) ++ List.replicate (4 - (lg_sl ([.ref (a 0), .int (nI n), .ref o])).length) Slot.unset).toArray = ls at hl ⊢
  have hl : lv_has ls 4 [(0, .ref (a 0)), (1, .int (nI n)), (2, .ref o)] := hl
  refine x_more (mc := 0) (ms := 0) (Nat.le_of_ble_eq_true rfl) (Nat.le_of_ble_eq_true rfl) ?_
  refine lv_aload_n hx hb dL_drop_0 rfl (lv_at hl 2 rfl) ?_
  refine lv_iconst (v := 0) hx hb dL_drop_1 (by decide) ?_
  refine lv_aload_n hx hb dL_drop_2 rfl (lv_at hl 0 rfl) ?_
  refine lv_iload_n hx hb dL_drop_3 rfl (lv_at hl 1 rfl) ?_
  refine w_calli (w := wC a k) (va_runV (As := [.int (nI n)]) (rest := [.int 0, .ref o]) ⟨hx, hb, hml, hown, hts⟩ (c_X5_drop l dC dI a k u _ h hC n t hn hth hh hp ho ht he hu) (cwV 1 hts (wG_V wG_c q_485 q_486 q_487 q_1 q_488) rfl rfl rfl (by decide +kernel) ⟨Nat.le_of_ble_eq_true rfl, Nat.le_of_ble_eq_true rfl⟩) (w_muV hK (w_Pl hP) (w_Dl hD) (ci := 5) (q0 := 0) rfl (wC_g0 a k _) rfl) rfl rfl hl.1 rfl (lv_room (Nat.le_of_ble_eq_true rfl)) dL_drop_4 ⟨Nat.le_of_ble_eq_true rfl, Nat.le_of_ble_eq_true rfl⟩) hP hD hS hA (fun r9 u9 H locs hp9 hP hD hS => ?_)
  refine lv_i2l hx hb dL_drop_7 rfl ?_
  refine va_last hx hb hK hP hD hS 26 1 (cA := k.2.1) (n := 1) rfl rfl (i := 0) vp_in01 dL_drop_8 (fun H locs hP hD hS => ?_)
  have hP := w_pE (wL_s26 a o k _ _ _) hP
  have hD := w_dE (wL_s26 a o k _ _ _) hD
  refine lv_goto (tgt := 18) hx hb dL_drop_9 (by decide) ?_
  refine lv_iconst (v := 0) hx hb dL_drop_18 (by decide) ?_
  exact W.iret (v := 0) hx hb hr (fun t9 ht9 hW9 => ⟨⟨_, (u9, vp_updL f (0 : Int32).toNatClampNeg r9.toInt64), rfl, hpost _ _ _ hp9 (wO_0 f _), by rw [ht9]; exact hP, va_K.moved hW9.alike hK, hD⟩, hS.F ht9⟩) hS.2.2 dL_drop_19
set_option maxHeartbeats 4000000 in
set_option maxRecDepth 100000 in
theorem r_drop_1 (l : Launch) (dC : Nat → ClassId) (dI : Nat → Nat → Nat) (a : Nat → Nat) (k : c_K) (u : c_St) (o : Nat) (f : Nat → Int64) (sz : Nat) (hst : l.stackTraces = false)    (h20 : cu_N u 0 ≤ 200) (p0 : Int32) (hb9 : isS (cu_N u 0) p0 = false) (post : Int32 → c_X → Prop) (hpost : post 1 (u, f)) : Met l yL_drop wsL_drop ({ frames := 8, cells := 1, slots := 6, locals := 150 }) (va_Pc [.ref (a 0), .int p0, .ref o] (w_wr (dC, dI) vwCl (wL a o k (u, f)) (tC k) sz)) (va_Qi post (w_at (dC, dI) vwCl (wL a o k) (tC k) (va_A (wL a o k (u, f)) sz)) (va_A (wL a o k (u, f)) sz)) 1 6 (va_A (wL a o k (u, f)) sz) := by
  refine va_MetW (cc := cL_drop) (maxL := 4) (ret := (some .int)) (by decide) rfl ?_
  intro p e s m args below meth c s₁ B hml hv
  obtain ⟨rfl, ⟨hsz, hP, hK, hD0, hX⟩, hNC⟩ := hv
  have hx := B.exec
  have hb := B.bytes
  have hr := B.returns
  have hts := atoms_spec (ws := wsL_drop) B.pre
  have htg : ∀ w ∈ wG, w.before _ s = true := fun w h => hts w (List.mem_cons_of_mem _ h)
  have hown : s.vm.findClass RL = some m.cls := findClass_of_methodNamed B.named
  have hlocks := B.notSynchronized
  have htab := x_tab B (hts _ List.mem_cons_self)
  subst hsz
  have hX0 : w_x (va_A [] s.heap.size) s s.heap := hX.narrow (fun q h => Or.inr (va_A0.mp h))
  have hX1 : w_x (va_A (wC a k u) s.heap.size) s s.heap := hX.narrow (fun q h => va_Al h)
  have hP : va_P (dC, dI) vwCl (wC a k u ++ wO o k f) s.heap := hP
  have hD : va_D (va_A (wL a o k (u, f)) s.heap.size) (wC a k u ++ wO o k f) := hD0.self (sz := s.heap.size)
  have hAw : ∀ q, va_A (wC a k u) s.heap.size q → va_A (wL a o k (u, f)) s.heap.size q := fun q h => va_Al h
  generalize hAe : va_A (wL a o k (u, f)) s.heap.size = A at hD hAw ⊢
  have hA : ∀ q : Nat, s.heap.size ≤ q → A q := fun q h => by rw [← hAe]; exact Or.inr h
  have hS : va_S A s.heap s.heap [] := va_S.rf
  have hl := lv_entry ([.ref (a 0), .int p0, .ref o]) (n := 4) (Nat.le_of_ble_eq_true rfl)
  rw [lg_entry_eq]
  generalize (lg_sl ([.ref (a 0), .int p0, .ref o]) ++ List.replicate (4 - (lg_sl ([.ref (a 0), .int p0, .ref o])).length) Slot.unset).toArray = ls at hl ⊢
  have hl : lv_has ls 4 [(0, .ref (a 0)), (1, .int p0), (2, .ref o)] := hl
  refine lv_aload_n hx hb dL_drop_0 rfl (lv_at hl 2 rfl) ?_
  refine lv_iconst (v := 0) hx hb dL_drop_1 (by decide) ?_
  refine lv_aload_n hx hb dL_drop_2 rfl (lv_at hl 0 rfl) ?_
  refine lv_iload_n hx hb dL_drop_3 rfl (lv_at hl 1 rfl) ?_
  refine XW.callV (As := [.int p0]) (rest := [.int 0, .ref o]) ⟨hx, hb, hml, hown, hts⟩ (x_X5_drop_1 l dC dI a k u _ hst h20 p0 hb9) (cwV 1 hts (wG_V wG_c q_485 q_486 q_487 q_1 q_488) rfl rfl rfl (by decide +kernel) ⟨Nat.le_of_ble_eq_true rfl, Nat.le_of_ble_eq_true rfl⟩) (w_pxV hK (w_Pl hP) hX0 (ci := 5) (q0 := 0) rfl (wC_g0 a k _) rfl) rfl hl.1 rfl (Nat.le_of_ble_eq_true rfl) dL_drop_4 ⟨Nat.le_of_ble_eq_true rfl, Nat.le_of_ble_eq_true rfl⟩ (fun q9 st9 t9 H9 L9 h0 hfc ht9 hal9 hxc hL9 => ?_)
  obtain ⟨⟨ce9, k1, k2, k3⟩, hP, hS⟩ := x_back h0 hfc ht9 hxc hL9 hP hA
  refine XW.caught (own := RL) (name := eIAE) (E := eIAE) hown [] (x_en (0, 9, 12, 13)) [(x_en (0, 9, 15, 37))] htab (fun y9 hy9 => by cases hy9) rfl (by decide) (htg _ q_234) (x_cIAE hX0) k1 k2 k3 ?_
  refine lv_astore_n (lv' := [(3, .ref q9), (0, .ref (a 0)), (1, .int p0), (2, .ref o)]) hx hb dL_drop_12 rfl hl (by decide) rfl (fun ls hl => ?_)
  refine lv_iconst (v := 1) hx hb dL_drop_13 (by decide) ?_
  exact W.iret (v := 1) hx hb hr (fun t9 ht9 hW9 => ⟨⟨_, (u, f), rfl, hpost, by rw [ht9]; exact hP, va_K.moved hW9.alike hK, hD⟩, hS.F ht9⟩) hS.2.2 dL_drop_14
set_option maxHeartbeats 4000000 in
set_option maxRecDepth 100000 in
theorem r_drop_2 (l : Launch) (dC : Nat → ClassId) (dI : Nat → Nat → Nat) (a : Nat → Nat) (k : c_K) (u : c_St) (o : Nat) (f : Nat → Int64) (sz : Nat) (hst : l.stackTraces = false)    (h20 : cu_N u 0 ≤ 200) (n : Nat) (hn : n < cu_N u 0) (ht : cu_B u 0 n = false) (post : Int32 → c_X → Prop) (hpost : post 2 (u, f)) : Met l yL_drop wsL_drop ({ frames := 8, cells := 1, slots := 6, locals := 150 }) (va_Pc [.ref (a 0), .int (nI n), .ref o] (w_wr (dC, dI) vwCl (wL a o k (u, f)) (tC k) sz)) (va_Qi post (w_at (dC, dI) vwCl (wL a o k) (tC k) (va_A (wL a o k (u, f)) sz)) (va_A (wL a o k (u, f)) sz)) 1 6 (va_A (wL a o k (u, f)) sz) := by
  refine va_MetW (cc := cL_drop) (maxL := 4) (ret := (some .int)) (by decide) rfl ?_
  intro p e s m args below meth c s₁ B hml hv
  obtain ⟨rfl, ⟨hsz, hP, hK, hD0, hX⟩, hNC⟩ := hv
  have hx := B.exec
  have hb := B.bytes
  have hr := B.returns
  have hts := atoms_spec (ws := wsL_drop) B.pre
  have htg : ∀ w ∈ wG, w.before _ s = true := fun w h => hts w (List.mem_cons_of_mem _ h)
  have hown : s.vm.findClass RL = some m.cls := findClass_of_methodNamed B.named
  have hlocks := B.notSynchronized
  have htab := x_tab B (hts _ List.mem_cons_self)
  subst hsz
  have hX0 : w_x (va_A [] s.heap.size) s s.heap := hX.narrow (fun q h => Or.inr (va_A0.mp h))
  have hX1 : w_x (va_A (wC a k u) s.heap.size) s s.heap := hX.narrow (fun q h => va_Al h)
  have hP : va_P (dC, dI) vwCl (wC a k u ++ wO o k f) s.heap := hP
  have hD : va_D (va_A (wL a o k (u, f)) s.heap.size) (wC a k u ++ wO o k f) := hD0.self (sz := s.heap.size)
  have hAw : ∀ q, va_A (wC a k u) s.heap.size q → va_A (wL a o k (u, f)) s.heap.size q := fun q h => va_Al h
  generalize hAe : va_A (wL a o k (u, f)) s.heap.size = A at hD hAw ⊢
  have hA : ∀ q : Nat, s.heap.size ≤ q → A q := fun q h => by rw [← hAe]; exact Or.inr h
  have hS : va_S A s.heap s.heap [] := va_S.rf
  have hl := lv_entry ([.ref (a 0), .int (nI n), .ref o]) (n := 4) (Nat.le_of_ble_eq_true rfl)
  rw [lg_entry_eq]
  generalize (lg_sl ([.ref (a 0), .int (nI n), .ref o]) ++ List.replicate (4 - (lg_sl ([.ref (a 0), .int (nI n), .ref o])).length) Slot.unset).toArray = ls at hl ⊢
  have hl : lv_has ls 4 [(0, .ref (a 0)), (1, .int (nI n)), (2, .ref o)] := hl
  refine lv_aload_n hx hb dL_drop_0 rfl (lv_at hl 2 rfl) ?_
  refine lv_iconst (v := 0) hx hb dL_drop_1 (by decide) ?_
  refine lv_aload_n hx hb dL_drop_2 rfl (lv_at hl 0 rfl) ?_
  refine lv_iload_n hx hb dL_drop_3 rfl (lv_at hl 1 rfl) ?_
  refine XW.callV (As := [.int (nI n)]) (rest := [.int 0, .ref o]) ⟨hx, hb, hml, hown, hts⟩ (x_X5_drop_2 l dC dI a k u _ hst h20 n hn ht) (cwV 1 hts (wG_V wG_c q_485 q_486 q_487 q_1 q_488) rfl rfl rfl (by decide +kernel) ⟨Nat.le_of_ble_eq_true rfl, Nat.le_of_ble_eq_true rfl⟩) (w_pxV hK (w_Pl hP) hX0 (ci := 5) (q0 := 0) rfl (wC_g0 a k _) rfl) rfl hl.1 rfl (Nat.le_of_ble_eq_true rfl) dL_drop_4 ⟨Nat.le_of_ble_eq_true rfl, Nat.le_of_ble_eq_true rfl⟩ (fun q9 st9 t9 H9 L9 h0 hfc ht9 hal9 hxc hL9 => ?_)
  obtain ⟨⟨ce9, k1, k2, k3⟩, hP, hS⟩ := x_back h0 hfc ht9 hxc hL9 hP hA
  refine XW.caught (own := RL) (name := eISE) (E := eISE) hown [(x_en (0, 9, 12, 13))] (x_en (0, 9, 15, 37)) [] htab (x_p1 ⟨rfl, by decide, eIAE, htg _ q_234, x_nc.use hNC.2.2.2.1⟩) rfl (by decide) (htg _ q_429) (x_cISE hX0) k1 k2 k3 ?_
  refine lv_astore_n (lv' := [(3, .ref q9), (0, .ref (a 0)), (1, .int (nI n)), (2, .ref o)]) hx hb dL_drop_15 rfl hl (by decide) rfl (fun ls hl => ?_)
  refine lv_iconst (v := 2) hx hb dL_drop_16 (by decide) ?_
  exact W.iret (v := 2) hx hb hr (fun t9 ht9 hW9 => ⟨⟨_, (u, f), rfl, hpost, by rw [ht9]; exact hP, va_K.moved hW9.alike hK, hD⟩, hS.F ht9⟩) hS.2.2 dL_drop_17
set_option maxHeartbeats 4000000 in
set_option maxRecDepth 100000 in
theorem r_drop_3 (l : Launch) (dC : Nat → ClassId) (dI : Nat → Nat → Nat) (a : Nat → Nat) (k : c_K) (u : c_St) (o : Nat) (f : Nat → Int64) (sz : Nat) (hst : l.stackTraces = false)    (h : c_ok u) (n : Nat) (hn : n < cu_N u 0) (ht : cu_B u 0 n = true) (hh : cu_B u 3 (cu_F u 4 n) = true) (post : Int32 → c_X → Prop) (hpost : post 2 (u, f)) : Met l yL_drop wsL_drop ({ frames := 8, cells := 1, slots := 6, locals := 150 }) (va_Pc [.ref (a 0), .int (nI n), .ref o] (w_wr (dC, dI) vwCl (wL a o k (u, f)) (tC k) sz)) (va_Qi post (w_at (dC, dI) vwCl (wL a o k) (tC k) (va_A (wL a o k (u, f)) sz)) (va_A (wL a o k (u, f)) sz)) 1 6 (va_A (wL a o k (u, f)) sz) := by
  refine va_MetW (cc := cL_drop) (maxL := 4) (ret := (some .int)) (by decide) rfl ?_
  intro p e s m args below meth c s₁ B hml hv
  obtain ⟨rfl, ⟨hsz, hP, hK, hD0, hX⟩, hNC⟩ := hv
  have hx := B.exec
  have hb := B.bytes
  have hr := B.returns
  have hts := atoms_spec (ws := wsL_drop) B.pre
  have htg : ∀ w ∈ wG, w.before _ s = true := fun w h => hts w (List.mem_cons_of_mem _ h)
  have hown : s.vm.findClass RL = some m.cls := findClass_of_methodNamed B.named
  have hlocks := B.notSynchronized
  have htab := x_tab B (hts _ List.mem_cons_self)
  subst hsz
  have hX0 : w_x (va_A [] s.heap.size) s s.heap := hX.narrow (fun q h => Or.inr (va_A0.mp h))
  have hX1 : w_x (va_A (wC a k u) s.heap.size) s s.heap := hX.narrow (fun q h => va_Al h)
  have hP : va_P (dC, dI) vwCl (wC a k u ++ wO o k f) s.heap := hP
  have hD : va_D (va_A (wL a o k (u, f)) s.heap.size) (wC a k u ++ wO o k f) := hD0.self (sz := s.heap.size)
  have hAw : ∀ q, va_A (wC a k u) s.heap.size q → va_A (wL a o k (u, f)) s.heap.size q := fun q h => va_Al h
  generalize hAe : va_A (wL a o k (u, f)) s.heap.size = A at hD hAw ⊢
  have hA : ∀ q : Nat, s.heap.size ≤ q → A q := fun q h => by rw [← hAe]; exact Or.inr h
  have hS : va_S A s.heap s.heap [] := va_S.rf
  have hl := lv_entry ([.ref (a 0), .int (nI n), .ref o]) (n := 4) (Nat.le_of_ble_eq_true rfl)
  rw [lg_entry_eq]
  generalize (lg_sl ([.ref (a 0), .int (nI n), .ref o]) ++ List.replicate (4 - (lg_sl ([.ref (a 0), .int (nI n), .ref o])).length) Slot.unset).toArray = ls at hl ⊢
  have hl : lv_has ls 4 [(0, .ref (a 0)), (1, .int (nI n)), (2, .ref o)] := hl
  refine lv_aload_n hx hb dL_drop_0 rfl (lv_at hl 2 rfl) ?_
  refine lv_iconst (v := 0) hx hb dL_drop_1 (by decide) ?_
  refine lv_aload_n hx hb dL_drop_2 rfl (lv_at hl 0 rfl) ?_
  refine lv_iload_n hx hb dL_drop_3 rfl (lv_at hl 1 rfl) ?_
  refine XW.callV (As := [.int (nI n)]) (rest := [.int 0, .ref o]) ⟨hx, hb, hml, hown, hts⟩ (x_X5_drop_3 l dC dI a k u _ hst h n hn ht hh) (cwV 1 hts (wG_V wG_c q_485 q_486 q_487 q_1 q_488) rfl rfl rfl (by decide +kernel) ⟨Nat.le_of_ble_eq_true rfl, Nat.le_of_ble_eq_true rfl⟩) (w_pxV hK (w_Pl hP) hX0 (ci := 5) (q0 := 0) rfl (wC_g0 a k _) rfl) rfl hl.1 rfl (Nat.le_of_ble_eq_true rfl) dL_drop_4 ⟨Nat.le_of_ble_eq_true rfl, Nat.le_of_ble_eq_true rfl⟩ (fun q9 st9 t9 H9 L9 h0 hfc ht9 hal9 hxc hL9 => ?_)
  obtain ⟨⟨ce9, k1, k2, k3⟩, hP, hS⟩ := x_back h0 hfc ht9 hxc hL9 hP hA
  refine XW.caught (own := RL) (name := eISE) (E := eISE) hown [(x_en (0, 9, 12, 13))] (x_en (0, 9, 15, 37)) [] htab (x_p1 ⟨rfl, by decide, eIAE, htg _ q_234, x_nc.use hNC.2.2.2.1⟩) rfl (by decide) (htg _ q_429) (x_cISE hX0) k1 k2 k3 ?_
  refine lv_astore_n (lv' := [(3, .ref q9), (0, .ref (a 0)), (1, .int (nI n)), (2, .ref o)]) hx hb dL_drop_15 rfl hl (by decide) rfl (fun ls hl => ?_)
  refine lv_iconst (v := 2) hx hb dL_drop_16 (by decide) ?_
  exact W.iret (v := 2) hx hb hr (fun t9 ht9 hW9 => ⟨⟨_, (u, f), rfl, hpost, by rw [ht9]; exact hP, va_K.moved hW9.alike hK, hD⟩, hS.F ht9⟩) hS.2.2 dL_drop_17
set_option maxHeartbeats 4000000 in
set_option maxRecDepth 100000 in
theorem r_certificate_0 (l : Launch) (dC : Nat → ClassId) (dI : Nat → Nat → Nat) (a : Nat → Nat) (k : c_K) (u : c_St) (o : Nat) (f : Nat → Int64) (sz : Nat) (hst : l.stackTraces = false)  (hC : cu_N u 3 ≤ 200) (c9 w9 : Nat) (hc : c9 < cu_N u 3) (hw : w9 ≤ 2) (post : Int32 → c_X → Prop) (hpost : ∀ g : Nat → Int64, g 0 = ((if w9 = 0 then nI (cu_F u 7 c9) else if w9 = 1 then cu_G u 1 c9 else cu_G u 2 c9)).toInt64 → post 0 (u, g)) : Met l yL_certificate wsL_certificate ({ frames := 8, cells := 1, slots := 6, locals := 150 }) (va_Pc [.ref (a 0), .int (nI c9), .int (nI w9), .ref o] (w_wr (dC, dI) vwCl (wL a o k (u, f)) (tC k) sz)) (va_Qi post (w_at (dC, dI) vwCl (wL a o k) (tC k) (va_A (wL a o k (u, f)) sz)) (va_A (wL a o k (u, f)) sz)) 1 6 (va_A (wL a o k (u, f)) sz) := by
  refine va_MetW (cc := cL_certificate) (maxL := 5) (ret := (some .int)) (by decide) rfl ?_
  intro p e s m args below meth c s₁ B hml hv
  obtain ⟨rfl, ⟨hsz, hP, hK, hD0, hX⟩, hNC⟩ := hv
  have hx := B.exec
  have hb := B.bytes
  have hr := B.returns
  have hts := atoms_spec (ws := wsL_certificate) B.pre
  have htg : ∀ w ∈ wG, w.before _ s = true := fun w h => hts w (List.mem_cons_of_mem _ h)
  have hown : s.vm.findClass RL = some m.cls := findClass_of_methodNamed B.named
  have hlocks := B.notSynchronized
  have htab := x_tab B (hts _ List.mem_cons_self)
  subst hsz
  have hX0 : w_x (va_A [] s.heap.size) s s.heap := hX.narrow (fun q h => Or.inr (va_A0.mp h))
  have hX1 : w_x (va_A (wC a k u) s.heap.size) s s.heap := hX.narrow (fun q h => va_Al h)
  have hP : va_P (dC, dI) vwCl (wC a k u ++ wO o k f) s.heap := hP
  have hD : va_D (va_A (wL a o k (u, f)) s.heap.size) (wC a k u ++ wO o k f) := hD0.self (sz := s.heap.size)
  have hAw : ∀ q, va_A (wC a k u) s.heap.size q → va_A (wL a o k (u, f)) s.heap.size q := fun q h => va_Al h
  generalize hAe : va_A (wL a o k (u, f)) s.heap.size = A at hD hAw ⊢
  have hA : ∀ q : Nat, s.heap.size ≤ q → A q := fun q h => by rw [← hAe]; exact Or.inr h
  have hS : va_S A s.heap s.heap [] := va_S.rf
  have hl := lv_entry ([.ref (a 0), .int (nI c9), .int (nI w9), .ref o]) (n := 5) (Nat.le_of_ble_eq_true rfl)
  rw [lg_entry_eq]
  generalize (lg_sl ([.ref (a 0), .int (nI c9), .int (nI w9), .ref o]) ++ List.replicate (5 - (lg_sl ([.ref (a 0), .int (nI c9), .int (nI w9), .ref o])).length) Slot.unset).toArray = ls at hl ⊢
  have hl : lv_has ls 5 [(0, .ref (a 0)), (1, .int (nI c9)), (2, .int (nI w9)), (3, .ref o)] := hl
  refine x_more (mc := 0) (ms := 0) (Nat.le_of_ble_eq_true rfl) (Nat.le_of_ble_eq_true rfl) ?_
  refine lv_aload_n hx hb dL_certificate_0 rfl (lv_at hl 3 rfl) ?_
  refine lv_iconst (v := 0) hx hb dL_certificate_1 (by decide) ?_
  refine lv_aload_n hx hb dL_certificate_2 rfl (lv_at hl 0 rfl) ?_
  refine lv_iload_n hx hb dL_certificate_3 rfl (lv_at hl 1 rfl) ?_
  refine lv_iload_n hx hb dL_certificate_4 rfl (lv_at hl 2 rfl) ?_
  refine vp_callSi (W.runV (As := [.int (nI c9), .int (nI w9)]) (rest := [.int 0, .ref o]) ⟨hx, hb, hml, hown, hts⟩ (c_X5_certificate l dC dI a k u hC c9 w9 hc hw) (cwV 2 hts (wG_V wG_c q_501 q_502 q_503 q_1 q_504) rfl rfl rfl (by decide +kernel) ⟨Nat.le_of_ble_eq_true rfl, Nat.le_of_ble_eq_true rfl⟩) (w_roV hK (w_Pl hP) (ci := 5) (q0 := 0) rfl (wC_g0 a k _) rfl) rfl rfl hl.1 rfl (lv_room (Nat.le_of_ble_eq_true rfl)) dL_certificate_5 ⟨Nat.le_of_ble_eq_true rfl, Nat.le_of_ble_eq_true rfl⟩) (fun r9 hr9 => ?_)
  subst hr9
  refine lv_i2l hx hb dL_certificate_8 rfl ?_
  refine va_last hx hb hK hP hD hS 26 1 (cA := k.2.1) (n := 1) rfl rfl (i := 0) vp_in01 dL_certificate_9 (fun H locs hP hD hS => ?_)
  have hP := w_pE (wL_s26 a o k _ _ _) hP
  have hD := w_dE (wL_s26 a o k _ _ _) hD
  refine lv_goto (tgt := 17) hx hb dL_certificate_10 (by decide) ?_
  refine lv_iconst (v := 0) hx hb dL_certificate_17 (by decide) ?_
  exact W.iret (v := 0) hx hb hr (fun t9 ht9 hW9 => ⟨⟨_, (u, vp_updL f (0 : Int32).toNatClampNeg ((if w9 = 0 then nI (cu_F u 7 c9) else if w9 = 1 then cu_G u 1 c9 else cu_G u 2 c9).toInt64)), rfl, hpost _ (wO_0 f _), by rw [ht9]; exact hP, va_K.moved hW9.alike hK, hD⟩, hS.F ht9⟩) hS.2.2 dL_certificate_18
set_option maxHeartbeats 4000000 in
set_option maxRecDepth 100000 in
theorem r_certificate_1 (l : Launch) (dC : Nat → ClassId) (dI : Nat → Nat → Nat) (a : Nat → Nat) (k : c_K) (u : c_St) (o : Nat) (f : Nat → Int64) (sz : Nat) (hst : l.stackTraces = false)    (hC : cu_N u 3 ≤ 200) (p0 p1 : Int32) (hb9 : isS (cu_N u 3) p0 = false) (post : Int32 → c_X → Prop) (hpost : post 1 (u, f)) : Met l yL_certificate wsL_certificate ({ frames := 8, cells := 1, slots := 6, locals := 150 }) (va_Pc [.ref (a 0), .int p0, .int p1, .ref o] (w_wr (dC, dI) vwCl (wL a o k (u, f)) (tC k) sz)) (va_Qi post (w_at (dC, dI) vwCl (wL a o k) (tC k) (va_A (wL a o k (u, f)) sz)) (va_A (wL a o k (u, f)) sz)) 1 6 (va_A (wL a o k (u, f)) sz) := by
  refine va_MetW (cc := cL_certificate) (maxL := 5) (ret := (some .int)) (by decide) rfl ?_
  intro p e s m args below meth c s₁ B hml hv
  obtain ⟨rfl, ⟨hsz, hP, hK, hD0, hX⟩, hNC⟩ := hv
  have hx := B.exec
  have hb := B.bytes
  have hr := B.returns
  have hts := atoms_spec (ws := wsL_certificate) B.pre
  have htg : ∀ w ∈ wG, w.before _ s = true := fun w h => hts w (List.mem_cons_of_mem _ h)
  have hown : s.vm.findClass RL = some m.cls := findClass_of_methodNamed B.named
  have hlocks := B.notSynchronized
  have htab := x_tab B (hts _ List.mem_cons_self)
  subst hsz
  have hX0 : w_x (va_A [] s.heap.size) s s.heap := hX.narrow (fun q h => Or.inr (va_A0.mp h))
  have hX1 : w_x (va_A (wC a k u) s.heap.size) s s.heap := hX.narrow (fun q h => va_Al h)
  have hP : va_P (dC, dI) vwCl (wC a k u ++ wO o k f) s.heap := hP
  have hD : va_D (va_A (wL a o k (u, f)) s.heap.size) (wC a k u ++ wO o k f) := hD0.self (sz := s.heap.size)
  have hAw : ∀ q, va_A (wC a k u) s.heap.size q → va_A (wL a o k (u, f)) s.heap.size q := fun q h => va_Al h
  generalize hAe : va_A (wL a o k (u, f)) s.heap.size = A at hD hAw ⊢
  have hA : ∀ q : Nat, s.heap.size ≤ q → A q := fun q h => by rw [← hAe]; exact Or.inr h
  have hS : va_S A s.heap s.heap [] := va_S.rf
  have hl := lv_entry ([.ref (a 0), .int p0, .int p1, .ref o]) (n := 5) (Nat.le_of_ble_eq_true rfl)
  rw [lg_entry_eq]
  generalize (lg_sl ([.ref (a 0), .int p0, .int p1, .ref o]) ++ List.replicate (5 - (lg_sl ([.ref (a 0), .int p0, .int p1, .ref o])).length) Slot.unset).toArray = ls at hl ⊢
  have hl : lv_has ls 5 [(0, .ref (a 0)), (1, .int p0), (2, .int p1), (3, .ref o)] := hl
  refine lv_aload_n hx hb dL_certificate_0 rfl (lv_at hl 3 rfl) ?_
  refine lv_iconst (v := 0) hx hb dL_certificate_1 (by decide) ?_
  refine lv_aload_n hx hb dL_certificate_2 rfl (lv_at hl 0 rfl) ?_
  refine lv_iload_n hx hb dL_certificate_3 rfl (lv_at hl 1 rfl) ?_
  refine lv_iload_n hx hb dL_certificate_4 rfl (lv_at hl 2 rfl) ?_
  refine XW.callV (As := [.int p0, .int p1]) (rest := [.int 0, .ref o]) ⟨hx, hb, hml, hown, hts⟩ (x_X5_certificate_1 l dC dI a k u _ hst hC p0 p1 hb9) (cwV 2 hts (wG_V wG_c q_501 q_502 q_503 q_1 q_504) rfl rfl rfl (by decide +kernel) ⟨Nat.le_of_ble_eq_true rfl, Nat.le_of_ble_eq_true rfl⟩) (w_pxV hK (w_Pl hP) hX0 (ci := 5) (q0 := 0) rfl (wC_g0 a k _) rfl) rfl hl.1 rfl (Nat.le_of_ble_eq_true rfl) dL_certificate_5 ⟨Nat.le_of_ble_eq_true rfl, Nat.le_of_ble_eq_true rfl⟩ (fun q9 st9 t9 H9 L9 h0 hfc ht9 hal9 hxc hL9 => ?_)
  obtain ⟨⟨ce9, k1, k2, k3⟩, hP, hS⟩ := x_back h0 hfc ht9 hxc hL9 hP hA
  refine XW.caught (own := RL) (name := eIAE) (E := eIAE) hown [] (x_en (0, 10, 13, 13)) [] htab (fun y9 hy9 => by cases hy9) rfl (by decide) (htg _ q_234) (x_cIAE hX0) k1 k2 k3 ?_
  refine lv_astore (lv' := [(4, .ref q9), (0, .ref (a 0)), (1, .int p0), (2, .int p1), (3, .ref o)]) hx hb dL_certificate_13 hl (by decide) rfl (fun ls hl => ?_)
  refine lv_iconst (v := 1) hx hb dL_certificate_15 (by decide) ?_
  exact W.iret (v := 1) hx hb hr (fun t9 ht9 hW9 => ⟨⟨_, (u, f), rfl, hpost, by rw [ht9]; exact hP, va_K.moved hW9.alike hK, hD⟩, hS.F ht9⟩) hS.2.2 dL_certificate_16
set_option maxHeartbeats 4000000 in
set_option maxRecDepth 100000 in
theorem r_certificate_2 (l : Launch) (dC : Nat → ClassId) (dI : Nat → Nat → Nat) (a : Nat → Nat) (k : c_K) (u : c_St) (o : Nat) (f : Nat → Int64) (sz : Nat) (hst : l.stackTraces = false)    (hC : cu_N u 3 ≤ 200) (c9 : Nat) (hc : c9 < cu_N u 3) (p1 : Int32) (hb9 : inR p1 0 2 = false) (post : Int32 → c_X → Prop) (hpost : post 1 (u, f)) : Met l yL_certificate wsL_certificate ({ frames := 8, cells := 1, slots := 6, locals := 150 }) (va_Pc [.ref (a 0), .int (nI c9), .int p1, .ref o] (w_wr (dC, dI) vwCl (wL a o k (u, f)) (tC k) sz)) (va_Qi post (w_at (dC, dI) vwCl (wL a o k) (tC k) (va_A (wL a o k (u, f)) sz)) (va_A (wL a o k (u, f)) sz)) 1 6 (va_A (wL a o k (u, f)) sz) := by
  refine va_MetW (cc := cL_certificate) (maxL := 5) (ret := (some .int)) (by decide) rfl ?_
  intro p e s m args below meth c s₁ B hml hv
  obtain ⟨rfl, ⟨hsz, hP, hK, hD0, hX⟩, hNC⟩ := hv
  have hx := B.exec
  have hb := B.bytes
  have hr := B.returns
  have hts := atoms_spec (ws := wsL_certificate) B.pre
  have htg : ∀ w ∈ wG, w.before _ s = true := fun w h => hts w (List.mem_cons_of_mem _ h)
  have hown : s.vm.findClass RL = some m.cls := findClass_of_methodNamed B.named
  have hlocks := B.notSynchronized
  have htab := x_tab B (hts _ List.mem_cons_self)
  subst hsz
  have hX0 : w_x (va_A [] s.heap.size) s s.heap := hX.narrow (fun q h => Or.inr (va_A0.mp h))
  have hX1 : w_x (va_A (wC a k u) s.heap.size) s s.heap := hX.narrow (fun q h => va_Al h)
  have hP : va_P (dC, dI) vwCl (wC a k u ++ wO o k f) s.heap := hP
  have hD : va_D (va_A (wL a o k (u, f)) s.heap.size) (wC a k u ++ wO o k f) := hD0.self (sz := s.heap.size)
  have hAw : ∀ q, va_A (wC a k u) s.heap.size q → va_A (wL a o k (u, f)) s.heap.size q := fun q h => va_Al h
  generalize hAe : va_A (wL a o k (u, f)) s.heap.size = A at hD hAw ⊢
  have hA : ∀ q : Nat, s.heap.size ≤ q → A q := fun q h => by rw [← hAe]; exact Or.inr h
  have hS : va_S A s.heap s.heap [] := va_S.rf
  have hl := lv_entry ([.ref (a 0), .int (nI c9), .int p1, .ref o]) (n := 5) (Nat.le_of_ble_eq_true rfl)
  rw [lg_entry_eq]
  generalize (lg_sl ([.ref (a 0), .int (nI c9), .int p1, .ref o]) ++ List.replicate (5 - (lg_sl ([.ref (a 0), .int (nI c9), .int p1, .ref o])).length) Slot.unset).toArray = ls at hl ⊢
  have hl : lv_has ls 5 [(0, .ref (a 0)), (1, .int (nI c9)), (2, .int p1), (3, .ref o)] := hl
  refine lv_aload_n hx hb dL_certificate_0 rfl (lv_at hl 3 rfl) ?_
  refine lv_iconst (v := 0) hx hb dL_certificate_1 (by decide) ?_
  refine lv_aload_n hx hb dL_certificate_2 rfl (lv_at hl 0 rfl) ?_
  refine lv_iload_n hx hb dL_certificate_3 rfl (lv_at hl 1 rfl) ?_
  refine lv_iload_n hx hb dL_certificate_4 rfl (lv_at hl 2 rfl) ?_
  refine XW.callV (As := [.int (nI c9), .int p1]) (rest := [.int 0, .ref o]) ⟨hx, hb, hml, hown, hts⟩ (x_X5_certificate_2 l dC dI a k u _ hst hC c9 hc p1 hb9) (cwV 2 hts (wG_V wG_c q_501 q_502 q_503 q_1 q_504) rfl rfl rfl (by decide +kernel) ⟨Nat.le_of_ble_eq_true rfl, Nat.le_of_ble_eq_true rfl⟩) (w_pxV hK (w_Pl hP) hX0 (ci := 5) (q0 := 0) rfl (wC_g0 a k _) rfl) rfl hl.1 rfl (Nat.le_of_ble_eq_true rfl) dL_certificate_5 ⟨Nat.le_of_ble_eq_true rfl, Nat.le_of_ble_eq_true rfl⟩ (fun q9 st9 t9 H9 L9 h0 hfc ht9 hal9 hxc hL9 => ?_)
  obtain ⟨⟨ce9, k1, k2, k3⟩, hP, hS⟩ := x_back h0 hfc ht9 hxc hL9 hP hA
  refine XW.caught (own := RL) (name := eIAE) (E := eIAE) hown [] (x_en (0, 10, 13, 13)) [] htab (fun y9 hy9 => by cases hy9) rfl (by decide) (htg _ q_234) (x_cIAE hX0) k1 k2 k3 ?_
  refine lv_astore (lv' := [(4, .ref q9), (0, .ref (a 0)), (1, .int (nI c9)), (2, .int p1), (3, .ref o)]) hx hb dL_certificate_13 hl (by decide) rfl (fun ls hl => ?_)
  refine lv_iconst (v := 1) hx hb dL_certificate_15 (by decide) ?_
  exact W.iret (v := 1) hx hb hr (fun t9 ht9 hW9 => ⟨⟨_, (u, f), rfl, hpost, by rw [ht9]; exact hP, va_K.moved hW9.alike hK, hD⟩, hS.F ht9⟩) hS.2.2 dL_certificate_16
set_option maxHeartbeats 4000000 in
set_option maxRecDepth 100000 in
theorem r_right_0 (l : Launch) (dC : Nat → ClassId) (dI : Nat → Nat → Nat) (a : Nat → Nat) (k : c_K) (u : c_St) (o : Nat) (f : Nat → Int64) (sz : Nat) (hst : l.stackTraces = false)   (ps ic : Nat) (hp : ps ≤ 19) (hi : ic ≤ 49) (on : Bool) (post : Int32 → c_X → Prop) (hpost : ∀ u1 : c_St, u1 = cs_B u 2 (ps * 50 + ic) on → post 0 (u1, f)) : Met l yL_right wsL_right ({ frames := 8, cells := 1, slots := 6, locals := 150 }) (va_Pc [.ref (a 0), .int (nI ps), .int (nI ic), .int (bI on)] (w_wr (dC, dI) vwCl (wL a o k (u, f)) (tC k) sz)) (va_Qi post (w_at (dC, dI) vwCl (wL a o k) (tC k) (va_A (wL a o k (u, f)) sz)) (va_A (wL a o k (u, f)) sz)) 1 6 (va_A (wL a o k (u, f)) sz) := by
  refine va_MetW (cc := cL_right) (maxL := 5) (ret := (some .int)) (by decide) rfl ?_
  intro p e s m args below meth c s₁ B hml hv
  obtain ⟨rfl, ⟨hsz, hP, hK, hD0, hX⟩, hNC⟩ := hv
  have hx := B.exec
  have hb := B.bytes
  have hr := B.returns
  have hts := atoms_spec (ws := wsL_right) B.pre
  have htg : ∀ w ∈ wG, w.before _ s = true := fun w h => hts w (List.mem_cons_of_mem _ h)
  have hown : s.vm.findClass RL = some m.cls := findClass_of_methodNamed B.named
  have hlocks := B.notSynchronized
  have htab := x_tab B (hts _ List.mem_cons_self)
  subst hsz
  have hX0 : w_x (va_A [] s.heap.size) s s.heap := hX.narrow (fun q h => Or.inr (va_A0.mp h))
  have hX1 : w_x (va_A (wC a k u) s.heap.size) s s.heap := hX.narrow (fun q h => va_Al h)
  have hP : va_P (dC, dI) vwCl (wC a k u ++ wO o k f) s.heap := hP
  have hD : va_D (va_A (wL a o k (u, f)) s.heap.size) (wC a k u ++ wO o k f) := hD0.self (sz := s.heap.size)
  have hAw : ∀ q, va_A (wC a k u) s.heap.size q → va_A (wL a o k (u, f)) s.heap.size q := fun q h => va_Al h
  generalize hAe : va_A (wL a o k (u, f)) s.heap.size = A at hD hAw ⊢
  have hA : ∀ q : Nat, s.heap.size ≤ q → A q := fun q h => by rw [← hAe]; exact Or.inr h
  have hS : va_S A s.heap s.heap [] := va_S.rf
  have hl := lv_entry ([.ref (a 0), .int (nI ps), .int (nI ic), .int (bI on)]) (n := 5) (Nat.le_of_ble_eq_true rfl)
  rw [lg_entry_eq]
  generalize (lg_sl ([.ref (a 0), .int (nI ps), .int (nI ic), .int (bI on)]) ++ List.replicate (5 - (lg_sl ([.ref (a 0), .int (nI ps), .int (nI ic), .int (bI on)])).length) Slot.unset).toArray = ls at hl ⊢
  have hl : lv_has ls 5 [(0, .ref (a 0)), (1, .int (nI ps)), (2, .int (nI ic)), (3, .int (bI on))] := hl
  refine x_more (mc := 0) (ms := 0) (Nat.le_of_ble_eq_true rfl) (Nat.le_of_ble_eq_true rfl) ?_
  refine lv_aload_n hx hb dL_right_0 rfl (lv_at hl 0 rfl) ?_
  refine lv_iload_n hx hb dL_right_1 rfl (lv_at hl 1 rfl) ?_
  refine lv_iload_n hx hb dL_right_2 rfl (lv_at hl 2 rfl) ?_
  refine lv_iload_n hx hb dL_right_3 rfl (lv_at hl 3 rfl) ?_
  refine w_callv (w := wC a k) (va_runV (As := [.int (nI ps), .int (nI ic), .int (bI on)]) (rest := []) ⟨hx, hb, hml, hown, hts⟩ (c_X5_right l dC dI a k u _ ps ic hp hi on) (cwV 3 hts (wG_V wG_c q_510 q_511 q_512 q_1 q_513) rfl rfl rfl (by decide +kernel) ⟨Nat.le_of_ble_eq_true rfl, Nat.le_of_ble_eq_true rfl⟩) (w_muV hK (w_Pl hP) (w_Dl hD) (ci := 5) (q0 := 0) rfl (wC_g0 a k _) rfl) rfl rfl hl.1 rfl (lv_room (Nat.le_of_ble_eq_true rfl)) dL_right_4 ⟨Nat.le_of_ble_eq_true rfl, Nat.le_of_ble_eq_true rfl⟩) hP hD hS hA (fun u9 H locs hp9 hP hD hS => ?_)
  refine lv_goto (tgt := 14) hx hb dL_right_7 (by decide) ?_
  refine lv_iconst (v := 0) hx hb dL_right_14 (by decide) ?_
  exact W.iret (v := 0) hx hb hr (fun t9 ht9 hW9 => ⟨⟨_, (u9, f), rfl, hpost u9 hp9, by rw [ht9]; exact hP, va_K.moved hW9.alike hK, hD⟩, hS.F ht9⟩) hS.2.2 dL_right_15
set_option maxHeartbeats 4000000 in
set_option maxRecDepth 100000 in
theorem r_right_1 (l : Launch) (dC : Nat → ClassId) (dI : Nat → Nat → Nat) (a : Nat → Nat) (k : c_K) (u : c_St) (o : Nat) (f : Nat → Int64) (sz : Nat) (hst : l.stackTraces = false)    (p0 p1 : Int32) (on : Bool) (hb9 : inR p0 0 19 = false) (post : Int32 → c_X → Prop) (hpost : post 1 (u, f)) : Met l yL_right wsL_right ({ frames := 8, cells := 1, slots := 6, locals := 150 }) (va_Pc [.ref (a 0), .int p0, .int p1, .int (bI on)] (w_wr (dC, dI) vwCl (wL a o k (u, f)) (tC k) sz)) (va_Qi post (w_at (dC, dI) vwCl (wL a o k) (tC k) (va_A (wL a o k (u, f)) sz)) (va_A (wL a o k (u, f)) sz)) 1 6 (va_A (wL a o k (u, f)) sz) := by
  refine va_MetW (cc := cL_right) (maxL := 5) (ret := (some .int)) (by decide) rfl ?_
  intro p e s m args below meth c s₁ B hml hv
  obtain ⟨rfl, ⟨hsz, hP, hK, hD0, hX⟩, hNC⟩ := hv
  have hx := B.exec
  have hb := B.bytes
  have hr := B.returns
  have hts := atoms_spec (ws := wsL_right) B.pre
  have htg : ∀ w ∈ wG, w.before _ s = true := fun w h => hts w (List.mem_cons_of_mem _ h)
  have hown : s.vm.findClass RL = some m.cls := findClass_of_methodNamed B.named
  have hlocks := B.notSynchronized
  have htab := x_tab B (hts _ List.mem_cons_self)
  subst hsz
  have hX0 : w_x (va_A [] s.heap.size) s s.heap := hX.narrow (fun q h => Or.inr (va_A0.mp h))
  have hX1 : w_x (va_A (wC a k u) s.heap.size) s s.heap := hX.narrow (fun q h => va_Al h)
  have hP : va_P (dC, dI) vwCl (wC a k u ++ wO o k f) s.heap := hP
  have hD : va_D (va_A (wL a o k (u, f)) s.heap.size) (wC a k u ++ wO o k f) := hD0.self (sz := s.heap.size)
  have hAw : ∀ q, va_A (wC a k u) s.heap.size q → va_A (wL a o k (u, f)) s.heap.size q := fun q h => va_Al h
  generalize hAe : va_A (wL a o k (u, f)) s.heap.size = A at hD hAw ⊢
  have hA : ∀ q : Nat, s.heap.size ≤ q → A q := fun q h => by rw [← hAe]; exact Or.inr h
  have hS : va_S A s.heap s.heap [] := va_S.rf
  have hl := lv_entry ([.ref (a 0), .int p0, .int p1, .int (bI on)]) (n := 5) (Nat.le_of_ble_eq_true rfl)
  rw [lg_entry_eq]
  generalize (lg_sl ([.ref (a 0), .int p0, .int p1, .int (bI on)]) ++ List.replicate (5 - (lg_sl ([.ref (a 0), .int p0, .int p1, .int (bI on)])).length) Slot.unset).toArray = ls at hl ⊢
  have hl : lv_has ls 5 [(0, .ref (a 0)), (1, .int p0), (2, .int p1), (3, .int (bI on))] := hl
  refine lv_aload_n hx hb dL_right_0 rfl (lv_at hl 0 rfl) ?_
  refine lv_iload_n hx hb dL_right_1 rfl (lv_at hl 1 rfl) ?_
  refine lv_iload_n hx hb dL_right_2 rfl (lv_at hl 2 rfl) ?_
  refine lv_iload_n hx hb dL_right_3 rfl (lv_at hl 3 rfl) ?_
  refine XW.callV (As := [.int p0, .int p1, .int (bI on)]) (rest := []) ⟨hx, hb, hml, hown, hts⟩ (x_X5_right_1 l dC dI a k u _ hst p0 p1 on hb9) (cwV 3 hts (wG_V wG_c q_510 q_511 q_512 q_1 q_513) rfl rfl rfl (by decide +kernel) ⟨Nat.le_of_ble_eq_true rfl, Nat.le_of_ble_eq_true rfl⟩) (w_pxV hK (w_Pl hP) hX0 (ci := 5) (q0 := 0) rfl (wC_g0 a k _) rfl) rfl hl.1 rfl (Nat.le_of_ble_eq_true rfl) dL_right_4 ⟨Nat.le_of_ble_eq_true rfl, Nat.le_of_ble_eq_true rfl⟩ (fun q9 st9 t9 H9 L9 h0 hfc ht9 hal9 hxc hL9 => ?_)
  obtain ⟨⟨ce9, k1, k2, k3⟩, hP, hS⟩ := x_back h0 hfc ht9 hxc hL9 hP hA
  refine XW.caught (own := RL) (name := eIAE) (E := eIAE) hown [] (x_en (0, 7, 10, 13)) [] htab (fun y9 hy9 => by cases hy9) rfl (by decide) (htg _ q_234) (x_cIAE hX0) k1 k2 k3 ?_
  refine lv_astore (lv' := [(4, .ref q9), (0, .ref (a 0)), (1, .int p0), (2, .int p1), (3, .int (bI on))]) hx hb dL_right_10 hl (by decide) rfl (fun ls hl => ?_)
  refine lv_iconst (v := 1) hx hb dL_right_12 (by decide) ?_
  exact W.iret (v := 1) hx hb hr (fun t9 ht9 hW9 => ⟨⟨_, (u, f), rfl, hpost, by rw [ht9]; exact hP, va_K.moved hW9.alike hK, hD⟩, hS.F ht9⟩) hS.2.2 dL_right_13
set_option maxHeartbeats 4000000 in
set_option maxRecDepth 100000 in
theorem r_right_2 (l : Launch) (dC : Nat → ClassId) (dI : Nat → Nat → Nat) (a : Nat → Nat) (k : c_K) (u : c_St) (o : Nat) (f : Nat → Int64) (sz : Nat) (hst : l.stackTraces = false)    (ps : Nat) (hp : ps ≤ 19) (p1 : Int32) (on : Bool) (hb9 : inR p1 0 49 = false) (post : Int32 → c_X → Prop) (hpost : post 1 (u, f)) : Met l yL_right wsL_right ({ frames := 8, cells := 1, slots := 6, locals := 150 }) (va_Pc [.ref (a 0), .int (nI ps), .int p1, .int (bI on)] (w_wr (dC, dI) vwCl (wL a o k (u, f)) (tC k) sz)) (va_Qi post (w_at (dC, dI) vwCl (wL a o k) (tC k) (va_A (wL a o k (u, f)) sz)) (va_A (wL a o k (u, f)) sz)) 1 6 (va_A (wL a o k (u, f)) sz) := by
  refine va_MetW (cc := cL_right) (maxL := 5) (ret := (some .int)) (by decide) rfl ?_
  intro p e s m args below meth c s₁ B hml hv
  obtain ⟨rfl, ⟨hsz, hP, hK, hD0, hX⟩, hNC⟩ := hv
  have hx := B.exec
  have hb := B.bytes
  have hr := B.returns
  have hts := atoms_spec (ws := wsL_right) B.pre
  have htg : ∀ w ∈ wG, w.before _ s = true := fun w h => hts w (List.mem_cons_of_mem _ h)
  have hown : s.vm.findClass RL = some m.cls := findClass_of_methodNamed B.named
  have hlocks := B.notSynchronized
  have htab := x_tab B (hts _ List.mem_cons_self)
  subst hsz
  have hX0 : w_x (va_A [] s.heap.size) s s.heap := hX.narrow (fun q h => Or.inr (va_A0.mp h))
  have hX1 : w_x (va_A (wC a k u) s.heap.size) s s.heap := hX.narrow (fun q h => va_Al h)
  have hP : va_P (dC, dI) vwCl (wC a k u ++ wO o k f) s.heap := hP
  have hD : va_D (va_A (wL a o k (u, f)) s.heap.size) (wC a k u ++ wO o k f) := hD0.self (sz := s.heap.size)
  have hAw : ∀ q, va_A (wC a k u) s.heap.size q → va_A (wL a o k (u, f)) s.heap.size q := fun q h => va_Al h
  generalize hAe : va_A (wL a o k (u, f)) s.heap.size = A at hD hAw ⊢
  have hA : ∀ q : Nat, s.heap.size ≤ q → A q := fun q h => by rw [← hAe]; exact Or.inr h
  have hS : va_S A s.heap s.heap [] := va_S.rf
  have hl := lv_entry ([.ref (a 0), .int (nI ps), .int p1, .int (bI on)]) (n := 5) (Nat.le_of_ble_eq_true rfl)
  rw [lg_entry_eq]
  generalize (lg_sl ([.ref (a 0), .int (nI ps), .int p1, .int (bI on)]) ++ List.replicate (5 - (lg_sl ([.ref (a 0), .int (nI ps), .int p1, .int (bI on)])).length) Slot.unset).toArray = ls at hl ⊢
  have hl : lv_has ls 5 [(0, .ref (a 0)), (1, .int (nI ps)), (2, .int p1), (3, .int (bI on))] := hl
  refine lv_aload_n hx hb dL_right_0 rfl (lv_at hl 0 rfl) ?_
  refine lv_iload_n hx hb dL_right_1 rfl (lv_at hl 1 rfl) ?_
  refine lv_iload_n hx hb dL_right_2 rfl (lv_at hl 2 rfl) ?_
  refine lv_iload_n hx hb dL_right_3 rfl (lv_at hl 3 rfl) ?_
  refine XW.callV (As := [.int (nI ps), .int p1, .int (bI on)]) (rest := []) ⟨hx, hb, hml, hown, hts⟩ (x_X5_right_2 l dC dI a k u _ hst ps hp p1 on hb9) (cwV 3 hts (wG_V wG_c q_510 q_511 q_512 q_1 q_513) rfl rfl rfl (by decide +kernel) ⟨Nat.le_of_ble_eq_true rfl, Nat.le_of_ble_eq_true rfl⟩) (w_pxV hK (w_Pl hP) hX0 (ci := 5) (q0 := 0) rfl (wC_g0 a k _) rfl) rfl hl.1 rfl (Nat.le_of_ble_eq_true rfl) dL_right_4 ⟨Nat.le_of_ble_eq_true rfl, Nat.le_of_ble_eq_true rfl⟩ (fun q9 st9 t9 H9 L9 h0 hfc ht9 hal9 hxc hL9 => ?_)
  obtain ⟨⟨ce9, k1, k2, k3⟩, hP, hS⟩ := x_back h0 hfc ht9 hxc hL9 hP hA
  refine XW.caught (own := RL) (name := eIAE) (E := eIAE) hown [] (x_en (0, 7, 10, 13)) [] htab (fun y9 hy9 => by cases hy9) rfl (by decide) (htg _ q_234) (x_cIAE hX0) k1 k2 k3 ?_
  refine lv_astore (lv' := [(4, .ref q9), (0, .ref (a 0)), (1, .int (nI ps)), (2, .int p1), (3, .int (bI on))]) hx hb dL_right_10 hl (by decide) rfl (fun ls hl => ?_)
  refine lv_iconst (v := 1) hx hb dL_right_12 (by decide) ?_
  exact W.iret (v := 1) hx hb hr (fun t9 ht9 hW9 => ⟨⟨_, (u, f), rfl, hpost, by rw [ht9]; exact hP, va_K.moved hW9.alike hK, hD⟩, hS.F ht9⟩) hS.2.2 dL_right_13
set_option maxHeartbeats 4000000 in
set_option maxRecDepth 100000 in
theorem r_listen_0 (l : Launch) (dC : Nat → ClassId) (dI : Nat → Nat → Nat) (a : Nat → Nat) (k : c_K) (u : c_St) (o : Nat) (f : Nat → Int64) (sz : Nat) (hst : l.stackTraces = false)   (h : c_ok u) (hR : cu_N u 4 ≤ 600) (ps n : Nat) (hp : ps ≤ 19) (hn : n < cu_N u 0) (ht : cu_B u 0 n = true) (hm : cu_B u 2 (ps * 50 + cu_F u 4 n) = true) (post : Int32 → c_X → Prop) (hpost : ∀ (r : Int32) (u1 : c_St) (g : Nat → Int64), (r = c_now u n ∧ u1 = cs_N (cs_B (cs_F (cs_F u 8 (cu_N u 4 % 200) ps) 9 (cu_N u 4 % 200) n) 1 (cu_N u 4 % 200) true) 4 (cu_N u 4 + 1)) → g 0 = r.toInt64 → post 0 (u1, g)) : Met l yL_listen wsL_listen ({ frames := 8, cells := 1, slots := 6, locals := 150 }) (va_Pc [.ref (a 0), .int (nI ps), .int (nI n), .ref o] (w_wr (dC, dI) vwCl (wL a o k (u, f)) (tC k) sz)) (va_Qi post (w_at (dC, dI) vwCl (wL a o k) (tC k) (va_A (wL a o k (u, f)) sz)) (va_A (wL a o k (u, f)) sz)) 1 6 (va_A (wL a o k (u, f)) sz) := by
  refine va_MetW (cc := cL_listen) (maxL := 5) (ret := (some .int)) (by decide) rfl ?_
  intro p e s m args below meth c s₁ B hml hv
  obtain ⟨rfl, ⟨hsz, hP, hK, hD0, hX⟩, hNC⟩ := hv
  have hx := B.exec
  have hb := B.bytes
  have hr := B.returns
  have hts := atoms_spec (ws := wsL_listen) B.pre
  have htg : ∀ w ∈ wG, w.before _ s = true := fun w h => hts w (List.mem_cons_of_mem _ h)
  have hown : s.vm.findClass RL = some m.cls := findClass_of_methodNamed B.named
  have hlocks := B.notSynchronized
  have htab := x_tab B (hts _ List.mem_cons_self)
  subst hsz
  have hX0 : w_x (va_A [] s.heap.size) s s.heap := hX.narrow (fun q h => Or.inr (va_A0.mp h))
  have hX1 : w_x (va_A (wC a k u) s.heap.size) s s.heap := hX.narrow (fun q h => va_Al h)
  have hP : va_P (dC, dI) vwCl (wC a k u ++ wO o k f) s.heap := hP
  have hD : va_D (va_A (wL a o k (u, f)) s.heap.size) (wC a k u ++ wO o k f) := hD0.self (sz := s.heap.size)
  have hAw : ∀ q, va_A (wC a k u) s.heap.size q → va_A (wL a o k (u, f)) s.heap.size q := fun q h => va_Al h
  generalize hAe : va_A (wL a o k (u, f)) s.heap.size = A at hD hAw ⊢
  have hA : ∀ q : Nat, s.heap.size ≤ q → A q := fun q h => by rw [← hAe]; exact Or.inr h
  have hS : va_S A s.heap s.heap [] := va_S.rf
  have hl := lv_entry ([.ref (a 0), .int (nI ps), .int (nI n), .ref o]) (n := 5) (Nat.le_of_ble_eq_true rfl)
  rw [lg_entry_eq]
  generalize (lg_sl ([.ref (a 0), .int (nI ps), .int (nI n), .ref o]) ++ List.replicate (5 - (lg_sl ([.ref (a 0), .int (nI ps), .int (nI n), .ref o])).length) Slot.unset).toArray = ls at hl ⊢
  have hl : lv_has ls 5 [(0, .ref (a 0)), (1, .int (nI ps)), (2, .int (nI n)), (3, .ref o)] := hl
  refine x_more (mc := 0) (ms := 0) (Nat.le_of_ble_eq_true rfl) (Nat.le_of_ble_eq_true rfl) ?_
  refine lv_aload_n hx hb dL_listen_0 rfl (lv_at hl 3 rfl) ?_
  refine lv_iconst (v := 0) hx hb dL_listen_1 (by decide) ?_
  refine lv_aload_n hx hb dL_listen_2 rfl (lv_at hl 0 rfl) ?_
  refine lv_iload_n hx hb dL_listen_3 rfl (lv_at hl 1 rfl) ?_
  refine lv_iload_n hx hb dL_listen_4 rfl (lv_at hl 2 rfl) ?_
  refine w_calli (w := wC a k) (va_runV (As := [.int (nI ps), .int (nI n)]) (rest := [.int 0, .ref o]) ⟨hx, hb, hml, hown, hts⟩ (c_X5_listen l dC dI a k u _ h hR ps n hp hn ht hm) (cwV 2 hts (wG_V wG_c q_525 q_526 q_527 q_1 q_528) rfl rfl rfl (by decide +kernel) ⟨Nat.le_of_ble_eq_true rfl, Nat.le_of_ble_eq_true rfl⟩) (w_muV hK (w_Pl hP) (w_Dl hD) (ci := 5) (q0 := 0) rfl (wC_g0 a k _) rfl) rfl rfl hl.1 rfl (lv_room (Nat.le_of_ble_eq_true rfl)) dL_listen_5 ⟨Nat.le_of_ble_eq_true rfl, Nat.le_of_ble_eq_true rfl⟩) hP hD hS hA (fun r9 u9 H locs hp9 hP hD hS => ?_)
  refine lv_i2l hx hb dL_listen_8 rfl ?_
  refine va_last hx hb hK hP hD hS 26 1 (cA := k.2.1) (n := 1) rfl rfl (i := 0) vp_in01 dL_listen_9 (fun H locs hP hD hS => ?_)
  have hP := w_pE (wL_s26 a o k _ _ _) hP
  have hD := w_dE (wL_s26 a o k _ _ _) hD
  refine lv_goto (tgt := 21) hx hb dL_listen_10 (by decide) ?_
  refine lv_iconst (v := 0) hx hb dL_listen_21 (by decide) ?_
  exact W.iret (v := 0) hx hb hr (fun t9 ht9 hW9 => ⟨⟨_, (u9, vp_updL f (0 : Int32).toNatClampNeg r9.toInt64), rfl, hpost _ _ _ hp9 (wO_0 f _), by rw [ht9]; exact hP, va_K.moved hW9.alike hK, hD⟩, hS.F ht9⟩) hS.2.2 dL_listen_22
set_option maxHeartbeats 4000000 in
set_option maxRecDepth 100000 in
theorem r_listen_1 (l : Launch) (dC : Nat → ClassId) (dI : Nat → Nat → Nat) (a : Nat → Nat) (k : c_K) (u : c_St) (o : Nat) (f : Nat → Int64) (sz : Nat) (hst : l.stackTraces = false)    (p0 p1 : Int32) (hb9 : inR p0 0 19 = false) (post : Int32 → c_X → Prop) (hpost : post 1 (u, f)) : Met l yL_listen wsL_listen ({ frames := 8, cells := 1, slots := 6, locals := 150 }) (va_Pc [.ref (a 0), .int p0, .int p1, .ref o] (w_wr (dC, dI) vwCl (wL a o k (u, f)) (tC k) sz)) (va_Qi post (w_at (dC, dI) vwCl (wL a o k) (tC k) (va_A (wL a o k (u, f)) sz)) (va_A (wL a o k (u, f)) sz)) 1 6 (va_A (wL a o k (u, f)) sz) := by
  refine va_MetW (cc := cL_listen) (maxL := 5) (ret := (some .int)) (by decide) rfl ?_
  intro p e s m args below meth c s₁ B hml hv
  obtain ⟨rfl, ⟨hsz, hP, hK, hD0, hX⟩, hNC⟩ := hv
  have hx := B.exec
  have hb := B.bytes
  have hr := B.returns
  have hts := atoms_spec (ws := wsL_listen) B.pre
  have htg : ∀ w ∈ wG, w.before _ s = true := fun w h => hts w (List.mem_cons_of_mem _ h)
  have hown : s.vm.findClass RL = some m.cls := findClass_of_methodNamed B.named
  have hlocks := B.notSynchronized
  have htab := x_tab B (hts _ List.mem_cons_self)
  subst hsz
  have hX0 : w_x (va_A [] s.heap.size) s s.heap := hX.narrow (fun q h => Or.inr (va_A0.mp h))
  have hX1 : w_x (va_A (wC a k u) s.heap.size) s s.heap := hX.narrow (fun q h => va_Al h)
  have hP : va_P (dC, dI) vwCl (wC a k u ++ wO o k f) s.heap := hP
  have hD : va_D (va_A (wL a o k (u, f)) s.heap.size) (wC a k u ++ wO o k f) := hD0.self (sz := s.heap.size)
  have hAw : ∀ q, va_A (wC a k u) s.heap.size q → va_A (wL a o k (u, f)) s.heap.size q := fun q h => va_Al h
  generalize hAe : va_A (wL a o k (u, f)) s.heap.size = A at hD hAw ⊢
  have hA : ∀ q : Nat, s.heap.size ≤ q → A q := fun q h => by rw [← hAe]; exact Or.inr h
  have hS : va_S A s.heap s.heap [] := va_S.rf
  have hl := lv_entry ([.ref (a 0), .int p0, .int p1, .ref o]) (n := 5) (Nat.le_of_ble_eq_true rfl)
  rw [lg_entry_eq]
  generalize (lg_sl ([.ref (a 0), .int p0, .int p1, .ref o]) ++ List.replicate (5 - (lg_sl ([.ref (a 0), .int p0, .int p1, .ref o])).length) Slot.unset).toArray = ls at hl ⊢
  have hl : lv_has ls 5 [(0, .ref (a 0)), (1, .int p0), (2, .int p1), (3, .ref o)] := hl
  refine lv_aload_n hx hb dL_listen_0 rfl (lv_at hl 3 rfl) ?_
  refine lv_iconst (v := 0) hx hb dL_listen_1 (by decide) ?_
  refine lv_aload_n hx hb dL_listen_2 rfl (lv_at hl 0 rfl) ?_
  refine lv_iload_n hx hb dL_listen_3 rfl (lv_at hl 1 rfl) ?_
  refine lv_iload_n hx hb dL_listen_4 rfl (lv_at hl 2 rfl) ?_
  refine XW.callV (As := [.int p0, .int p1]) (rest := [.int 0, .ref o]) ⟨hx, hb, hml, hown, hts⟩ (x_X5_listen_1 l dC dI a k u _ hst p0 p1 hb9) (cwV 2 hts (wG_V wG_c q_525 q_526 q_527 q_1 q_528) rfl rfl rfl (by decide +kernel) ⟨Nat.le_of_ble_eq_true rfl, Nat.le_of_ble_eq_true rfl⟩) (w_pxV hK (w_Pl hP) hX0 (ci := 5) (q0 := 0) rfl (wC_g0 a k _) rfl) rfl hl.1 rfl (Nat.le_of_ble_eq_true rfl) dL_listen_5 ⟨Nat.le_of_ble_eq_true rfl, Nat.le_of_ble_eq_true rfl⟩ (fun q9 st9 t9 H9 L9 h0 hfc ht9 hal9 hxc hL9 => ?_)
  obtain ⟨⟨ce9, k1, k2, k3⟩, hP, hS⟩ := x_back h0 hfc ht9 hxc hL9 hP hA
  refine XW.caught (own := RL) (name := eIAE) (E := eIAE) hown [] (x_en (0, 10, 13, 13)) [(x_en (0, 10, 17, 37))] htab (fun y9 hy9 => by cases hy9) rfl (by decide) (htg _ q_234) (x_cIAE hX0) k1 k2 k3 ?_
  refine lv_astore (lv' := [(4, .ref q9), (0, .ref (a 0)), (1, .int p0), (2, .int p1), (3, .ref o)]) hx hb dL_listen_13 hl (by decide) rfl (fun ls hl => ?_)
  refine lv_iconst (v := 1) hx hb dL_listen_15 (by decide) ?_
  exact W.iret (v := 1) hx hb hr (fun t9 ht9 hW9 => ⟨⟨_, (u, f), rfl, hpost, by rw [ht9]; exact hP, va_K.moved hW9.alike hK, hD⟩, hS.F ht9⟩) hS.2.2 dL_listen_16
set_option maxHeartbeats 4000000 in
set_option maxRecDepth 100000 in
theorem r_listen_2 (l : Launch) (dC : Nat → ClassId) (dI : Nat → Nat → Nat) (a : Nat → Nat) (k : c_K) (u : c_St) (o : Nat) (f : Nat → Int64) (sz : Nat) (hst : l.stackTraces = false)    (h20 : cu_N u 0 ≤ 200) (ps : Nat) (hp : ps ≤ 19) (p1 : Int32) (hb9 : isS (cu_N u 0) p1 = false) (post : Int32 → c_X → Prop) (hpost : post 1 (u, f)) : Met l yL_listen wsL_listen ({ frames := 8, cells := 1, slots := 6, locals := 150 }) (va_Pc [.ref (a 0), .int (nI ps), .int p1, .ref o] (w_wr (dC, dI) vwCl (wL a o k (u, f)) (tC k) sz)) (va_Qi post (w_at (dC, dI) vwCl (wL a o k) (tC k) (va_A (wL a o k (u, f)) sz)) (va_A (wL a o k (u, f)) sz)) 1 6 (va_A (wL a o k (u, f)) sz) := by
  refine va_MetW (cc := cL_listen) (maxL := 5) (ret := (some .int)) (by decide) rfl ?_
  intro p e s m args below meth c s₁ B hml hv
  obtain ⟨rfl, ⟨hsz, hP, hK, hD0, hX⟩, hNC⟩ := hv
  have hx := B.exec
  have hb := B.bytes
  have hr := B.returns
  have hts := atoms_spec (ws := wsL_listen) B.pre
  have htg : ∀ w ∈ wG, w.before _ s = true := fun w h => hts w (List.mem_cons_of_mem _ h)
  have hown : s.vm.findClass RL = some m.cls := findClass_of_methodNamed B.named
  have hlocks := B.notSynchronized
  have htab := x_tab B (hts _ List.mem_cons_self)
  subst hsz
  have hX0 : w_x (va_A [] s.heap.size) s s.heap := hX.narrow (fun q h => Or.inr (va_A0.mp h))
  have hX1 : w_x (va_A (wC a k u) s.heap.size) s s.heap := hX.narrow (fun q h => va_Al h)
  have hP : va_P (dC, dI) vwCl (wC a k u ++ wO o k f) s.heap := hP
  have hD : va_D (va_A (wL a o k (u, f)) s.heap.size) (wC a k u ++ wO o k f) := hD0.self (sz := s.heap.size)
  have hAw : ∀ q, va_A (wC a k u) s.heap.size q → va_A (wL a o k (u, f)) s.heap.size q := fun q h => va_Al h
  generalize hAe : va_A (wL a o k (u, f)) s.heap.size = A at hD hAw ⊢
  have hA : ∀ q : Nat, s.heap.size ≤ q → A q := fun q h => by rw [← hAe]; exact Or.inr h
  have hS : va_S A s.heap s.heap [] := va_S.rf
  have hl := lv_entry ([.ref (a 0), .int (nI ps), .int p1, .ref o]) (n := 5) (Nat.le_of_ble_eq_true rfl)
  rw [lg_entry_eq]
  generalize (lg_sl ([.ref (a 0), .int (nI ps), .int p1, .ref o]) ++ List.replicate (5 - (lg_sl ([.ref (a 0), .int (nI ps), .int p1, .ref o])).length) Slot.unset).toArray = ls at hl ⊢
  have hl : lv_has ls 5 [(0, .ref (a 0)), (1, .int (nI ps)), (2, .int p1), (3, .ref o)] := hl
  refine lv_aload_n hx hb dL_listen_0 rfl (lv_at hl 3 rfl) ?_
  refine lv_iconst (v := 0) hx hb dL_listen_1 (by decide) ?_
  refine lv_aload_n hx hb dL_listen_2 rfl (lv_at hl 0 rfl) ?_
  refine lv_iload_n hx hb dL_listen_3 rfl (lv_at hl 1 rfl) ?_
  refine lv_iload_n hx hb dL_listen_4 rfl (lv_at hl 2 rfl) ?_
  refine XW.callV (As := [.int (nI ps), .int p1]) (rest := [.int 0, .ref o]) ⟨hx, hb, hml, hown, hts⟩ (x_X5_listen_2 l dC dI a k u _ hst h20 ps hp p1 hb9) (cwV 2 hts (wG_V wG_c q_525 q_526 q_527 q_1 q_528) rfl rfl rfl (by decide +kernel) ⟨Nat.le_of_ble_eq_true rfl, Nat.le_of_ble_eq_true rfl⟩) (w_pxV hK (w_Pl hP) hX0 (ci := 5) (q0 := 0) rfl (wC_g0 a k _) rfl) rfl hl.1 rfl (Nat.le_of_ble_eq_true rfl) dL_listen_5 ⟨Nat.le_of_ble_eq_true rfl, Nat.le_of_ble_eq_true rfl⟩ (fun q9 st9 t9 H9 L9 h0 hfc ht9 hal9 hxc hL9 => ?_)
  obtain ⟨⟨ce9, k1, k2, k3⟩, hP, hS⟩ := x_back h0 hfc ht9 hxc hL9 hP hA
  refine XW.caught (own := RL) (name := eIAE) (E := eIAE) hown [] (x_en (0, 10, 13, 13)) [(x_en (0, 10, 17, 37))] htab (fun y9 hy9 => by cases hy9) rfl (by decide) (htg _ q_234) (x_cIAE hX0) k1 k2 k3 ?_
  refine lv_astore (lv' := [(4, .ref q9), (0, .ref (a 0)), (1, .int (nI ps)), (2, .int p1), (3, .ref o)]) hx hb dL_listen_13 hl (by decide) rfl (fun ls hl => ?_)
  refine lv_iconst (v := 1) hx hb dL_listen_15 (by decide) ?_
  exact W.iret (v := 1) hx hb hr (fun t9 ht9 hW9 => ⟨⟨_, (u, f), rfl, hpost, by rw [ht9]; exact hP, va_K.moved hW9.alike hK, hD⟩, hS.F ht9⟩) hS.2.2 dL_listen_16
set_option maxHeartbeats 4000000 in
set_option maxRecDepth 100000 in
theorem r_listen_3 (l : Launch) (dC : Nat → ClassId) (dI : Nat → Nat → Nat) (a : Nat → Nat) (k : c_K) (u : c_St) (o : Nat) (f : Nat → Int64) (sz : Nat) (hst : l.stackTraces = false)    (h : c_ok u) (hR : cu_N u 4 ≤ 600) (ps n : Nat) (hp : ps ≤ 19) (hn : n < cu_N u 0) (hm : (cu_B u 0 n && cu_B u 2 (ps * 50 + cu_F u 4 n)) = false) (post : Int32 → c_X → Prop) (hpost : ∀ u1 : c_St, u1 = cs_N (cs_B (cs_F (cs_F u 8 (cu_N u 4 % 200) ps) 9 (cu_N u 4 % 200) n) 1 (cu_N u 4 % 200) false) 4 (cu_N u 4 + 1) → post 2 (u1, f)) : Met l yL_listen wsL_listen ({ frames := 8, cells := 1, slots := 6, locals := 150 }) (va_Pc [.ref (a 0), .int (nI ps), .int (nI n), .ref o] (w_wr (dC, dI) vwCl (wL a o k (u, f)) (tC k) sz)) (va_Qi post (w_at (dC, dI) vwCl (wL a o k) (tC k) (va_A (wL a o k (u, f)) sz)) (va_A (wL a o k (u, f)) sz)) 1 6 (va_A (wL a o k (u, f)) sz) := by
  refine va_MetW (cc := cL_listen) (maxL := 5) (ret := (some .int)) (by decide) rfl ?_
  intro p e s m args below meth c s₁ B hml hv
  obtain ⟨rfl, ⟨hsz, hP, hK, hD0, hX⟩, hNC⟩ := hv
  have hx := B.exec
  have hb := B.bytes
  have hr := B.returns
  have hts := atoms_spec (ws := wsL_listen) B.pre
  have htg : ∀ w ∈ wG, w.before _ s = true := fun w h => hts w (List.mem_cons_of_mem _ h)
  have hown : s.vm.findClass RL = some m.cls := findClass_of_methodNamed B.named
  have hlocks := B.notSynchronized
  have htab := x_tab B (hts _ List.mem_cons_self)
  subst hsz
  have hX0 : w_x (va_A [] s.heap.size) s s.heap := hX.narrow (fun q h => Or.inr (va_A0.mp h))
  have hX1 : w_x (va_A (wC a k u) s.heap.size) s s.heap := hX.narrow (fun q h => va_Al h)
  have hP : va_P (dC, dI) vwCl (wC a k u ++ wO o k f) s.heap := hP
  have hD : va_D (va_A (wL a o k (u, f)) s.heap.size) (wC a k u ++ wO o k f) := hD0.self (sz := s.heap.size)
  have hAw : ∀ q, va_A (wC a k u) s.heap.size q → va_A (wL a o k (u, f)) s.heap.size q := fun q h => va_Al h
  generalize hAe : va_A (wL a o k (u, f)) s.heap.size = A at hD hAw ⊢
  have hA : ∀ q : Nat, s.heap.size ≤ q → A q := fun q h => by rw [← hAe]; exact Or.inr h
  have hS : va_S A s.heap s.heap [] := va_S.rf
  have hl := lv_entry ([.ref (a 0), .int (nI ps), .int (nI n), .ref o]) (n := 5) (Nat.le_of_ble_eq_true rfl)
  rw [lg_entry_eq]
  generalize (lg_sl ([.ref (a 0), .int (nI ps), .int (nI n), .ref o]) ++ List.replicate (5 - (lg_sl ([.ref (a 0), .int (nI ps), .int (nI n), .ref o])).length) Slot.unset).toArray = ls at hl ⊢
  have hl : lv_has ls 5 [(0, .ref (a 0)), (1, .int (nI ps)), (2, .int (nI n)), (3, .ref o)] := hl
  refine lv_aload_n hx hb dL_listen_0 rfl (lv_at hl 3 rfl) ?_
  refine lv_iconst (v := 0) hx hb dL_listen_1 (by decide) ?_
  refine lv_aload_n hx hb dL_listen_2 rfl (lv_at hl 0 rfl) ?_
  refine lv_iload_n hx hb dL_listen_3 rfl (lv_at hl 1 rfl) ?_
  refine lv_iload_n hx hb dL_listen_4 rfl (lv_at hl 2 rfl) ?_
  refine XW.callV (As := [.int (nI ps), .int (nI n)]) (rest := [.int 0, .ref o]) ⟨hx, hb, hml, hown, hts⟩ (x_X5_listen_3 l dC dI a k u _ hst h hR ps n hp hn hm) (cwV 2 hts (wG_V wG_c q_525 q_526 q_527 q_1 q_528) rfl rfl rfl (by decide +kernel) ⟨Nat.le_of_ble_eq_true rfl, Nat.le_of_ble_eq_true rfl⟩) (w_pmV hK (w_Pl hP) (w_Dl hD) hX1 (ci := 5) (q0 := 0) rfl (wC_g0 a k _) rfl) rfl hl.1 rfl (Nat.le_of_ble_eq_true rfl) dL_listen_5 ⟨Nat.le_of_ble_eq_true rfl, Nat.le_of_ble_eq_true rfl⟩ (fun q9 st9 t9 H9 L9 h0 hfc ht9 hal9 hxc hL9 => ?_)
  obtain ⟨⟨ce9, k1, k2, k3⟩, u9, hp9, hP, hD, hS⟩ := x_backM h0 hfc ht9 hxc hL9 hP hD hAw
  refine XW.caught (own := RL) (name := eISE) (E := eISE) hown [(x_en (0, 10, 13, 13))] (x_en (0, 10, 17, 37)) [] htab (x_p1 ⟨rfl, by decide, eIAE, htg _ q_234, x_nc.use hNC.2.2.2.1⟩) rfl (by decide) (htg _ q_429) (x_cISE hX0) k1 k2 k3 ?_
  refine lv_astore (lv' := [(4, .ref q9), (0, .ref (a 0)), (1, .int (nI ps)), (2, .int (nI n)), (3, .ref o)]) hx hb dL_listen_17 hl (by decide) rfl (fun ls hl => ?_)
  refine lv_iconst (v := 2) hx hb dL_listen_19 (by decide) ?_
  exact W.iret (v := 2) hx hb hr (fun t9 ht9 hW9 => ⟨⟨_, (u9, f), rfl, hpost u9 hp9, by rw [ht9]; exact hP, va_K.moved hW9.alike hK, hD⟩, hS.F ht9⟩) hS.2.2 dL_listen_20
set_option maxHeartbeats 4000000 in
set_option maxRecDepth 100000 in
theorem r_row_0 (l : Launch) (dC : Nat → ClassId) (dI : Nat → Nat → Nat) (a : Nat → Nat) (k : c_K) (u : c_St) (o : Nat) (f : Nat → Int64) (sz : Nat) (hst : l.stackTraces = false)  (hR : cu_N u 4 ≤ 600) (i w9 : Nat) (hi : i < cu_N u 4) (hk : cu_N u 4 ≤ i + 200) (hw : w9 ≤ 2) (post : Int32 → c_X → Prop) (hpost : ∀ g : Nat → Int64, g 0 = ((if w9 = 0 then nI (cu_F u 8 (i % 200)) else if w9 = 1 then nI (cu_F u 9 (i % 200)) else bI (cu_B u 1 (i % 200)))).toInt64 → post 0 (u, g)) : Met l yL_row wsL_row ({ frames := 8, cells := 1, slots := 6, locals := 150 }) (va_Pc [.ref (a 0), .int (nI i), .int (nI w9), .ref o] (w_wr (dC, dI) vwCl (wL a o k (u, f)) (tC k) sz)) (va_Qi post (w_at (dC, dI) vwCl (wL a o k) (tC k) (va_A (wL a o k (u, f)) sz)) (va_A (wL a o k (u, f)) sz)) 1 6 (va_A (wL a o k (u, f)) sz) := by
  refine va_MetW (cc := cL_row) (maxL := 5) (ret := (some .int)) (by decide) rfl ?_
  intro p e s m args below meth c s₁ B hml hv
  obtain ⟨rfl, ⟨hsz, hP, hK, hD0, hX⟩, hNC⟩ := hv
  have hx := B.exec
  have hb := B.bytes
  have hr := B.returns
  have hts := atoms_spec (ws := wsL_row) B.pre
  have htg : ∀ w ∈ wG, w.before _ s = true := fun w h => hts w (List.mem_cons_of_mem _ h)
  have hown : s.vm.findClass RL = some m.cls := findClass_of_methodNamed B.named
  have hlocks := B.notSynchronized
  have htab := x_tab B (hts _ List.mem_cons_self)
  subst hsz
  have hX0 : w_x (va_A [] s.heap.size) s s.heap := hX.narrow (fun q h => Or.inr (va_A0.mp h))
  have hX1 : w_x (va_A (wC a k u) s.heap.size) s s.heap := hX.narrow (fun q h => va_Al h)
  have hP : va_P (dC, dI) vwCl (wC a k u ++ wO o k f) s.heap := hP
  have hD : va_D (va_A (wL a o k (u, f)) s.heap.size) (wC a k u ++ wO o k f) := hD0.self (sz := s.heap.size)
  have hAw : ∀ q, va_A (wC a k u) s.heap.size q → va_A (wL a o k (u, f)) s.heap.size q := fun q h => va_Al h
  generalize hAe : va_A (wL a o k (u, f)) s.heap.size = A at hD hAw ⊢
  have hA : ∀ q : Nat, s.heap.size ≤ q → A q := fun q h => by rw [← hAe]; exact Or.inr h
  have hS : va_S A s.heap s.heap [] := va_S.rf
  have hl := lv_entry ([.ref (a 0), .int (nI i), .int (nI w9), .ref o]) (n := 5) (Nat.le_of_ble_eq_true rfl)
  rw [lg_entry_eq]
  generalize (lg_sl ([.ref (a 0), .int (nI i), .int (nI w9), .ref o]) ++ List.replicate (5 - (lg_sl ([.ref (a 0), .int (nI i), .int (nI w9), .ref o])).length) Slot.unset).toArray = ls at hl ⊢
  have hl : lv_has ls 5 [(0, .ref (a 0)), (1, .int (nI i)), (2, .int (nI w9)), (3, .ref o)] := hl
  refine x_more (mc := 0) (ms := 0) (Nat.le_of_ble_eq_true rfl) (Nat.le_of_ble_eq_true rfl) ?_
  refine lv_aload_n hx hb dL_row_0 rfl (lv_at hl 3 rfl) ?_
  refine lv_iconst (v := 0) hx hb dL_row_1 (by decide) ?_
  refine lv_aload_n hx hb dL_row_2 rfl (lv_at hl 0 rfl) ?_
  refine lv_iload_n hx hb dL_row_3 rfl (lv_at hl 1 rfl) ?_
  refine lv_iload_n hx hb dL_row_4 rfl (lv_at hl 2 rfl) ?_
  refine vp_callSi (W.runV (As := [.int (nI i), .int (nI w9)]) (rest := [.int 0, .ref o]) ⟨hx, hb, hml, hown, hts⟩ (c_X5_row l dC dI a k u hR i w9 hi hk hw) (cwV 2 hts (wG_V wG_c q_544 q_545 q_546 q_1 q_547) rfl rfl rfl (by decide +kernel) ⟨Nat.le_of_ble_eq_true rfl, Nat.le_of_ble_eq_true rfl⟩) (w_roV hK (w_Pl hP) (ci := 5) (q0 := 0) rfl (wC_g0 a k _) rfl) rfl rfl hl.1 rfl (lv_room (Nat.le_of_ble_eq_true rfl)) dL_row_5 ⟨Nat.le_of_ble_eq_true rfl, Nat.le_of_ble_eq_true rfl⟩) (fun r9 hr9 => ?_)
  subst hr9
  refine lv_i2l hx hb dL_row_8 rfl ?_
  refine va_last hx hb hK hP hD hS 26 1 (cA := k.2.1) (n := 1) rfl rfl (i := 0) vp_in01 dL_row_9 (fun H locs hP hD hS => ?_)
  have hP := w_pE (wL_s26 a o k _ _ _) hP
  have hD := w_dE (wL_s26 a o k _ _ _) hD
  refine lv_goto (tgt := 17) hx hb dL_row_10 (by decide) ?_
  refine lv_iconst (v := 0) hx hb dL_row_17 (by decide) ?_
  exact W.iret (v := 0) hx hb hr (fun t9 ht9 hW9 => ⟨⟨_, (u, vp_updL f (0 : Int32).toNatClampNeg ((if w9 = 0 then nI (cu_F u 8 (i % 200)) else if w9 = 1 then nI (cu_F u 9 (i % 200)) else bI (cu_B u 1 (i % 200))).toInt64)), rfl, hpost _ (wO_0 f _), by rw [ht9]; exact hP, va_K.moved hW9.alike hK, hD⟩, hS.F ht9⟩) hS.2.2 dL_row_18
set_option maxHeartbeats 4000000 in
set_option maxRecDepth 100000 in
theorem r_row_1 (l : Launch) (dC : Nat → ClassId) (dI : Nat → Nat → Nat) (a : Nat → Nat) (k : c_K) (u : c_St) (o : Nat) (f : Nat → Int64) (sz : Nat) (hst : l.stackTraces = false)    (hR : cu_N u 4 ≤ 600) (p0 p1 : Int32) (hb9 : c_kept u p0 = false) (post : Int32 → c_X → Prop) (hpost : post 1 (u, f)) : Met l yL_row wsL_row ({ frames := 8, cells := 1, slots := 6, locals := 150 }) (va_Pc [.ref (a 0), .int p0, .int p1, .ref o] (w_wr (dC, dI) vwCl (wL a o k (u, f)) (tC k) sz)) (va_Qi post (w_at (dC, dI) vwCl (wL a o k) (tC k) (va_A (wL a o k (u, f)) sz)) (va_A (wL a o k (u, f)) sz)) 1 6 (va_A (wL a o k (u, f)) sz) := by
  refine va_MetW (cc := cL_row) (maxL := 5) (ret := (some .int)) (by decide) rfl ?_
  intro p e s m args below meth c s₁ B hml hv
  obtain ⟨rfl, ⟨hsz, hP, hK, hD0, hX⟩, hNC⟩ := hv
  have hx := B.exec
  have hb := B.bytes
  have hr := B.returns
  have hts := atoms_spec (ws := wsL_row) B.pre
  have htg : ∀ w ∈ wG, w.before _ s = true := fun w h => hts w (List.mem_cons_of_mem _ h)
  have hown : s.vm.findClass RL = some m.cls := findClass_of_methodNamed B.named
  have hlocks := B.notSynchronized
  have htab := x_tab B (hts _ List.mem_cons_self)
  subst hsz
  have hX0 : w_x (va_A [] s.heap.size) s s.heap := hX.narrow (fun q h => Or.inr (va_A0.mp h))
  have hX1 : w_x (va_A (wC a k u) s.heap.size) s s.heap := hX.narrow (fun q h => va_Al h)
  have hP : va_P (dC, dI) vwCl (wC a k u ++ wO o k f) s.heap := hP
  have hD : va_D (va_A (wL a o k (u, f)) s.heap.size) (wC a k u ++ wO o k f) := hD0.self (sz := s.heap.size)
  have hAw : ∀ q, va_A (wC a k u) s.heap.size q → va_A (wL a o k (u, f)) s.heap.size q := fun q h => va_Al h
  generalize hAe : va_A (wL a o k (u, f)) s.heap.size = A at hD hAw ⊢
  have hA : ∀ q : Nat, s.heap.size ≤ q → A q := fun q h => by rw [← hAe]; exact Or.inr h
  have hS : va_S A s.heap s.heap [] := va_S.rf
  have hl := lv_entry ([.ref (a 0), .int p0, .int p1, .ref o]) (n := 5) (Nat.le_of_ble_eq_true rfl)
  rw [lg_entry_eq]
  generalize (lg_sl ([.ref (a 0), .int p0, .int p1, .ref o]) ++ List.replicate (5 - (lg_sl ([.ref (a 0), .int p0, .int p1, .ref o])).length) Slot.unset).toArray = ls at hl ⊢
  have hl : lv_has ls 5 [(0, .ref (a 0)), (1, .int p0), (2, .int p1), (3, .ref o)] := hl
  refine lv_aload_n hx hb dL_row_0 rfl (lv_at hl 3 rfl) ?_
  refine lv_iconst (v := 0) hx hb dL_row_1 (by decide) ?_
  refine lv_aload_n hx hb dL_row_2 rfl (lv_at hl 0 rfl) ?_
  refine lv_iload_n hx hb dL_row_3 rfl (lv_at hl 1 rfl) ?_
  refine lv_iload_n hx hb dL_row_4 rfl (lv_at hl 2 rfl) ?_
  refine XW.callV (As := [.int p0, .int p1]) (rest := [.int 0, .ref o]) ⟨hx, hb, hml, hown, hts⟩ (x_X5_row_1 l dC dI a k u _ hst hR p0 p1 hb9) (cwV 2 hts (wG_V wG_c q_544 q_545 q_546 q_1 q_547) rfl rfl rfl (by decide +kernel) ⟨Nat.le_of_ble_eq_true rfl, Nat.le_of_ble_eq_true rfl⟩) (w_pxV hK (w_Pl hP) hX0 (ci := 5) (q0 := 0) rfl (wC_g0 a k _) rfl) rfl hl.1 rfl (Nat.le_of_ble_eq_true rfl) dL_row_5 ⟨Nat.le_of_ble_eq_true rfl, Nat.le_of_ble_eq_true rfl⟩ (fun q9 st9 t9 H9 L9 h0 hfc ht9 hal9 hxc hL9 => ?_)
  obtain ⟨⟨ce9, k1, k2, k3⟩, hP, hS⟩ := x_back h0 hfc ht9 hxc hL9 hP hA
  refine XW.caught (own := RL) (name := eIAE) (E := eIAE) hown [] (x_en (0, 10, 13, 13)) [] htab (fun y9 hy9 => by cases hy9) rfl (by decide) (htg _ q_234) (x_cIAE hX0) k1 k2 k3 ?_
  refine lv_astore (lv' := [(4, .ref q9), (0, .ref (a 0)), (1, .int p0), (2, .int p1), (3, .ref o)]) hx hb dL_row_13 hl (by decide) rfl (fun ls hl => ?_)
  refine lv_iconst (v := 1) hx hb dL_row_15 (by decide) ?_
  exact W.iret (v := 1) hx hb hr (fun t9 ht9 hW9 => ⟨⟨_, (u, f), rfl, hpost, by rw [ht9]; exact hP, va_K.moved hW9.alike hK, hD⟩, hS.F ht9⟩) hS.2.2 dL_row_16
set_option maxHeartbeats 4000000 in
set_option maxRecDepth 100000 in
theorem r_row_2 (l : Launch) (dC : Nat → ClassId) (dI : Nat → Nat → Nat) (a : Nat → Nat) (k : c_K) (u : c_St) (o : Nat) (f : Nat → Int64) (sz : Nat) (hst : l.stackTraces = false)    (hR : cu_N u 4 ≤ 600) (i : Nat) (hi : i < cu_N u 4) (p1 : Int32) (hkp : c_kept u (nI i) = true) (hb9 : inR p1 0 2 = false) (post : Int32 → c_X → Prop) (hpost : post 1 (u, f)) : Met l yL_row wsL_row ({ frames := 8, cells := 1, slots := 6, locals := 150 }) (va_Pc [.ref (a 0), .int (nI i), .int p1, .ref o] (w_wr (dC, dI) vwCl (wL a o k (u, f)) (tC k) sz)) (va_Qi post (w_at (dC, dI) vwCl (wL a o k) (tC k) (va_A (wL a o k (u, f)) sz)) (va_A (wL a o k (u, f)) sz)) 1 6 (va_A (wL a o k (u, f)) sz) := by
  refine va_MetW (cc := cL_row) (maxL := 5) (ret := (some .int)) (by decide) rfl ?_
  intro p e s m args below meth c s₁ B hml hv
  obtain ⟨rfl, ⟨hsz, hP, hK, hD0, hX⟩, hNC⟩ := hv
  have hx := B.exec
  have hb := B.bytes
  have hr := B.returns
  have hts := atoms_spec (ws := wsL_row) B.pre
  have htg : ∀ w ∈ wG, w.before _ s = true := fun w h => hts w (List.mem_cons_of_mem _ h)
  have hown : s.vm.findClass RL = some m.cls := findClass_of_methodNamed B.named
  have hlocks := B.notSynchronized
  have htab := x_tab B (hts _ List.mem_cons_self)
  subst hsz
  have hX0 : w_x (va_A [] s.heap.size) s s.heap := hX.narrow (fun q h => Or.inr (va_A0.mp h))
  have hX1 : w_x (va_A (wC a k u) s.heap.size) s s.heap := hX.narrow (fun q h => va_Al h)
  have hP : va_P (dC, dI) vwCl (wC a k u ++ wO o k f) s.heap := hP
  have hD : va_D (va_A (wL a o k (u, f)) s.heap.size) (wC a k u ++ wO o k f) := hD0.self (sz := s.heap.size)
  have hAw : ∀ q, va_A (wC a k u) s.heap.size q → va_A (wL a o k (u, f)) s.heap.size q := fun q h => va_Al h
  generalize hAe : va_A (wL a o k (u, f)) s.heap.size = A at hD hAw ⊢
  have hA : ∀ q : Nat, s.heap.size ≤ q → A q := fun q h => by rw [← hAe]; exact Or.inr h
  have hS : va_S A s.heap s.heap [] := va_S.rf
  have hl := lv_entry ([.ref (a 0), .int (nI i), .int p1, .ref o]) (n := 5) (Nat.le_of_ble_eq_true rfl)
  rw [lg_entry_eq]
  generalize (lg_sl ([.ref (a 0), .int (nI i), .int p1, .ref o]) ++ List.replicate (5 - (lg_sl ([.ref (a 0), .int (nI i), .int p1, .ref o])).length) Slot.unset).toArray = ls at hl ⊢
  have hl : lv_has ls 5 [(0, .ref (a 0)), (1, .int (nI i)), (2, .int p1), (3, .ref o)] := hl
  refine lv_aload_n hx hb dL_row_0 rfl (lv_at hl 3 rfl) ?_
  refine lv_iconst (v := 0) hx hb dL_row_1 (by decide) ?_
  refine lv_aload_n hx hb dL_row_2 rfl (lv_at hl 0 rfl) ?_
  refine lv_iload_n hx hb dL_row_3 rfl (lv_at hl 1 rfl) ?_
  refine lv_iload_n hx hb dL_row_4 rfl (lv_at hl 2 rfl) ?_
  refine XW.callV (As := [.int (nI i), .int p1]) (rest := [.int 0, .ref o]) ⟨hx, hb, hml, hown, hts⟩ (x_X5_row_2 l dC dI a k u _ hst hR i hi p1 hkp hb9) (cwV 2 hts (wG_V wG_c q_544 q_545 q_546 q_1 q_547) rfl rfl rfl (by decide +kernel) ⟨Nat.le_of_ble_eq_true rfl, Nat.le_of_ble_eq_true rfl⟩) (w_pxV hK (w_Pl hP) hX0 (ci := 5) (q0 := 0) rfl (wC_g0 a k _) rfl) rfl hl.1 rfl (Nat.le_of_ble_eq_true rfl) dL_row_5 ⟨Nat.le_of_ble_eq_true rfl, Nat.le_of_ble_eq_true rfl⟩ (fun q9 st9 t9 H9 L9 h0 hfc ht9 hal9 hxc hL9 => ?_)
  obtain ⟨⟨ce9, k1, k2, k3⟩, hP, hS⟩ := x_back h0 hfc ht9 hxc hL9 hP hA
  refine XW.caught (own := RL) (name := eIAE) (E := eIAE) hown [] (x_en (0, 10, 13, 13)) [] htab (fun y9 hy9 => by cases hy9) rfl (by decide) (htg _ q_234) (x_cIAE hX0) k1 k2 k3 ?_
  refine lv_astore (lv' := [(4, .ref q9), (0, .ref (a 0)), (1, .int (nI i)), (2, .int p1), (3, .ref o)]) hx hb dL_row_13 hl (by decide) rfl (fun ls hl => ?_)
  refine lv_iconst (v := 1) hx hb dL_row_15 (by decide) ?_
  exact W.iret (v := 1) hx hb hr (fun t9 ht9 hW9 => ⟨⟨_, (u, f), rfl, hpost, by rw [ht9]; exact hP, va_K.moved hW9.alike hK, hD⟩, hS.F ht9⟩) hS.2.2 dL_row_16
set_option maxHeartbeats 4000000 in
set_option maxRecDepth 100000 in
theorem r_poke_0 (l : Launch) (dC : Nat → ClassId) (dI : Nat → Nat → Nat) (a : Nat → Nat) (k : c_K) (u : c_St) (o : Nat) (f : Nat → Int64) (sz : Nat) (hst : l.stackTraces = false)   (h : c_ok u) (n i mk9 : Nat) (hn : n < cu_N u 0) (hi : i < cu_F u 2 n) (hm1 : 1 ≤ mk9) (hm2 : mk9 ≤ 255) (ht : cu_B u 0 n = true) (post : Int32 → c_X → Prop) (hpost : ∀ u1 : c_St, u1 = cs_L u n (cu_L u n ^^^ ((nI mk9).toInt64 <<< ((nI (8 * (cu_F u 2 n - 1 - i))).toInt64 &&& 63))) → post 0 (u1, f)) : Met l yL_poke wsL_poke ({ frames := 8, cells := 1, slots := 6, locals := 150 }) (va_Pc [.ref (a 0), .int (nI n), .int (nI i), .int (nI mk9)] (w_wr (dC, dI) vwCl (wL a o k (u, f)) (tC k) sz)) (va_Qi post (w_at (dC, dI) vwCl (wL a o k) (tC k) (va_A (wL a o k (u, f)) sz)) (va_A (wL a o k (u, f)) sz)) 1 6 (va_A (wL a o k (u, f)) sz) := by
  refine va_MetW (cc := cL_poke) (maxL := 5) (ret := (some .int)) (by decide) rfl ?_
  intro p e s m args below meth c s₁ B hml hv
  obtain ⟨rfl, ⟨hsz, hP, hK, hD0, hX⟩, hNC⟩ := hv
  have hx := B.exec
  have hb := B.bytes
  have hr := B.returns
  have hts := atoms_spec (ws := wsL_poke) B.pre
  have htg : ∀ w ∈ wG, w.before _ s = true := fun w h => hts w (List.mem_cons_of_mem _ h)
  have hown : s.vm.findClass RL = some m.cls := findClass_of_methodNamed B.named
  have hlocks := B.notSynchronized
  have htab := x_tab B (hts _ List.mem_cons_self)
  subst hsz
  have hX0 : w_x (va_A [] s.heap.size) s s.heap := hX.narrow (fun q h => Or.inr (va_A0.mp h))
  have hX1 : w_x (va_A (wC a k u) s.heap.size) s s.heap := hX.narrow (fun q h => va_Al h)
  have hP : va_P (dC, dI) vwCl (wC a k u ++ wO o k f) s.heap := hP
  have hD : va_D (va_A (wL a o k (u, f)) s.heap.size) (wC a k u ++ wO o k f) := hD0.self (sz := s.heap.size)
  have hAw : ∀ q, va_A (wC a k u) s.heap.size q → va_A (wL a o k (u, f)) s.heap.size q := fun q h => va_Al h
  generalize hAe : va_A (wL a o k (u, f)) s.heap.size = A at hD hAw ⊢
  have hA : ∀ q : Nat, s.heap.size ≤ q → A q := fun q h => by rw [← hAe]; exact Or.inr h
  have hS : va_S A s.heap s.heap [] := va_S.rf
  have hl := lv_entry ([.ref (a 0), .int (nI n), .int (nI i), .int (nI mk9)]) (n := 5) (Nat.le_of_ble_eq_true rfl)
  rw [lg_entry_eq]
  generalize (lg_sl ([.ref (a 0), .int (nI n), .int (nI i), .int (nI mk9)]) ++ List.replicate (5 - (lg_sl ([.ref (a 0), .int (nI n), .int (nI i), .int (nI mk9)])).length) Slot.unset).toArray = ls at hl ⊢
  have hl : lv_has ls 5 [(0, .ref (a 0)), (1, .int (nI n)), (2, .int (nI i)), (3, .int (nI mk9))] := hl
  refine x_more (mc := 0) (ms := 0) (Nat.le_of_ble_eq_true rfl) (Nat.le_of_ble_eq_true rfl) ?_
  refine lv_aload_n hx hb dL_poke_0 rfl (lv_at hl 0 rfl) ?_
  refine lv_iload_n hx hb dL_poke_1 rfl (lv_at hl 1 rfl) ?_
  refine lv_iload_n hx hb dL_poke_2 rfl (lv_at hl 2 rfl) ?_
  refine lv_iload_n hx hb dL_poke_3 rfl (lv_at hl 3 rfl) ?_
  refine w_callv (w := wC a k) (va_runV (As := [.int (nI n), .int (nI i), .int (nI mk9)]) (rest := []) ⟨hx, hb, hml, hown, hts⟩ (c_X5_poke l dC dI a k u _ h n i mk9 hn hi hm1 hm2 ht) (cwV 3 hts (wG_V wG_c q_557 q_558 q_559 q_1 q_560) rfl rfl rfl (by decide +kernel) ⟨Nat.le_of_ble_eq_true rfl, Nat.le_of_ble_eq_true rfl⟩) (w_muV hK (w_Pl hP) (w_Dl hD) (ci := 5) (q0 := 0) rfl (wC_g0 a k _) rfl) rfl rfl hl.1 rfl (lv_room (Nat.le_of_ble_eq_true rfl)) dL_poke_4 ⟨Nat.le_of_ble_eq_true rfl, Nat.le_of_ble_eq_true rfl⟩) hP hD hS hA (fun u9 H locs hp9 hP hD hS => ?_)
  refine lv_goto (tgt := 22) hx hb dL_poke_7 (by decide) ?_
  refine lv_iconst (v := 0) hx hb dL_poke_22 (by decide) ?_
  exact W.iret (v := 0) hx hb hr (fun t9 ht9 hW9 => ⟨⟨_, (u9, f), rfl, hpost u9 hp9, by rw [ht9]; exact hP, va_K.moved hW9.alike hK, hD⟩, hS.F ht9⟩) hS.2.2 dL_poke_23
set_option maxHeartbeats 4000000 in
set_option maxRecDepth 100000 in
theorem r_poke_1 (l : Launch) (dC : Nat → ClassId) (dI : Nat → Nat → Nat) (a : Nat → Nat) (k : c_K) (u : c_St) (o : Nat) (f : Nat → Int64) (sz : Nat) (hst : l.stackTraces = false)    (h20 : cu_N u 0 ≤ 200) (p0 p1 p2 : Int32) (hb9 : isS (cu_N u 0) p0 = false) (post : Int32 → c_X → Prop) (hpost : post 1 (u, f)) : Met l yL_poke wsL_poke ({ frames := 8, cells := 1, slots := 6, locals := 150 }) (va_Pc [.ref (a 0), .int p0, .int p1, .int p2] (w_wr (dC, dI) vwCl (wL a o k (u, f)) (tC k) sz)) (va_Qi post (w_at (dC, dI) vwCl (wL a o k) (tC k) (va_A (wL a o k (u, f)) sz)) (va_A (wL a o k (u, f)) sz)) 1 6 (va_A (wL a o k (u, f)) sz) := by
  refine va_MetW (cc := cL_poke) (maxL := 5) (ret := (some .int)) (by decide) rfl ?_
  intro p e s m args below meth c s₁ B hml hv
  obtain ⟨rfl, ⟨hsz, hP, hK, hD0, hX⟩, hNC⟩ := hv
  have hx := B.exec
  have hb := B.bytes
  have hr := B.returns
  have hts := atoms_spec (ws := wsL_poke) B.pre
  have htg : ∀ w ∈ wG, w.before _ s = true := fun w h => hts w (List.mem_cons_of_mem _ h)
  have hown : s.vm.findClass RL = some m.cls := findClass_of_methodNamed B.named
  have hlocks := B.notSynchronized
  have htab := x_tab B (hts _ List.mem_cons_self)
  subst hsz
  have hX0 : w_x (va_A [] s.heap.size) s s.heap := hX.narrow (fun q h => Or.inr (va_A0.mp h))
  have hX1 : w_x (va_A (wC a k u) s.heap.size) s s.heap := hX.narrow (fun q h => va_Al h)
  have hP : va_P (dC, dI) vwCl (wC a k u ++ wO o k f) s.heap := hP
  have hD : va_D (va_A (wL a o k (u, f)) s.heap.size) (wC a k u ++ wO o k f) := hD0.self (sz := s.heap.size)
  have hAw : ∀ q, va_A (wC a k u) s.heap.size q → va_A (wL a o k (u, f)) s.heap.size q := fun q h => va_Al h
  generalize hAe : va_A (wL a o k (u, f)) s.heap.size = A at hD hAw ⊢
  have hA : ∀ q : Nat, s.heap.size ≤ q → A q := fun q h => by rw [← hAe]; exact Or.inr h
  have hS : va_S A s.heap s.heap [] := va_S.rf
  have hl := lv_entry ([.ref (a 0), .int p0, .int p1, .int p2]) (n := 5) (Nat.le_of_ble_eq_true rfl)
  rw [lg_entry_eq]
  generalize (lg_sl ([.ref (a 0), .int p0, .int p1, .int p2]) ++ List.replicate (5 - (lg_sl ([.ref (a 0), .int p0, .int p1, .int p2])).length) Slot.unset).toArray = ls at hl ⊢
  have hl : lv_has ls 5 [(0, .ref (a 0)), (1, .int p0), (2, .int p1), (3, .int p2)] := hl
  refine lv_aload_n hx hb dL_poke_0 rfl (lv_at hl 0 rfl) ?_
  refine lv_iload_n hx hb dL_poke_1 rfl (lv_at hl 1 rfl) ?_
  refine lv_iload_n hx hb dL_poke_2 rfl (lv_at hl 2 rfl) ?_
  refine lv_iload_n hx hb dL_poke_3 rfl (lv_at hl 3 rfl) ?_
  refine XW.callV (As := [.int p0, .int p1, .int p2]) (rest := []) ⟨hx, hb, hml, hown, hts⟩ (x_X5_poke_1 l dC dI a k u _ hst h20 p0 p1 p2 hb9) (cwV 3 hts (wG_V wG_c q_557 q_558 q_559 q_1 q_560) rfl rfl rfl (by decide +kernel) ⟨Nat.le_of_ble_eq_true rfl, Nat.le_of_ble_eq_true rfl⟩) (w_pxV hK (w_Pl hP) hX0 (ci := 5) (q0 := 0) rfl (wC_g0 a k _) rfl) rfl hl.1 rfl (Nat.le_of_ble_eq_true rfl) dL_poke_4 ⟨Nat.le_of_ble_eq_true rfl, Nat.le_of_ble_eq_true rfl⟩ (fun q9 st9 t9 H9 L9 h0 hfc ht9 hal9 hxc hL9 => ?_)
  obtain ⟨⟨ce9, k1, k2, k3⟩, hP, hS⟩ := x_back h0 hfc ht9 hxc hL9 hP hA
  refine XW.caught (own := RL) (name := eIAE) (E := eIAE) hown [] (x_en (0, 7, 10, 13)) [(x_en (0, 7, 14, 15)), (x_en (0, 7, 18, 37))] htab (fun y9 hy9 => by cases hy9) rfl (by decide) (htg _ q_234) (x_cIAE hX0) k1 k2 k3 ?_
  refine lv_astore (lv' := [(4, .ref q9), (0, .ref (a 0)), (1, .int p0), (2, .int p1), (3, .int p2)]) hx hb dL_poke_10 hl (by decide) rfl (fun ls hl => ?_)
  refine lv_iconst (v := 1) hx hb dL_poke_12 (by decide) ?_
  exact W.iret (v := 1) hx hb hr (fun t9 ht9 hW9 => ⟨⟨_, (u, f), rfl, hpost, by rw [ht9]; exact hP, va_K.moved hW9.alike hK, hD⟩, hS.F ht9⟩) hS.2.2 dL_poke_13
set_option maxHeartbeats 4000000 in
set_option maxRecDepth 100000 in
theorem r_poke_2 (l : Launch) (dC : Nat → ClassId) (dI : Nat → Nat → Nat) (a : Nat → Nat) (k : c_K) (u : c_St) (o : Nat) (f : Nat → Int64) (sz : Nat) (hst : l.stackTraces = false)    (h : c_ok u) (n : Nat) (hn : n < cu_N u 0) (p1 p2 : Int32) (hb9 : isS (cu_F u 2 n) p1 = false) (post : Int32 → c_X → Prop) (hpost : post 2 (u, f)) : Met l yL_poke wsL_poke ({ frames := 8, cells := 1, slots := 6, locals := 150 }) (va_Pc [.ref (a 0), .int (nI n), .int p1, .int p2] (w_wr (dC, dI) vwCl (wL a o k (u, f)) (tC k) sz)) (va_Qi post (w_at (dC, dI) vwCl (wL a o k) (tC k) (va_A (wL a o k (u, f)) sz)) (va_A (wL a o k (u, f)) sz)) 1 6 (va_A (wL a o k (u, f)) sz) := by
  refine va_MetW (cc := cL_poke) (maxL := 5) (ret := (some .int)) (by decide) rfl ?_
  intro p e s m args below meth c s₁ B hml hv
  obtain ⟨rfl, ⟨hsz, hP, hK, hD0, hX⟩, hNC⟩ := hv
  have hx := B.exec
  have hb := B.bytes
  have hr := B.returns
  have hts := atoms_spec (ws := wsL_poke) B.pre
  have htg : ∀ w ∈ wG, w.before _ s = true := fun w h => hts w (List.mem_cons_of_mem _ h)
  have hown : s.vm.findClass RL = some m.cls := findClass_of_methodNamed B.named
  have hlocks := B.notSynchronized
  have htab := x_tab B (hts _ List.mem_cons_self)
  subst hsz
  have hX0 : w_x (va_A [] s.heap.size) s s.heap := hX.narrow (fun q h => Or.inr (va_A0.mp h))
  have hX1 : w_x (va_A (wC a k u) s.heap.size) s s.heap := hX.narrow (fun q h => va_Al h)
  have hP : va_P (dC, dI) vwCl (wC a k u ++ wO o k f) s.heap := hP
  have hD : va_D (va_A (wL a o k (u, f)) s.heap.size) (wC a k u ++ wO o k f) := hD0.self (sz := s.heap.size)
  have hAw : ∀ q, va_A (wC a k u) s.heap.size q → va_A (wL a o k (u, f)) s.heap.size q := fun q h => va_Al h
  generalize hAe : va_A (wL a o k (u, f)) s.heap.size = A at hD hAw ⊢
  have hA : ∀ q : Nat, s.heap.size ≤ q → A q := fun q h => by rw [← hAe]; exact Or.inr h
  have hS : va_S A s.heap s.heap [] := va_S.rf
  have hl := lv_entry ([.ref (a 0), .int (nI n), .int p1, .int p2]) (n := 5) (Nat.le_of_ble_eq_true rfl)
  rw [lg_entry_eq]
  generalize (lg_sl ([.ref (a 0), .int (nI n), .int p1, .int p2]) ++ List.replicate (5 - (lg_sl ([.ref (a 0), .int (nI n), .int p1, .int p2])).length) Slot.unset).toArray = ls at hl ⊢
  have hl : lv_has ls 5 [(0, .ref (a 0)), (1, .int (nI n)), (2, .int p1), (3, .int p2)] := hl
  refine lv_aload_n hx hb dL_poke_0 rfl (lv_at hl 0 rfl) ?_
  refine lv_iload_n hx hb dL_poke_1 rfl (lv_at hl 1 rfl) ?_
  refine lv_iload_n hx hb dL_poke_2 rfl (lv_at hl 2 rfl) ?_
  refine lv_iload_n hx hb dL_poke_3 rfl (lv_at hl 3 rfl) ?_
  refine XW.callV (As := [.int (nI n), .int p1, .int p2]) (rest := []) ⟨hx, hb, hml, hown, hts⟩ (x_X5_poke_2 l dC dI a k u _ hst h n hn p1 p2 hb9) (cwV 3 hts (wG_V wG_c q_557 q_558 q_559 q_1 q_560) rfl rfl rfl (by decide +kernel) ⟨Nat.le_of_ble_eq_true rfl, Nat.le_of_ble_eq_true rfl⟩) (w_pxV hK (w_Pl hP) hX0 (ci := 5) (q0 := 0) rfl (wC_g0 a k _) rfl) rfl hl.1 rfl (Nat.le_of_ble_eq_true rfl) dL_poke_4 ⟨Nat.le_of_ble_eq_true rfl, Nat.le_of_ble_eq_true rfl⟩ (fun q9 st9 t9 H9 L9 h0 hfc ht9 hal9 hxc hL9 => ?_)
  obtain ⟨⟨ce9, k1, k2, k3⟩, hP, hS⟩ := x_back h0 hfc ht9 hxc hL9 hP hA
  refine XW.caught (own := RL) (name := eIOE) (E := eIOE) hown [(x_en (0, 7, 10, 13))] (x_en (0, 7, 14, 15)) [(x_en (0, 7, 18, 37))] htab (x_p1 ⟨rfl, by decide, eIAE, htg _ q_234, x_nc.use hNC.1⟩) rfl (by decide) (htg _ q_235) (x_cIOE hX0) k1 k2 k3 ?_
  refine lv_astore (lv' := [(4, .ref q9), (0, .ref (a 0)), (1, .int (nI n)), (2, .int p1), (3, .int p2)]) hx hb dL_poke_14 hl (by decide) rfl (fun ls hl => ?_)
  refine lv_iconst (v := 2) hx hb dL_poke_16 (by decide) ?_
  exact W.iret (v := 2) hx hb hr (fun t9 ht9 hW9 => ⟨⟨_, (u, f), rfl, hpost, by rw [ht9]; exact hP, va_K.moved hW9.alike hK, hD⟩, hS.F ht9⟩) hS.2.2 dL_poke_17
set_option maxHeartbeats 4000000 in
set_option maxRecDepth 100000 in
theorem r_poke_3 (l : Launch) (dC : Nat → ClassId) (dI : Nat → Nat → Nat) (a : Nat → Nat) (k : c_K) (u : c_St) (o : Nat) (f : Nat → Int64) (sz : Nat) (hst : l.stackTraces = false)    (h : c_ok u) (n i : Nat) (hn : n < cu_N u 0) (hi : i < cu_F u 2 n) (p2 : Int32) (hb9 : inR p2 1 255 = false) (post : Int32 → c_X → Prop) (hpost : post 2 (u, f)) : Met l yL_poke wsL_poke ({ frames := 8, cells := 1, slots := 6, locals := 150 }) (va_Pc [.ref (a 0), .int (nI n), .int (nI i), .int p2] (w_wr (dC, dI) vwCl (wL a o k (u, f)) (tC k) sz)) (va_Qi post (w_at (dC, dI) vwCl (wL a o k) (tC k) (va_A (wL a o k (u, f)) sz)) (va_A (wL a o k (u, f)) sz)) 1 6 (va_A (wL a o k (u, f)) sz) := by
  refine va_MetW (cc := cL_poke) (maxL := 5) (ret := (some .int)) (by decide) rfl ?_
  intro p e s m args below meth c s₁ B hml hv
  obtain ⟨rfl, ⟨hsz, hP, hK, hD0, hX⟩, hNC⟩ := hv
  have hx := B.exec
  have hb := B.bytes
  have hr := B.returns
  have hts := atoms_spec (ws := wsL_poke) B.pre
  have htg : ∀ w ∈ wG, w.before _ s = true := fun w h => hts w (List.mem_cons_of_mem _ h)
  have hown : s.vm.findClass RL = some m.cls := findClass_of_methodNamed B.named
  have hlocks := B.notSynchronized
  have htab := x_tab B (hts _ List.mem_cons_self)
  subst hsz
  have hX0 : w_x (va_A [] s.heap.size) s s.heap := hX.narrow (fun q h => Or.inr (va_A0.mp h))
  have hX1 : w_x (va_A (wC a k u) s.heap.size) s s.heap := hX.narrow (fun q h => va_Al h)
  have hP : va_P (dC, dI) vwCl (wC a k u ++ wO o k f) s.heap := hP
  have hD : va_D (va_A (wL a o k (u, f)) s.heap.size) (wC a k u ++ wO o k f) := hD0.self (sz := s.heap.size)
  have hAw : ∀ q, va_A (wC a k u) s.heap.size q → va_A (wL a o k (u, f)) s.heap.size q := fun q h => va_Al h
  generalize hAe : va_A (wL a o k (u, f)) s.heap.size = A at hD hAw ⊢
  have hA : ∀ q : Nat, s.heap.size ≤ q → A q := fun q h => by rw [← hAe]; exact Or.inr h
  have hS : va_S A s.heap s.heap [] := va_S.rf
  have hl := lv_entry ([.ref (a 0), .int (nI n), .int (nI i), .int p2]) (n := 5) (Nat.le_of_ble_eq_true rfl)
  rw [lg_entry_eq]
  generalize (lg_sl ([.ref (a 0), .int (nI n), .int (nI i), .int p2]) ++ List.replicate (5 - (lg_sl ([.ref (a 0), .int (nI n), .int (nI i), .int p2])).length) Slot.unset).toArray = ls at hl ⊢
  have hl : lv_has ls 5 [(0, .ref (a 0)), (1, .int (nI n)), (2, .int (nI i)), (3, .int p2)] := hl
  refine lv_aload_n hx hb dL_poke_0 rfl (lv_at hl 0 rfl) ?_
  refine lv_iload_n hx hb dL_poke_1 rfl (lv_at hl 1 rfl) ?_
  refine lv_iload_n hx hb dL_poke_2 rfl (lv_at hl 2 rfl) ?_
  refine lv_iload_n hx hb dL_poke_3 rfl (lv_at hl 3 rfl) ?_
  refine XW.callV (As := [.int (nI n), .int (nI i), .int p2]) (rest := []) ⟨hx, hb, hml, hown, hts⟩ (x_X5_poke_3 l dC dI a k u _ hst h n i hn hi p2 hb9) (cwV 3 hts (wG_V wG_c q_557 q_558 q_559 q_1 q_560) rfl rfl rfl (by decide +kernel) ⟨Nat.le_of_ble_eq_true rfl, Nat.le_of_ble_eq_true rfl⟩) (w_pxV hK (w_Pl hP) hX0 (ci := 5) (q0 := 0) rfl (wC_g0 a k _) rfl) rfl hl.1 rfl (Nat.le_of_ble_eq_true rfl) dL_poke_4 ⟨Nat.le_of_ble_eq_true rfl, Nat.le_of_ble_eq_true rfl⟩ (fun q9 st9 t9 H9 L9 h0 hfc ht9 hal9 hxc hL9 => ?_)
  obtain ⟨⟨ce9, k1, k2, k3⟩, hP, hS⟩ := x_back h0 hfc ht9 hxc hL9 hP hA
  refine XW.caught (own := RL) (name := eIOE) (E := eIOE) hown [(x_en (0, 7, 10, 13))] (x_en (0, 7, 14, 15)) [(x_en (0, 7, 18, 37))] htab (x_p1 ⟨rfl, by decide, eIAE, htg _ q_234, x_nc.use hNC.1⟩) rfl (by decide) (htg _ q_235) (x_cIOE hX0) k1 k2 k3 ?_
  refine lv_astore (lv' := [(4, .ref q9), (0, .ref (a 0)), (1, .int (nI n)), (2, .int (nI i)), (3, .int p2)]) hx hb dL_poke_14 hl (by decide) rfl (fun ls hl => ?_)
  refine lv_iconst (v := 2) hx hb dL_poke_16 (by decide) ?_
  exact W.iret (v := 2) hx hb hr (fun t9 ht9 hW9 => ⟨⟨_, (u, f), rfl, hpost, by rw [ht9]; exact hP, va_K.moved hW9.alike hK, hD⟩, hS.F ht9⟩) hS.2.2 dL_poke_17
set_option maxHeartbeats 4000000 in
set_option maxRecDepth 100000 in
theorem r_poke_4 (l : Launch) (dC : Nat → ClassId) (dI : Nat → Nat → Nat) (a : Nat → Nat) (k : c_K) (u : c_St) (o : Nat) (f : Nat → Int64) (sz : Nat) (hst : l.stackTraces = false)    (h : c_ok u) (n i mk9 : Nat) (hn : n < cu_N u 0) (hi : i < cu_F u 2 n) (hm1 : 1 ≤ mk9) (hm2 : mk9 ≤ 255) (ht : cu_B u 0 n = false) (post : Int32 → c_X → Prop) (hpost : post 3 (u, f)) : Met l yL_poke wsL_poke ({ frames := 8, cells := 1, slots := 6, locals := 150 }) (va_Pc [.ref (a 0), .int (nI n), .int (nI i), .int (nI mk9)] (w_wr (dC, dI) vwCl (wL a o k (u, f)) (tC k) sz)) (va_Qi post (w_at (dC, dI) vwCl (wL a o k) (tC k) (va_A (wL a o k (u, f)) sz)) (va_A (wL a o k (u, f)) sz)) 1 6 (va_A (wL a o k (u, f)) sz) := by
  refine va_MetW (cc := cL_poke) (maxL := 5) (ret := (some .int)) (by decide) rfl ?_
  intro p e s m args below meth c s₁ B hml hv
  obtain ⟨rfl, ⟨hsz, hP, hK, hD0, hX⟩, hNC⟩ := hv
  have hx := B.exec
  have hb := B.bytes
  have hr := B.returns
  have hts := atoms_spec (ws := wsL_poke) B.pre
  have htg : ∀ w ∈ wG, w.before _ s = true := fun w h => hts w (List.mem_cons_of_mem _ h)
  have hown : s.vm.findClass RL = some m.cls := findClass_of_methodNamed B.named
  have hlocks := B.notSynchronized
  have htab := x_tab B (hts _ List.mem_cons_self)
  subst hsz
  have hX0 : w_x (va_A [] s.heap.size) s s.heap := hX.narrow (fun q h => Or.inr (va_A0.mp h))
  have hX1 : w_x (va_A (wC a k u) s.heap.size) s s.heap := hX.narrow (fun q h => va_Al h)
  have hP : va_P (dC, dI) vwCl (wC a k u ++ wO o k f) s.heap := hP
  have hD : va_D (va_A (wL a o k (u, f)) s.heap.size) (wC a k u ++ wO o k f) := hD0.self (sz := s.heap.size)
  have hAw : ∀ q, va_A (wC a k u) s.heap.size q → va_A (wL a o k (u, f)) s.heap.size q := fun q h => va_Al h
  generalize hAe : va_A (wL a o k (u, f)) s.heap.size = A at hD hAw ⊢
  have hA : ∀ q : Nat, s.heap.size ≤ q → A q := fun q h => by rw [← hAe]; exact Or.inr h
  have hS : va_S A s.heap s.heap [] := va_S.rf
  have hl := lv_entry ([.ref (a 0), .int (nI n), .int (nI i), .int (nI mk9)]) (n := 5) (Nat.le_of_ble_eq_true rfl)
  rw [lg_entry_eq]
  generalize (lg_sl ([.ref (a 0), .int (nI n), .int (nI i), .int (nI mk9)]) ++ List.replicate (5 - (lg_sl ([.ref (a 0), .int (nI n), .int (nI i), .int (nI mk9)])).length) Slot.unset).toArray = ls at hl ⊢
  have hl : lv_has ls 5 [(0, .ref (a 0)), (1, .int (nI n)), (2, .int (nI i)), (3, .int (nI mk9))] := hl
  refine lv_aload_n hx hb dL_poke_0 rfl (lv_at hl 0 rfl) ?_
  refine lv_iload_n hx hb dL_poke_1 rfl (lv_at hl 1 rfl) ?_
  refine lv_iload_n hx hb dL_poke_2 rfl (lv_at hl 2 rfl) ?_
  refine lv_iload_n hx hb dL_poke_3 rfl (lv_at hl 3 rfl) ?_
  refine XW.callV (As := [.int (nI n), .int (nI i), .int (nI mk9)]) (rest := []) ⟨hx, hb, hml, hown, hts⟩ (x_X5_poke_4 l dC dI a k u _ hst h n i mk9 hn hi hm1 hm2 ht) (cwV 3 hts (wG_V wG_c q_557 q_558 q_559 q_1 q_560) rfl rfl rfl (by decide +kernel) ⟨Nat.le_of_ble_eq_true rfl, Nat.le_of_ble_eq_true rfl⟩) (w_pxV hK (w_Pl hP) hX0 (ci := 5) (q0 := 0) rfl (wC_g0 a k _) rfl) rfl hl.1 rfl (Nat.le_of_ble_eq_true rfl) dL_poke_4 ⟨Nat.le_of_ble_eq_true rfl, Nat.le_of_ble_eq_true rfl⟩ (fun q9 st9 t9 H9 L9 h0 hfc ht9 hal9 hxc hL9 => ?_)
  obtain ⟨⟨ce9, k1, k2, k3⟩, hP, hS⟩ := x_back h0 hfc ht9 hxc hL9 hP hA
  refine XW.caught (own := RL) (name := eISE) (E := eISE) hown [(x_en (0, 7, 10, 13)), (x_en (0, 7, 14, 15))] (x_en (0, 7, 18, 37)) [] htab (x_p2 ⟨rfl, by decide, eIAE, htg _ q_234, x_nc.use hNC.2.2.2.1⟩ ⟨rfl, by decide, eIOE, htg _ q_235, x_nc.use hNC.2.2.2.2⟩) rfl (by decide) (htg _ q_429) (x_cISE hX0) k1 k2 k3 ?_
  refine lv_astore (lv' := [(4, .ref q9), (0, .ref (a 0)), (1, .int (nI n)), (2, .int (nI i)), (3, .int (nI mk9))]) hx hb dL_poke_18 hl (by decide) rfl (fun ls hl => ?_)
  refine lv_iconst (v := 3) hx hb dL_poke_20 (by decide) ?_
  exact W.iret (v := 3) hx hb hr (fun t9 ht9 hW9 => ⟨⟨_, (u, f), rfl, hpost, by rw [ht9]; exact hP, va_K.moved hW9.alike hK, hD⟩, hS.F ht9⟩) hS.2.2 dL_poke_21
set_option maxHeartbeats 4000000 in
set_option maxRecDepth 100000 in
theorem r_count_0 (l : Launch) (dC : Nat → ClassId) (dI : Nat → Nat → Nat) (a : Nat → Nat) (k : c_K) (u : c_St) (o : Nat) (f : Nat → Int64) (sz : Nat) (hst : l.stackTraces = false)  (w9 : Nat) (hw : w9 ≤ 4) (post : Int32 → c_X → Prop) (hpost : ∀ g : Nat → Int64, g 0 = ((if w9 = 0 then nI (cu_N u 0) else if w9 = 1 then nI (cu_N u 2) else if w9 = 2 then nI (cu_N u 1) else if w9 = 3 then nI (cu_N u 3) else nI (cu_N u 4))).toInt64 → post 0 (u, g)) : Met l yL_count wsL_count ({ frames := 8, cells := 1, slots := 6, locals := 150 }) (va_Pc [.ref (a 0), .int (nI w9), .ref o] (w_wr (dC, dI) vwCl (wL a o k (u, f)) (tC k) sz)) (va_Qi post (w_at (dC, dI) vwCl (wL a o k) (tC k) (va_A (wL a o k (u, f)) sz)) (va_A (wL a o k (u, f)) sz)) 1 6 (va_A (wL a o k (u, f)) sz) := by
  refine va_MetW (cc := cL_count) (maxL := 4) (ret := (some .int)) (by decide) rfl ?_
  intro p e s m args below meth c s₁ B hml hv
  obtain ⟨rfl, ⟨hsz, hP, hK, hD0, hX⟩, hNC⟩ := hv
  have hx := B.exec
  have hb := B.bytes
  have hr := B.returns
  have hts := atoms_spec (ws := wsL_count) B.pre
  have htg : ∀ w ∈ wG, w.before _ s = true := fun w h => hts w (List.mem_cons_of_mem _ h)
  have hown : s.vm.findClass RL = some m.cls := findClass_of_methodNamed B.named
  have hlocks := B.notSynchronized
  have htab := x_tab B (hts _ List.mem_cons_self)
  subst hsz
  have hX0 : w_x (va_A [] s.heap.size) s s.heap := hX.narrow (fun q h => Or.inr (va_A0.mp h))
  have hX1 : w_x (va_A (wC a k u) s.heap.size) s s.heap := hX.narrow (fun q h => va_Al h)
  have hP : va_P (dC, dI) vwCl (wC a k u ++ wO o k f) s.heap := hP
  have hD : va_D (va_A (wL a o k (u, f)) s.heap.size) (wC a k u ++ wO o k f) := hD0.self (sz := s.heap.size)
  have hAw : ∀ q, va_A (wC a k u) s.heap.size q → va_A (wL a o k (u, f)) s.heap.size q := fun q h => va_Al h
  generalize hAe : va_A (wL a o k (u, f)) s.heap.size = A at hD hAw ⊢
  have hA : ∀ q : Nat, s.heap.size ≤ q → A q := fun q h => by rw [← hAe]; exact Or.inr h
  have hS : va_S A s.heap s.heap [] := va_S.rf
  have hl := lv_entry ([.ref (a 0), .int (nI w9), .ref o]) (n := 4) (Nat.le_of_ble_eq_true rfl)
  rw [lg_entry_eq]
  generalize (lg_sl ([.ref (a 0), .int (nI w9), .ref o]) ++ List.replicate (4 - (lg_sl ([.ref (a 0), .int (nI w9), .ref o])).length) Slot.unset).toArray = ls at hl ⊢
  have hl : lv_has ls 4 [(0, .ref (a 0)), (1, .int (nI w9)), (2, .ref o)] := hl
  refine x_more (mc := 0) (ms := 0) (Nat.le_of_ble_eq_true rfl) (Nat.le_of_ble_eq_true rfl) ?_
  refine lv_aload_n hx hb dL_count_0 rfl (lv_at hl 2 rfl) ?_
  refine lv_iconst (v := 0) hx hb dL_count_1 (by decide) ?_
  refine lv_aload_n hx hb dL_count_2 rfl (lv_at hl 0 rfl) ?_
  refine lv_iload_n hx hb dL_count_3 rfl (lv_at hl 1 rfl) ?_
  refine vp_callSi (W.runV (As := [.int (nI w9)]) (rest := [.int 0, .ref o]) ⟨hx, hb, hml, hown, hts⟩ (c_X5_count l dC dI a k u w9 hw) (cwV 1 hts (wG_V wG_c q_570 q_571 q_572 q_1 q_573) rfl rfl rfl (by decide +kernel) ⟨Nat.le_of_ble_eq_true rfl, Nat.le_of_ble_eq_true rfl⟩) (w_roV hK (w_Pl hP) (ci := 5) (q0 := 0) rfl (wC_g0 a k _) rfl) rfl rfl hl.1 rfl (lv_room (Nat.le_of_ble_eq_true rfl)) dL_count_4 ⟨Nat.le_of_ble_eq_true rfl, Nat.le_of_ble_eq_true rfl⟩) (fun r9 hr9 => ?_)
  subst hr9
  refine lv_i2l hx hb dL_count_7 rfl ?_
  refine va_last hx hb hK hP hD hS 26 1 (cA := k.2.1) (n := 1) rfl rfl (i := 0) vp_in01 dL_count_8 (fun H locs hP hD hS => ?_)
  have hP := w_pE (wL_s26 a o k _ _ _) hP
  have hD := w_dE (wL_s26 a o k _ _ _) hD
  refine lv_goto (tgt := 15) hx hb dL_count_9 (by decide) ?_
  refine lv_iconst (v := 0) hx hb dL_count_15 (by decide) ?_
  exact W.iret (v := 0) hx hb hr (fun t9 ht9 hW9 => ⟨⟨_, (u, vp_updL f (0 : Int32).toNatClampNeg ((if w9 = 0 then nI (cu_N u 0) else if w9 = 1 then nI (cu_N u 2) else if w9 = 2 then nI (cu_N u 1) else if w9 = 3 then nI (cu_N u 3) else nI (cu_N u 4)).toInt64)), rfl, hpost _ (wO_0 f _), by rw [ht9]; exact hP, va_K.moved hW9.alike hK, hD⟩, hS.F ht9⟩) hS.2.2 dL_count_16
set_option maxHeartbeats 4000000 in
set_option maxRecDepth 100000 in
theorem r_count_1 (l : Launch) (dC : Nat → ClassId) (dI : Nat → Nat → Nat) (a : Nat → Nat) (k : c_K) (u : c_St) (o : Nat) (f : Nat → Int64) (sz : Nat) (hst : l.stackTraces = false)    (p0 : Int32) (hb9 : inR p0 0 4 = false) (post : Int32 → c_X → Prop) (hpost : post 1 (u, f)) : Met l yL_count wsL_count ({ frames := 8, cells := 1, slots := 6, locals := 150 }) (va_Pc [.ref (a 0), .int p0, .ref o] (w_wr (dC, dI) vwCl (wL a o k (u, f)) (tC k) sz)) (va_Qi post (w_at (dC, dI) vwCl (wL a o k) (tC k) (va_A (wL a o k (u, f)) sz)) (va_A (wL a o k (u, f)) sz)) 1 6 (va_A (wL a o k (u, f)) sz) := by
  refine va_MetW (cc := cL_count) (maxL := 4) (ret := (some .int)) (by decide) rfl ?_
  intro p e s m args below meth c s₁ B hml hv
  obtain ⟨rfl, ⟨hsz, hP, hK, hD0, hX⟩, hNC⟩ := hv
  have hx := B.exec
  have hb := B.bytes
  have hr := B.returns
  have hts := atoms_spec (ws := wsL_count) B.pre
  have htg : ∀ w ∈ wG, w.before _ s = true := fun w h => hts w (List.mem_cons_of_mem _ h)
  have hown : s.vm.findClass RL = some m.cls := findClass_of_methodNamed B.named
  have hlocks := B.notSynchronized
  have htab := x_tab B (hts _ List.mem_cons_self)
  subst hsz
  have hX0 : w_x (va_A [] s.heap.size) s s.heap := hX.narrow (fun q h => Or.inr (va_A0.mp h))
  have hX1 : w_x (va_A (wC a k u) s.heap.size) s s.heap := hX.narrow (fun q h => va_Al h)
  have hP : va_P (dC, dI) vwCl (wC a k u ++ wO o k f) s.heap := hP
  have hD : va_D (va_A (wL a o k (u, f)) s.heap.size) (wC a k u ++ wO o k f) := hD0.self (sz := s.heap.size)
  have hAw : ∀ q, va_A (wC a k u) s.heap.size q → va_A (wL a o k (u, f)) s.heap.size q := fun q h => va_Al h
  generalize hAe : va_A (wL a o k (u, f)) s.heap.size = A at hD hAw ⊢
  have hA : ∀ q : Nat, s.heap.size ≤ q → A q := fun q h => by rw [← hAe]; exact Or.inr h
  have hS : va_S A s.heap s.heap [] := va_S.rf
  have hl := lv_entry ([.ref (a 0), .int p0, .ref o]) (n := 4) (Nat.le_of_ble_eq_true rfl)
  rw [lg_entry_eq]
  generalize (lg_sl ([.ref (a 0), .int p0, .ref o]) ++ List.replicate (4 - (lg_sl ([.ref (a 0), .int p0, .ref o])).length) Slot.unset).toArray = ls at hl ⊢
  have hl : lv_has ls 4 [(0, .ref (a 0)), (1, .int p0), (2, .ref o)] := hl
  refine lv_aload_n hx hb dL_count_0 rfl (lv_at hl 2 rfl) ?_
  refine lv_iconst (v := 0) hx hb dL_count_1 (by decide) ?_
  refine lv_aload_n hx hb dL_count_2 rfl (lv_at hl 0 rfl) ?_
  refine lv_iload_n hx hb dL_count_3 rfl (lv_at hl 1 rfl) ?_
  refine XW.callV (As := [.int p0]) (rest := [.int 0, .ref o]) ⟨hx, hb, hml, hown, hts⟩ (x_X5_count l dC dI a k u _ hst p0 hb9) (cwV 1 hts (wG_V wG_c q_570 q_571 q_572 q_1 q_573) rfl rfl rfl (by decide +kernel) ⟨Nat.le_of_ble_eq_true rfl, Nat.le_of_ble_eq_true rfl⟩) (w_pxV hK (w_Pl hP) hX0 (ci := 5) (q0 := 0) rfl (wC_g0 a k _) rfl) rfl hl.1 rfl (Nat.le_of_ble_eq_true rfl) dL_count_4 ⟨Nat.le_of_ble_eq_true rfl, Nat.le_of_ble_eq_true rfl⟩ (fun q9 st9 t9 H9 L9 h0 hfc ht9 hal9 hxc hL9 => ?_)
  obtain ⟨⟨ce9, k1, k2, k3⟩, hP, hS⟩ := x_back h0 hfc ht9 hxc hL9 hP hA
  refine XW.caught (own := RL) (name := eIAE) (E := eIAE) hown [] (x_en (0, 9, 12, 13)) [] htab (fun y9 hy9 => by cases hy9) rfl (by decide) (htg _ q_234) (x_cIAE hX0) k1 k2 k3 ?_
  refine lv_astore_n (lv' := [(3, .ref q9), (0, .ref (a 0)), (1, .int p0), (2, .ref o)]) hx hb dL_count_12 rfl hl (by decide) rfl (fun ls hl => ?_)
  refine lv_iconst (v := 1) hx hb dL_count_13 (by decide) ?_
  exact W.iret (v := 1) hx hb hr (fun t9 ht9 hW9 => ⟨⟨_, (u, f), rfl, hpost, by rw [ht9]; exact hP, va_K.moved hW9.alike hK, hD⟩, hS.F ht9⟩) hS.2.2 dL_count_14
