set_option maxHeartbeats 4000000 in
set_option maxRecDepth 100000 in
theorem c_X5_checkSource (l : Launch) (dC : Nat → ClassId) (dI : Nat → Nat → Nat) (a : Nat → Nat) (k : c_K) (u : c_St) (j : Nat) (hj : j ≤ 9) : Met l yX5_checkSource wsX5_checkSource ({ frames := 0, cells := 0, slots := 0, locals := 0 }) (va_Pc [.int (nI j)] (w_ro (dC, dI) vwCl (wC a k u) (tC k))) (va_Sv (fun _ => True)) 0 0 (fun _ => False) := by
  refine Met.ofW (cc := cX5_checkSource) (maxL := 1) (ret := none) (by decide) rfl ?_
  intro p e s m args below meth c s₁ B hml hv
  obtain ⟨rfl, hP, hK⟩ := hv
  have hx := B.exec
  have hb := B.bytes
  have hr := B.returns
  have hts := atoms_spec (ws := wsX5_checkSource) B.pre
  have htg : ∀ w ∈ wG, w.before _ s = true := fun w h => hts w (List.mem_cons_of_mem _ h)
  have hown : s.vm.findClass RX5 = some m.cls := findClass_of_methodNamed B.named
  have hlocks := B.notSynchronized
  have hl := lv_entry ([.int (nI j)]) (n := 1) (Nat.le_of_ble_eq_true rfl)
  rw [lg_entry_eq]
  generalize (lg_sl ([.int (nI j)]) ++ List.replicate (1 - (lg_sl ([.int (nI j)])).length) Slot.unset).toArray = ls at hl ⊢
  have hl : lv_has ls 1 [(0, .int (nI j))] := hl
  refine lv_iload_n hx hb dX5_checkSource_0 rfl (lv_at hl 0 rfl) ?_
  refine iz_lt (a := ((j : Nat) : Int)) (tgt := 10) hx hb (by omega) (by omega) (nI_iI _) dX5_checkSource_1 (by decide) (fun c_1 => ?_) (fun c_1 => ?_)
  · exact absurd c_1 (by omega)
  · refine lv_iload_n hx hb dX5_checkSource_4 rfl (lv_at hl 0 rfl) ?_
    refine lv_bipush (v := 10) hx hb dX5_checkSource_5 (by decide) ?_
    refine nb_lt (a := j) (b := 10) (tgt := 20) hx hb (by omega) (by omega) rfl rfl dX5_checkSource_7 (by decide) (fun c_7 => ?_) (fun c_7 => ?_)
    · exact W.vret hx hb hr (fun t9 ht9 hW9 => ⟨rfl, trivial, ht9⟩) (fun _ h => by cases h) dX5_checkSource_20
    · exact absurd c_7 (by omega)
set_option maxHeartbeats 4000000 in
set_option maxRecDepth 100000 in
theorem x_X5_checkSource (l : Launch) (dC : Nat → ClassId) (dI : Nat → Nat → Nat) (a : Nat → Nat) (k : c_K) (u : c_St) (sz : Nat) (hst : l.stackTraces = false) (p9 : Int32) (hb9 : inR p9 0 9 = false) : XMet l yX5_checkSource wsX5_checkSource ({ frames := 6, cells := 1, slots := 6, locals := 82 }) (va_Pc [.int p9] (w_px (dC, dI) vwCl (wC a k u) (tC k) sz)) (x_C eIAE sz) 1 6 (va_A [] sz) := by
  refine XMet.ofW (cc := cX5_checkSource) (maxL := 1) (ret := none) (by decide) rfl ?_
  intro p e s m args below meth c s₁ B hml hv
  obtain ⟨rfl, hsz, hP, hK, hX⟩ := hv
  have hx := B.exec
  have hb := B.bytes
  have hts := atoms_spec (ws := wsX5_checkSource) B.pre
  have htg : ∀ w ∈ wG, w.before _ s = true := fun w h => hts w (List.mem_cons_of_mem _ h)
  have hown : s.vm.findClass RX5 = some m.cls := findClass_of_methodNamed B.named
  have hlocks := B.notSynchronized
  have hnoh : ∀ x ∈ c.exceptionTable.toList, False := fun x hx9 => by
    have h9 := B.noHandlers (hts _ List.mem_cons_self)
    rw [Array.isEmpty_iff.mp h9] at hx9
    cases hx9
  subst hsz
  have hl := lv_entry ([.int p9]) (n := 1) (Nat.le_of_ble_eq_true rfl)
  rw [lg_entry_eq]
  generalize (lg_sl ([.int p9]) ++ List.replicate (1 - (lg_sl ([.int p9])).length) Slot.unset).toArray = ls at hl ⊢
  have hl : lv_has ls 1 [(0, .int p9)] := hl
  refine lv_iload_n hx hb dX5_checkSource_0 rfl (lv_at hl 0 rfl) ?_
  refine lv_if_lt (tgt := 10) hx hb dX5_checkSource_1 (by decide) (fun c_1 => ?_) (fun c_1 => ?_)
  · exact x_throw (E := eIAE) (text := "no such source") (A := va_A [] s.heap.size) hx hb hst hown (by decide +kernel) htg hX own_IAE q_244 q_245 q_11 (by decide +kernel) va_S.rf (hl.1.trans hml.symm) dX5_checkSource_10 dX5_checkSource_13 dX5_checkSource_14 dX5_checkSource_16 dX5_checkSource_19 (fun x h9 => (hnoh x h9).elim) (Nat.le_of_ble_eq_true rfl) (Nat.le_of_ble_eq_true rfl) (Nat.le_of_ble_eq_true rfl) (Nat.le_of_ble_eq_true rfl) hlocks (fun q9 t9 ce9 _ z1 z2 z3 z4 z5 => ⟨⟨ce9, z3, z4, z5⟩, z1, fun z z6 _ => z2 z z6⟩) (fun _ h9 => by cases h9) (Nat.le_refl _) (Nat.le_refl _)
  · refine lv_iload_n hx hb dX5_checkSource_4 rfl (lv_at hl 0 rfl) ?_
    refine lv_bipush (v := 10) hx hb dX5_checkSource_5 (by decide) ?_
    refine lv_icmp_lt (tgt := 20) hx hb dX5_checkSource_7 (by decide) (fun c_7 => ?_) (fun c_7 => ?_)
    · exact absurd (chk_in (n := 9) (by decide) c_1 c_7) (by rw [show inR p9 0 (nI 9) = inR p9 0 9 from rfl, hb9]; decide)
    · exact x_throw (E := eIAE) (text := "no such source") (A := va_A [] s.heap.size) hx hb hst hown (by decide +kernel) htg hX own_IAE q_244 q_245 q_11 (by decide +kernel) va_S.rf (hl.1.trans hml.symm) dX5_checkSource_10 dX5_checkSource_13 dX5_checkSource_14 dX5_checkSource_16 dX5_checkSource_19 (fun x h9 => (hnoh x h9).elim) (Nat.le_of_ble_eq_true rfl) (Nat.le_of_ble_eq_true rfl) (Nat.le_of_ble_eq_true rfl) (Nat.le_of_ble_eq_true rfl) hlocks (fun q9 t9 ce9 _ z1 z2 z3 z4 z5 => ⟨⟨ce9, z3, z4, z5⟩, z1, fun z z6 _ => z2 z z6⟩) (fun _ h9 => by cases h9) (Nat.le_refl _) (Nat.le_refl _)
set_option maxHeartbeats 4000000 in
set_option maxRecDepth 100000 in
theorem c_X5_checkUnit (l : Launch) (dC : Nat → ClassId) (dI : Nat → Nat → Nat) (a : Nat → Nat) (k : c_K) (u : c_St) (j : Nat) (hj : j ≤ 99) : Met l yX5_checkUnit wsX5_checkUnit ({ frames := 0, cells := 0, slots := 0, locals := 0 }) (va_Pc [.int (nI j)] (w_ro (dC, dI) vwCl (wC a k u) (tC k))) (va_Sv (fun _ => True)) 0 0 (fun _ => False) := by
  refine Met.ofW (cc := cX5_checkUnit) (maxL := 1) (ret := none) (by decide) rfl ?_
  intro p e s m args below meth c s₁ B hml hv
  obtain ⟨rfl, hP, hK⟩ := hv
  have hx := B.exec
  have hb := B.bytes
  have hr := B.returns
  have hts := atoms_spec (ws := wsX5_checkUnit) B.pre
  have htg : ∀ w ∈ wG, w.before _ s = true := fun w h => hts w (List.mem_cons_of_mem _ h)
  have hown : s.vm.findClass RX5 = some m.cls := findClass_of_methodNamed B.named
  have hlocks := B.notSynchronized
  have hl := lv_entry ([.int (nI j)]) (n := 1) (Nat.le_of_ble_eq_true rfl)
  rw [lg_entry_eq]
  generalize (lg_sl ([.int (nI j)]) ++ List.replicate (1 - (lg_sl ([.int (nI j)])).length) Slot.unset).toArray = ls at hl ⊢
  have hl : lv_has ls 1 [(0, .int (nI j))] := hl
  refine lv_iload_n hx hb dX5_checkUnit_0 rfl (lv_at hl 0 rfl) ?_
  refine iz_lt (a := ((j : Nat) : Int)) (tgt := 10) hx hb (by omega) (by omega) (nI_iI _) dX5_checkUnit_1 (by decide) (fun c_1 => ?_) (fun c_1 => ?_)
  · exact absurd c_1 (by omega)
  · refine lv_iload_n hx hb dX5_checkUnit_4 rfl (lv_at hl 0 rfl) ?_
    refine lv_bipush (v := 100) hx hb dX5_checkUnit_5 (by decide) ?_
    refine nb_lt (a := j) (b := 100) (tgt := 20) hx hb (by omega) (by omega) rfl rfl dX5_checkUnit_7 (by decide) (fun c_7 => ?_) (fun c_7 => ?_)
    · exact W.vret hx hb hr (fun t9 ht9 hW9 => ⟨rfl, trivial, ht9⟩) (fun _ h => by cases h) dX5_checkUnit_20
    · exact absurd c_7 (by omega)
set_option maxHeartbeats 4000000 in
set_option maxRecDepth 100000 in
theorem x_X5_checkUnit (l : Launch) (dC : Nat → ClassId) (dI : Nat → Nat → Nat) (a : Nat → Nat) (k : c_K) (u : c_St) (sz : Nat) (hst : l.stackTraces = false) (p9 : Int32) (hb9 : inR p9 0 99 = false) : XMet l yX5_checkUnit wsX5_checkUnit ({ frames := 6, cells := 1, slots := 6, locals := 82 }) (va_Pc [.int p9] (w_px (dC, dI) vwCl (wC a k u) (tC k) sz)) (x_C eIAE sz) 1 6 (va_A [] sz) := by
  refine XMet.ofW (cc := cX5_checkUnit) (maxL := 1) (ret := none) (by decide) rfl ?_
  intro p e s m args below meth c s₁ B hml hv
  obtain ⟨rfl, hsz, hP, hK, hX⟩ := hv
  have hx := B.exec
  have hb := B.bytes
  have hts := atoms_spec (ws := wsX5_checkUnit) B.pre
  have htg : ∀ w ∈ wG, w.before _ s = true := fun w h => hts w (List.mem_cons_of_mem _ h)
  have hown : s.vm.findClass RX5 = some m.cls := findClass_of_methodNamed B.named
  have hlocks := B.notSynchronized
  have hnoh : ∀ x ∈ c.exceptionTable.toList, False := fun x hx9 => by
    have h9 := B.noHandlers (hts _ List.mem_cons_self)
    rw [Array.isEmpty_iff.mp h9] at hx9
    cases hx9
  subst hsz
  have hl := lv_entry ([.int p9]) (n := 1) (Nat.le_of_ble_eq_true rfl)
  rw [lg_entry_eq]
  generalize (lg_sl ([.int p9]) ++ List.replicate (1 - (lg_sl ([.int p9])).length) Slot.unset).toArray = ls at hl ⊢
  have hl : lv_has ls 1 [(0, .int p9)] := hl
  refine lv_iload_n hx hb dX5_checkUnit_0 rfl (lv_at hl 0 rfl) ?_
  refine lv_if_lt (tgt := 10) hx hb dX5_checkUnit_1 (by decide) (fun c_1 => ?_) (fun c_1 => ?_)
  · exact x_throw (E := eIAE) (text := "no such unit") (A := va_A [] s.heap.size) hx hb hst hown (by decide +kernel) htg hX own_IAE q_244 q_245 q_11 (by decide +kernel) va_S.rf (hl.1.trans hml.symm) dX5_checkUnit_10 dX5_checkUnit_13 dX5_checkUnit_14 dX5_checkUnit_16 dX5_checkUnit_19 (fun x h9 => (hnoh x h9).elim) (Nat.le_of_ble_eq_true rfl) (Nat.le_of_ble_eq_true rfl) (Nat.le_of_ble_eq_true rfl) (Nat.le_of_ble_eq_true rfl) hlocks (fun q9 t9 ce9 _ z1 z2 z3 z4 z5 => ⟨⟨ce9, z3, z4, z5⟩, z1, fun z z6 _ => z2 z z6⟩) (fun _ h9 => by cases h9) (Nat.le_refl _) (Nat.le_refl _)
  · refine lv_iload_n hx hb dX5_checkUnit_4 rfl (lv_at hl 0 rfl) ?_
    refine lv_bipush (v := 100) hx hb dX5_checkUnit_5 (by decide) ?_
    refine lv_icmp_lt (tgt := 20) hx hb dX5_checkUnit_7 (by decide) (fun c_7 => ?_) (fun c_7 => ?_)
    · exact absurd (chk_in (n := 99) (by decide) c_1 c_7) (by rw [show inR p9 0 (nI 99) = inR p9 0 99 from rfl, hb9]; decide)
    · exact x_throw (E := eIAE) (text := "no such unit") (A := va_A [] s.heap.size) hx hb hst hown (by decide +kernel) htg hX own_IAE q_244 q_245 q_11 (by decide +kernel) va_S.rf (hl.1.trans hml.symm) dX5_checkUnit_10 dX5_checkUnit_13 dX5_checkUnit_14 dX5_checkUnit_16 dX5_checkUnit_19 (fun x h9 => (hnoh x h9).elim) (Nat.le_of_ble_eq_true rfl) (Nat.le_of_ble_eq_true rfl) (Nat.le_of_ble_eq_true rfl) (Nat.le_of_ble_eq_true rfl) hlocks (fun q9 t9 ce9 _ z1 z2 z3 z4 z5 => ⟨⟨ce9, z3, z4, z5⟩, z1, fun z z6 _ => z2 z z6⟩) (fun _ h9 => by cases h9) (Nat.le_refl _) (Nat.le_refl _)
set_option maxHeartbeats 4000000 in
set_option maxRecDepth 100000 in
theorem c_X5_checkIncident (l : Launch) (dC : Nat → ClassId) (dI : Nat → Nat → Nat) (a : Nat → Nat) (k : c_K) (u : c_St) (j : Nat) (hj : j ≤ 49) : Met l yX5_checkIncident wsX5_checkIncident ({ frames := 0, cells := 0, slots := 0, locals := 0 }) (va_Pc [.int (nI j)] (w_ro (dC, dI) vwCl (wC a k u) (tC k))) (va_Sv (fun _ => True)) 0 0 (fun _ => False) := by
  refine Met.ofW (cc := cX5_checkIncident) (maxL := 1) (ret := none) (by decide) rfl ?_
  intro p e s m args below meth c s₁ B hml hv
  obtain ⟨rfl, hP, hK⟩ := hv
  have hx := B.exec
  have hb := B.bytes
  have hr := B.returns
  have hts := atoms_spec (ws := wsX5_checkIncident) B.pre
  have htg : ∀ w ∈ wG, w.before _ s = true := fun w h => hts w (List.mem_cons_of_mem _ h)
  have hown : s.vm.findClass RX5 = some m.cls := findClass_of_methodNamed B.named
  have hlocks := B.notSynchronized
  have hl := lv_entry ([.int (nI j)]) (n := 1) (Nat.le_of_ble_eq_true rfl)
  rw [lg_entry_eq]
  generalize (lg_sl ([.int (nI j)]) ++ List.replicate (1 - (lg_sl ([.int (nI j)])).length) Slot.unset).toArray = ls at hl ⊢
  have hl : lv_has ls 1 [(0, .int (nI j))] := hl
  refine lv_iload_n hx hb dX5_checkIncident_0 rfl (lv_at hl 0 rfl) ?_
  refine iz_lt (a := ((j : Nat) : Int)) (tgt := 10) hx hb (by omega) (by omega) (nI_iI _) dX5_checkIncident_1 (by decide) (fun c_1 => ?_) (fun c_1 => ?_)
  · exact absurd c_1 (by omega)
  · refine lv_iload_n hx hb dX5_checkIncident_4 rfl (lv_at hl 0 rfl) ?_
    refine lv_bipush (v := 50) hx hb dX5_checkIncident_5 (by decide) ?_
    refine nb_lt (a := j) (b := 50) (tgt := 20) hx hb (by omega) (by omega) rfl rfl dX5_checkIncident_7 (by decide) (fun c_7 => ?_) (fun c_7 => ?_)
    · exact W.vret hx hb hr (fun t9 ht9 hW9 => ⟨rfl, trivial, ht9⟩) (fun _ h => by cases h) dX5_checkIncident_20
    · exact absurd c_7 (by omega)
set_option maxHeartbeats 4000000 in
set_option maxRecDepth 100000 in
theorem x_X5_checkIncident (l : Launch) (dC : Nat → ClassId) (dI : Nat → Nat → Nat) (a : Nat → Nat) (k : c_K) (u : c_St) (sz : Nat) (hst : l.stackTraces = false) (p9 : Int32) (hb9 : inR p9 0 49 = false) : XMet l yX5_checkIncident wsX5_checkIncident ({ frames := 6, cells := 1, slots := 6, locals := 82 }) (va_Pc [.int p9] (w_px (dC, dI) vwCl (wC a k u) (tC k) sz)) (x_C eIAE sz) 1 6 (va_A [] sz) := by
  refine XMet.ofW (cc := cX5_checkIncident) (maxL := 1) (ret := none) (by decide) rfl ?_
  intro p e s m args below meth c s₁ B hml hv
  obtain ⟨rfl, hsz, hP, hK, hX⟩ := hv
  have hx := B.exec
  have hb := B.bytes
  have hts := atoms_spec (ws := wsX5_checkIncident) B.pre
  have htg : ∀ w ∈ wG, w.before _ s = true := fun w h => hts w (List.mem_cons_of_mem _ h)
  have hown : s.vm.findClass RX5 = some m.cls := findClass_of_methodNamed B.named
  have hlocks := B.notSynchronized
  have hnoh : ∀ x ∈ c.exceptionTable.toList, False := fun x hx9 => by
    have h9 := B.noHandlers (hts _ List.mem_cons_self)
    rw [Array.isEmpty_iff.mp h9] at hx9
    cases hx9
  subst hsz
  have hl := lv_entry ([.int p9]) (n := 1) (Nat.le_of_ble_eq_true rfl)
  rw [lg_entry_eq]
  generalize (lg_sl ([.int p9]) ++ List.replicate (1 - (lg_sl ([.int p9])).length) Slot.unset).toArray = ls at hl ⊢
  have hl : lv_has ls 1 [(0, .int p9)] := hl
  refine lv_iload_n hx hb dX5_checkIncident_0 rfl (lv_at hl 0 rfl) ?_
  refine lv_if_lt (tgt := 10) hx hb dX5_checkIncident_1 (by decide) (fun c_1 => ?_) (fun c_1 => ?_)
  · exact x_throw (E := eIAE) (text := "no such incident") (A := va_A [] s.heap.size) hx hb hst hown (by decide +kernel) htg hX own_IAE q_244 q_245 q_11 (by decide +kernel) va_S.rf (hl.1.trans hml.symm) dX5_checkIncident_10 dX5_checkIncident_13 dX5_checkIncident_14 dX5_checkIncident_16 dX5_checkIncident_19 (fun x h9 => (hnoh x h9).elim) (Nat.le_of_ble_eq_true rfl) (Nat.le_of_ble_eq_true rfl) (Nat.le_of_ble_eq_true rfl) (Nat.le_of_ble_eq_true rfl) hlocks (fun q9 t9 ce9 _ z1 z2 z3 z4 z5 => ⟨⟨ce9, z3, z4, z5⟩, z1, fun z z6 _ => z2 z z6⟩) (fun _ h9 => by cases h9) (Nat.le_refl _) (Nat.le_refl _)
  · refine lv_iload_n hx hb dX5_checkIncident_4 rfl (lv_at hl 0 rfl) ?_
    refine lv_bipush (v := 50) hx hb dX5_checkIncident_5 (by decide) ?_
    refine lv_icmp_lt (tgt := 20) hx hb dX5_checkIncident_7 (by decide) (fun c_7 => ?_) (fun c_7 => ?_)
    · exact absurd (chk_in (n := 49) (by decide) c_1 c_7) (by rw [show inR p9 0 (nI 49) = inR p9 0 49 from rfl, hb9]; decide)
    · exact x_throw (E := eIAE) (text := "no such incident") (A := va_A [] s.heap.size) hx hb hst hown (by decide +kernel) htg hX own_IAE q_244 q_245 q_11 (by decide +kernel) va_S.rf (hl.1.trans hml.symm) dX5_checkIncident_10 dX5_checkIncident_13 dX5_checkIncident_14 dX5_checkIncident_16 dX5_checkIncident_19 (fun x h9 => (hnoh x h9).elim) (Nat.le_of_ble_eq_true rfl) (Nat.le_of_ble_eq_true rfl) (Nat.le_of_ble_eq_true rfl) (Nat.le_of_ble_eq_true rfl) hlocks (fun q9 t9 ce9 _ z1 z2 z3 z4 z5 => ⟨⟨ce9, z3, z4, z5⟩, z1, fun z z6 _ => z2 z z6⟩) (fun _ h9 => by cases h9) (Nat.le_refl _) (Nat.le_refl _)
set_option maxHeartbeats 4000000 in
set_option maxRecDepth 100000 in
theorem c_X5_checkPerson (l : Launch) (dC : Nat → ClassId) (dI : Nat → Nat → Nat) (a : Nat → Nat) (k : c_K) (u : c_St) (j : Nat) (hj : j ≤ 19) : Met l yX5_checkPerson wsX5_checkPerson ({ frames := 0, cells := 0, slots := 0, locals := 0 }) (va_Pc [.int (nI j)] (w_ro (dC, dI) vwCl (wC a k u) (tC k))) (va_Sv (fun _ => True)) 0 0 (fun _ => False) := by
  refine Met.ofW (cc := cX5_checkPerson) (maxL := 1) (ret := none) (by decide) rfl ?_
  intro p e s m args below meth c s₁ B hml hv
  obtain ⟨rfl, hP, hK⟩ := hv
  have hx := B.exec
  have hb := B.bytes
  have hr := B.returns
  have hts := atoms_spec (ws := wsX5_checkPerson) B.pre
  have htg : ∀ w ∈ wG, w.before _ s = true := fun w h => hts w (List.mem_cons_of_mem _ h)
  have hown : s.vm.findClass RX5 = some m.cls := findClass_of_methodNamed B.named
  have hlocks := B.notSynchronized
  have hl := lv_entry ([.int (nI j)]) (n := 1) (Nat.le_of_ble_eq_true rfl)
  rw [lg_entry_eq]
  generalize (lg_sl ([.int (nI j)]) ++ List.replicate (1 - (lg_sl ([.int (nI j)])).length) Slot.unset).toArray = ls at hl ⊢
  have hl : lv_has ls 1 [(0, .int (nI j))] := hl
  refine lv_iload_n hx hb dX5_checkPerson_0 rfl (lv_at hl 0 rfl) ?_
  refine iz_lt (a := ((j : Nat) : Int)) (tgt := 10) hx hb (by omega) (by omega) (nI_iI _) dX5_checkPerson_1 (by decide) (fun c_1 => ?_) (fun c_1 => ?_)
  · exact absurd c_1 (by omega)
  · refine lv_iload_n hx hb dX5_checkPerson_4 rfl (lv_at hl 0 rfl) ?_
    refine lv_bipush (v := 20) hx hb dX5_checkPerson_5 (by decide) ?_
    refine nb_lt (a := j) (b := 20) (tgt := 20) hx hb (by omega) (by omega) rfl rfl dX5_checkPerson_7 (by decide) (fun c_7 => ?_) (fun c_7 => ?_)
    · exact W.vret hx hb hr (fun t9 ht9 hW9 => ⟨rfl, trivial, ht9⟩) (fun _ h => by cases h) dX5_checkPerson_20
    · exact absurd c_7 (by omega)
set_option maxHeartbeats 4000000 in
set_option maxRecDepth 100000 in
theorem x_X5_checkPerson (l : Launch) (dC : Nat → ClassId) (dI : Nat → Nat → Nat) (a : Nat → Nat) (k : c_K) (u : c_St) (sz : Nat) (hst : l.stackTraces = false) (p9 : Int32) (hb9 : inR p9 0 19 = false) : XMet l yX5_checkPerson wsX5_checkPerson ({ frames := 6, cells := 1, slots := 6, locals := 82 }) (va_Pc [.int p9] (w_px (dC, dI) vwCl (wC a k u) (tC k) sz)) (x_C eIAE sz) 1 6 (va_A [] sz) := by
  refine XMet.ofW (cc := cX5_checkPerson) (maxL := 1) (ret := none) (by decide) rfl ?_
  intro p e s m args below meth c s₁ B hml hv
  obtain ⟨rfl, hsz, hP, hK, hX⟩ := hv
  have hx := B.exec
  have hb := B.bytes
  have hts := atoms_spec (ws := wsX5_checkPerson) B.pre
  have htg : ∀ w ∈ wG, w.before _ s = true := fun w h => hts w (List.mem_cons_of_mem _ h)
  have hown : s.vm.findClass RX5 = some m.cls := findClass_of_methodNamed B.named
  have hlocks := B.notSynchronized
  have hnoh : ∀ x ∈ c.exceptionTable.toList, False := fun x hx9 => by
    have h9 := B.noHandlers (hts _ List.mem_cons_self)
    rw [Array.isEmpty_iff.mp h9] at hx9
    cases hx9
  subst hsz
  have hl := lv_entry ([.int p9]) (n := 1) (Nat.le_of_ble_eq_true rfl)
  rw [lg_entry_eq]
  generalize (lg_sl ([.int p9]) ++ List.replicate (1 - (lg_sl ([.int p9])).length) Slot.unset).toArray = ls at hl ⊢
  have hl : lv_has ls 1 [(0, .int p9)] := hl
  refine lv_iload_n hx hb dX5_checkPerson_0 rfl (lv_at hl 0 rfl) ?_
  refine lv_if_lt (tgt := 10) hx hb dX5_checkPerson_1 (by decide) (fun c_1 => ?_) (fun c_1 => ?_)
  · exact x_throw (E := eIAE) (text := "no such person") (A := va_A [] s.heap.size) hx hb hst hown (by decide +kernel) htg hX own_IAE q_244 q_245 q_11 (by decide +kernel) va_S.rf (hl.1.trans hml.symm) dX5_checkPerson_10 dX5_checkPerson_13 dX5_checkPerson_14 dX5_checkPerson_16 dX5_checkPerson_19 (fun x h9 => (hnoh x h9).elim) (Nat.le_of_ble_eq_true rfl) (Nat.le_of_ble_eq_true rfl) (Nat.le_of_ble_eq_true rfl) (Nat.le_of_ble_eq_true rfl) hlocks (fun q9 t9 ce9 _ z1 z2 z3 z4 z5 => ⟨⟨ce9, z3, z4, z5⟩, z1, fun z z6 _ => z2 z z6⟩) (fun _ h9 => by cases h9) (Nat.le_refl _) (Nat.le_refl _)
  · refine lv_iload_n hx hb dX5_checkPerson_4 rfl (lv_at hl 0 rfl) ?_
    refine lv_bipush (v := 20) hx hb dX5_checkPerson_5 (by decide) ?_
    refine lv_icmp_lt (tgt := 20) hx hb dX5_checkPerson_7 (by decide) (fun c_7 => ?_) (fun c_7 => ?_)
    · exact absurd (chk_in (n := 19) (by decide) c_1 c_7) (by rw [show inR p9 0 (nI 19) = inR p9 0 19 from rfl, hb9]; decide)
    · exact x_throw (E := eIAE) (text := "no such person") (A := va_A [] s.heap.size) hx hb hst hown (by decide +kernel) htg hX own_IAE q_244 q_245 q_11 (by decide +kernel) va_S.rf (hl.1.trans hml.symm) dX5_checkPerson_10 dX5_checkPerson_13 dX5_checkPerson_14 dX5_checkPerson_16 dX5_checkPerson_19 (fun x h9 => (hnoh x h9).elim) (Nat.le_of_ble_eq_true rfl) (Nat.le_of_ble_eq_true rfl) (Nat.le_of_ble_eq_true rfl) (Nat.le_of_ble_eq_true rfl) hlocks (fun q9 t9 ce9 _ z1 z2 z3 z4 z5 => ⟨⟨ce9, z3, z4, z5⟩, z1, fun z z6 _ => z2 z z6⟩) (fun _ h9 => by cases h9) (Nat.le_refl _) (Nat.le_refl _)
set_option maxHeartbeats 4000000 in
set_option maxRecDepth 100000 in
theorem c_X5_checkTime (l : Launch) (dC : Nat → ClassId) (dI : Nat → Nat → Nat) (a : Nat → Nat) (k : c_K) (u : c_St) (j : Nat) (hj : j ≤ 9999999) : Met l yX5_checkTime wsX5_checkTime ({ frames := 0, cells := 0, slots := 0, locals := 0 }) (va_Pc [.int (nI j)] (w_ro (dC, dI) vwCl (wC a k u) (tC k))) (va_Sv (fun _ => True)) 0 0 (fun _ => False) := by
  refine Met.ofW (cc := cX5_checkTime) (maxL := 1) (ret := none) (by decide) rfl ?_
  intro p e s m args below meth c s₁ B hml hv
  obtain ⟨rfl, hP, hK⟩ := hv
  have hx := B.exec
  have hb := B.bytes
  have hr := B.returns
  have hts := atoms_spec (ws := wsX5_checkTime) B.pre
  have htg : ∀ w ∈ wG, w.before _ s = true := fun w h => hts w (List.mem_cons_of_mem _ h)
  have hown : s.vm.findClass RX5 = some m.cls := findClass_of_methodNamed B.named
  have hlocks := B.notSynchronized
  have hl := lv_entry ([.int (nI j)]) (n := 1) (Nat.le_of_ble_eq_true rfl)
  rw [lg_entry_eq]
  generalize (lg_sl ([.int (nI j)]) ++ List.replicate (1 - (lg_sl ([.int (nI j)])).length) Slot.unset).toArray = ls at hl ⊢
  have hl : lv_has ls 1 [(0, .int (nI j))] := hl
  refine lv_iload_n hx hb dX5_checkTime_0 rfl (lv_at hl 0 rfl) ?_
  refine iz_lt (a := ((j : Nat) : Int)) (tgt := 10) hx hb (by omega) (by omega) (nI_iI _) dX5_checkTime_1 (by decide) (fun c_1 => ?_) (fun c_1 => ?_)
  · exact absurd c_1 (by omega)
  · refine lv_iload_n hx hb dX5_checkTime_4 rfl (lv_at hl 0 rfl) ?_
    refine lv_ldc (v := 9999999) hx hb hown (htg _ q_324) dX5_checkTime_5 ?_
    refine nb_le (a := j) (b := 9999999) (tgt := 20) hx hb (by omega) (by omega) rfl rfl dX5_checkTime_7 (by decide) (fun c_7 => ?_) (fun c_7 => ?_)
    · exact W.vret hx hb hr (fun t9 ht9 hW9 => ⟨rfl, trivial, ht9⟩) (fun _ h => by cases h) dX5_checkTime_20
    · exact absurd c_7 (by omega)
set_option maxHeartbeats 4000000 in
set_option maxRecDepth 100000 in
theorem x_X5_checkTime (l : Launch) (dC : Nat → ClassId) (dI : Nat → Nat → Nat) (a : Nat → Nat) (k : c_K) (u : c_St) (sz : Nat) (hst : l.stackTraces = false) (p9 : Int32) (hb9 : inR p9 0 9999999 = false) : XMet l yX5_checkTime wsX5_checkTime ({ frames := 6, cells := 1, slots := 6, locals := 82 }) (va_Pc [.int p9] (w_px (dC, dI) vwCl (wC a k u) (tC k) sz)) (x_C eIOE sz) 1 6 (va_A [] sz) := by
  refine XMet.ofW (cc := cX5_checkTime) (maxL := 1) (ret := none) (by decide) rfl ?_
  intro p e s m args below meth c s₁ B hml hv
  obtain ⟨rfl, hsz, hP, hK, hX⟩ := hv
  have hx := B.exec
  have hb := B.bytes
  have hts := atoms_spec (ws := wsX5_checkTime) B.pre
  have htg : ∀ w ∈ wG, w.before _ s = true := fun w h => hts w (List.mem_cons_of_mem _ h)
  have hown : s.vm.findClass RX5 = some m.cls := findClass_of_methodNamed B.named
  have hlocks := B.notSynchronized
  have hnoh : ∀ x ∈ c.exceptionTable.toList, False := fun x hx9 => by
    have h9 := B.noHandlers (hts _ List.mem_cons_self)
    rw [Array.isEmpty_iff.mp h9] at hx9
    cases hx9
  subst hsz
  have hl := lv_entry ([.int p9]) (n := 1) (Nat.le_of_ble_eq_true rfl)
  rw [lg_entry_eq]
  generalize (lg_sl ([.int p9]) ++ List.replicate (1 - (lg_sl ([.int p9])).length) Slot.unset).toArray = ls at hl ⊢
  have hl : lv_has ls 1 [(0, .int p9)] := hl
  refine lv_iload_n hx hb dX5_checkTime_0 rfl (lv_at hl 0 rfl) ?_
  refine lv_if_lt (tgt := 10) hx hb dX5_checkTime_1 (by decide) (fun c_1 => ?_) (fun c_1 => ?_)
  · exact x_throw (E := eIOE) (text := "a time is 0 to 9999999") (A := va_A [] s.heap.size) hx hb hst hown (by decide +kernel) htg hX own_IOE q_325 q_326 q_12 (by decide +kernel) va_S.rf (hl.1.trans hml.symm) dX5_checkTime_10 dX5_checkTime_13 dX5_checkTime_14 dX5_checkTime_16 dX5_checkTime_19 (fun x h9 => (hnoh x h9).elim) (Nat.le_of_ble_eq_true rfl) (Nat.le_of_ble_eq_true rfl) (Nat.le_of_ble_eq_true rfl) (Nat.le_of_ble_eq_true rfl) hlocks (fun q9 t9 ce9 _ z1 z2 z3 z4 z5 => ⟨⟨ce9, z3, z4, z5⟩, z1, fun z z6 _ => z2 z z6⟩) (fun _ h9 => by cases h9) (Nat.le_refl _) (Nat.le_refl _)
  · refine lv_iload_n hx hb dX5_checkTime_4 rfl (lv_at hl 0 rfl) ?_
    refine lv_ldc (v := 9999999) hx hb hown (htg _ q_324) dX5_checkTime_5 ?_
    refine lv_icmp_le (tgt := 20) hx hb dX5_checkTime_7 (by decide) (fun c_7 => ?_) (fun c_7 => ?_)
    · exact absurd (chk_le (n := 9999999) (by decide) c_1 c_7) (by rw [show inR p9 0 (nI 9999999) = inR p9 0 9999999 from rfl, hb9]; decide)
    · exact x_throw (E := eIOE) (text := "a time is 0 to 9999999") (A := va_A [] s.heap.size) hx hb hst hown (by decide +kernel) htg hX own_IOE q_325 q_326 q_12 (by decide +kernel) va_S.rf (hl.1.trans hml.symm) dX5_checkTime_10 dX5_checkTime_13 dX5_checkTime_14 dX5_checkTime_16 dX5_checkTime_19 (fun x h9 => (hnoh x h9).elim) (Nat.le_of_ble_eq_true rfl) (Nat.le_of_ble_eq_true rfl) (Nat.le_of_ble_eq_true rfl) (Nat.le_of_ble_eq_true rfl) hlocks (fun q9 t9 ce9 _ z1 z2 z3 z4 z5 => ⟨⟨ce9, z3, z4, z5⟩, z1, fun z z6 _ => z2 z z6⟩) (fun _ h9 => by cases h9) (Nat.le_refl _) (Nat.le_refl _)
set_option maxHeartbeats 4000000 in
set_option maxRecDepth 100000 in
theorem c_X5_checkPlace (l : Launch) (dC : Nat → ClassId) (dI : Nat → Nat → Nat) (a : Nat → Nat) (k : c_K) (u : c_St) (j : Nat) (hj : j < 2147483648) : Met l yX5_checkPlace wsX5_checkPlace ({ frames := 0, cells := 0, slots := 0, locals := 0 }) (va_Pc [.int (nI j)] (w_ro (dC, dI) vwCl (wC a k u) (tC k))) (va_Sv (fun _ => True)) 0 0 (fun _ => False) := by
  refine Met.ofW (cc := cX5_checkPlace) (maxL := 1) (ret := none) (by decide) rfl ?_
  intro p e s m args below meth c s₁ B hml hv
  obtain ⟨rfl, hP, hK⟩ := hv
  have hx := B.exec
  have hb := B.bytes
  have hr := B.returns
  have hts := atoms_spec (ws := wsX5_checkPlace) B.pre
  have htg : ∀ w ∈ wG, w.before _ s = true := fun w h => hts w (List.mem_cons_of_mem _ h)
  have hown : s.vm.findClass RX5 = some m.cls := findClass_of_methodNamed B.named
  have hlocks := B.notSynchronized
  have hl := lv_entry ([.int (nI j)]) (n := 1) (Nat.le_of_ble_eq_true rfl)
  rw [lg_entry_eq]
  generalize (lg_sl ([.int (nI j)]) ++ List.replicate (1 - (lg_sl ([.int (nI j)])).length) Slot.unset).toArray = ls at hl ⊢
  have hl : lv_has ls 1 [(0, .int (nI j))] := hl
  refine lv_iload_n hx hb dX5_checkPlace_0 rfl (lv_at hl 0 rfl) ?_
  refine iz_ge (a := ((j : Nat) : Int)) (tgt := 14) hx hb (by omega) (by omega) (nI_iI _) dX5_checkPlace_1 (by decide) (fun c_1 => ?_) (fun c_1 => ?_)
  · exact W.vret hx hb hr (fun t9 ht9 hW9 => ⟨rfl, trivial, ht9⟩) (fun _ h => by cases h) dX5_checkPlace_14
  · exact absurd c_1 (by omega)
set_option maxHeartbeats 4000000 in
set_option maxRecDepth 100000 in
theorem x_X5_checkPlace (l : Launch) (dC : Nat → ClassId) (dI : Nat → Nat → Nat) (a : Nat → Nat) (k : c_K) (u : c_St) (sz : Nat) (hst : l.stackTraces = false) (p9 : Int32) (hb9 : p9 < 0) : XMet l yX5_checkPlace wsX5_checkPlace ({ frames := 6, cells := 1, slots := 6, locals := 82 }) (va_Pc [.int p9] (w_px (dC, dI) vwCl (wC a k u) (tC k) sz)) (x_C eIOE sz) 1 6 (va_A [] sz) := by
  refine XMet.ofW (cc := cX5_checkPlace) (maxL := 1) (ret := none) (by decide) rfl ?_
  intro p e s m args below meth c s₁ B hml hv
  obtain ⟨rfl, hsz, hP, hK, hX⟩ := hv
  have hx := B.exec
  have hb := B.bytes
  have hts := atoms_spec (ws := wsX5_checkPlace) B.pre
  have htg : ∀ w ∈ wG, w.before _ s = true := fun w h => hts w (List.mem_cons_of_mem _ h)
  have hown : s.vm.findClass RX5 = some m.cls := findClass_of_methodNamed B.named
  have hlocks := B.notSynchronized
  have hnoh : ∀ x ∈ c.exceptionTable.toList, False := fun x hx9 => by
    have h9 := B.noHandlers (hts _ List.mem_cons_self)
    rw [Array.isEmpty_iff.mp h9] at hx9
    cases hx9
  subst hsz
  have hl := lv_entry ([.int p9]) (n := 1) (Nat.le_of_ble_eq_true rfl)
  rw [lg_entry_eq]
  generalize (lg_sl ([.int p9]) ++ List.replicate (1 - (lg_sl ([.int p9])).length) Slot.unset).toArray = ls at hl ⊢
  have hl : lv_has ls 1 [(0, .int p9)] := hl
  refine lv_iload_n hx hb dX5_checkPlace_0 rfl (lv_at hl 0 rfl) ?_
  refine lv_if_ge (tgt := 14) hx hb dX5_checkPlace_1 (by decide) (fun c_1 => ?_) (fun c_1 => ?_)
  · exact absurd c_1 (by rw [Int32.le_iff_toInt_le]; rw [Int32.lt_iff_toInt_lt] at hb9; omega)
  · exact x_throw (E := eIOE) (text := "the first one is 0") (A := va_A [] s.heap.size) hx hb hst hown (by decide +kernel) htg hX own_IOE q_325 q_326 q_12 (by decide +kernel) va_S.rf (hl.1.trans hml.symm) dX5_checkPlace_4 dX5_checkPlace_7 dX5_checkPlace_8 dX5_checkPlace_10 dX5_checkPlace_13 (fun x h9 => (hnoh x h9).elim) (Nat.le_of_ble_eq_true rfl) (Nat.le_of_ble_eq_true rfl) (Nat.le_of_ble_eq_true rfl) (Nat.le_of_ble_eq_true rfl) hlocks (fun q9 t9 ce9 _ z1 z2 z3 z4 z5 => ⟨⟨ce9, z3, z4, z5⟩, z1, fun z z6 _ => z2 z z6⟩) (fun _ h9 => by cases h9) (Nat.le_refl _) (Nat.le_refl _)
set_option maxHeartbeats 4000000 in
set_option maxRecDepth 100000 in
theorem c_X5_checkSlot (l : Launch) (dC : Nat → ClassId) (dI : Nat → Nat → Nat) (a : Nat → Nat) (k : c_K) (u : c_St) (h20 : cu_N u 0 ≤ 200) (n : Nat) (hn : n < cu_N u 0) : Met l yX5_checkSlot wsX5_checkSlot ({ frames := 0, cells := 0, slots := 0, locals := 0 }) (va_Pc [.ref (a 0), .int (nI n)] (w_ro (dC, dI) vwCl (wC a k u) (tC k))) (va_Sv (fun _ => True)) 0 0 (fun _ => False) := by
  refine Met.ofW (cc := cX5_checkSlot) (maxL := 2) (ret := none) (by decide) rfl ?_
  intro p e s m args below meth c s₁ B hml hv
  obtain ⟨rfl, hP, hK⟩ := hv
  have hx := B.exec
  have hb := B.bytes
  have hr := B.returns
  have hts := atoms_spec (ws := wsX5_checkSlot) B.pre
  have htg : ∀ w ∈ wG, w.before _ s = true := fun w h => hts w (List.mem_cons_of_mem _ h)
  have hown : s.vm.findClass RX5 = some m.cls := findClass_of_methodNamed B.named
  have hlocks := B.notSynchronized
  have hl := lv_entry ([.ref (a 0), .int (nI n)]) (n := 2) (Nat.le_of_ble_eq_true rfl)
  rw [lg_entry_eq]
  generalize (lg_sl ([.ref (a 0), .int (nI n)]) ++ List.replicate (2 - (lg_sl ([.ref (a 0), .int (nI n)])).length) Slot.unset).toArray = ls at hl ⊢
  have hl : lv_has ls 2 [(0, .ref (a 0)), (1, .int (nI n))] := hl
  refine lv_iload_n hx hb dX5_checkSlot_0 rfl (lv_at hl 1 rfl) ?_
  refine iz_lt (a := ((n : Nat) : Int)) (tgt := 15) hx hb (by omega) (by omega) (nI_iI _) dX5_checkSlot_1 (by decide) (fun c_1 => ?_) (fun c_1 => ?_)
  · exact absurd c_1 (by omega)
  · refine lv_iload_n hx hb dX5_checkSlot_4 rfl (lv_at hl 1 rfl) ?_
    refine lv_aload_n hx hb dX5_checkSlot_5 rfl (lv_at hl 0 rfl) ?_
    refine va_get (D := (dC, dI)) (ci := 5) (v := .ref (a 1)) (C := RX5) (T := TX5) (N := 6) hx hb htg inX5 hown hK hP 0 (wC_g0 a k _) rfl 0 (by decide) (htg _ q_160) (fun _ h9 => h9) rfl dX5_checkSlot_6 ?_
    refine va_get (D := (dC, dI)) (ci := 4) (v := .int (nI (cu_N u 0))) (C := RX4) (T := TX4) (N := 9) hx hb htg inX4 hown hK hP 1 (wC_g1 a k _) rfl 8 (by decide) (htg _ q_46) (fun _ h9 => h9) rfl dX5_checkSlot_9 ?_
    refine nb_lt (a := n) (b := (cu_N u 0)) (tgt := 25) hx hb (by omega) (by omega) rfl rfl dX5_checkSlot_12 (by decide) (fun c_12 => ?_) (fun c_12 => ?_)
    · exact W.vret hx hb hr (fun t9 ht9 hW9 => ⟨rfl, trivial, ht9⟩) (fun _ h => by cases h) dX5_checkSlot_25
    · exact absurd c_12 (by omega)
set_option maxHeartbeats 4000000 in
set_option maxRecDepth 100000 in
theorem x_X5_checkSlot (l : Launch) (dC : Nat → ClassId) (dI : Nat → Nat → Nat) (a : Nat → Nat) (k : c_K) (u : c_St) (sz : Nat) (hst : l.stackTraces = false) (h20 : cu_N u 0 ≤ 200) (p9 : Int32) (hb9 : isS (cu_N u 0) p9 = false) : XMet l yX5_checkSlot wsX5_checkSlot ({ frames := 6, cells := 1, slots := 6, locals := 82 }) (va_Pc [.ref (a 0), .int p9] (w_px (dC, dI) vwCl (wC a k u) (tC k) sz)) (x_C eIAE sz) 1 6 (va_A [] sz) := by
  have hp9 := i32_b p9
  have hb8 : ¬ (0 ≤ p9.toInt ∧ p9.toInt < (cu_N u 0 : Int)) := of_decide_eq_false hb9
  refine XMet.ofW (cc := cX5_checkSlot) (maxL := 2) (ret := none) (by decide) rfl ?_
  intro p e s m args below meth c s₁ B hml hv
  obtain ⟨rfl, hsz, hP, hK, hX⟩ := hv
  have hx := B.exec
  have hb := B.bytes
  have hts := atoms_spec (ws := wsX5_checkSlot) B.pre
  have htg : ∀ w ∈ wG, w.before _ s = true := fun w h => hts w (List.mem_cons_of_mem _ h)
  have hown : s.vm.findClass RX5 = some m.cls := findClass_of_methodNamed B.named
  have hlocks := B.notSynchronized
  have hnoh : ∀ x ∈ c.exceptionTable.toList, False := fun x hx9 => by
    have h9 := B.noHandlers (hts _ List.mem_cons_self)
    rw [Array.isEmpty_iff.mp h9] at hx9
    cases hx9
  subst hsz
  have hl := lv_entry ([.ref (a 0), .int p9]) (n := 2) (Nat.le_of_ble_eq_true rfl)
  rw [lg_entry_eq]
  generalize (lg_sl ([.ref (a 0), .int p9]) ++ List.replicate (2 - (lg_sl ([.ref (a 0), .int p9])).length) Slot.unset).toArray = ls at hl ⊢
  have hl : lv_has ls 2 [(0, .ref (a 0)), (1, .int p9)] := hl
  refine lv_iload_n hx hb dX5_checkSlot_0 rfl (lv_at hl 1 rfl) ?_
  refine wtopi (y := iI p9.toInt) (iI_self p9) ?_
  refine iz_lt (a := p9.toInt) (tgt := 15) hx hb (by omega) (by omega) rfl dX5_checkSlot_1 (by decide) (fun c_1 => ?_) (fun c_1 => ?_)
  · exact x_throw (E := eIAE) (text := "no such slot") (A := va_A [] s.heap.size) hx hb hst hown (by decide +kernel) htg hX own_IAE q_244 q_245 q_11 (by decide +kernel) va_S.rf (hl.1.trans hml.symm) dX5_checkSlot_15 dX5_checkSlot_18 dX5_checkSlot_19 dX5_checkSlot_21 dX5_checkSlot_24 (fun x h9 => (hnoh x h9).elim) (Nat.le_of_ble_eq_true rfl) (Nat.le_of_ble_eq_true rfl) (Nat.le_of_ble_eq_true rfl) (Nat.le_of_ble_eq_true rfl) hlocks (fun q9 t9 ce9 _ z1 z2 z3 z4 z5 => ⟨⟨ce9, z3, z4, z5⟩, z1, fun z z6 _ => z2 z z6⟩) (fun _ h9 => by cases h9) (Nat.le_refl _) (Nat.le_refl _)
  · refine lv_iload_n hx hb dX5_checkSlot_4 rfl (lv_at hl 1 rfl) ?_
    refine wtopi (y := iI p9.toInt) (iI_self p9) ?_
    refine lv_aload_n hx hb dX5_checkSlot_5 rfl (lv_at hl 0 rfl) ?_
    refine va_get (D := (dC, dI)) (ci := 5) (v := .ref (a 1)) (C := RX5) (T := TX5) (N := 6) hx hb htg inX5 hown hK hP 0 (wC_g0 a k _) rfl 0 (by decide) (htg _ q_160) (fun _ h9 => h9) rfl dX5_checkSlot_6 ?_
    refine va_get (D := (dC, dI)) (ci := 4) (v := .int (nI (cu_N u 0))) (C := RX4) (T := TX4) (N := 9) hx hb htg inX4 hown hK hP 1 (wC_g1 a k _) rfl 8 (by decide) (htg _ q_46) (fun _ h9 => h9) rfl dX5_checkSlot_9 ?_
    refine wtopi (y := iI (cu_N u 0 : Int)) (nI_iI _) ?_
    refine ib_lt (a := p9.toInt) (b := (cu_N u 0 : Int)) (tgt := 25) hx hb (by omega) (by omega) (by omega) (by omega) rfl rfl dX5_checkSlot_12 (by decide) (fun c_12 => ?_) (fun c_12 => ?_)
    · exact absurd ⟨c_1, c_12⟩ hb8
    · exact x_throw (E := eIAE) (text := "no such slot") (A := va_A [] s.heap.size) hx hb hst hown (by decide +kernel) htg hX own_IAE q_244 q_245 q_11 (by decide +kernel) va_S.rf (hl.1.trans hml.symm) dX5_checkSlot_15 dX5_checkSlot_18 dX5_checkSlot_19 dX5_checkSlot_21 dX5_checkSlot_24 (fun x h9 => (hnoh x h9).elim) (Nat.le_of_ble_eq_true rfl) (Nat.le_of_ble_eq_true rfl) (Nat.le_of_ble_eq_true rfl) (Nat.le_of_ble_eq_true rfl) hlocks (fun q9 t9 ce9 _ z1 z2 z3 z4 z5 => ⟨⟨ce9, z3, z4, z5⟩, z1, fun z z6 _ => z2 z z6⟩) (fun _ h9 => by cases h9) (Nat.le_refl _) (Nat.le_refl _)
set_option maxHeartbeats 4000000 in
set_option maxRecDepth 100000 in
theorem c_X5_checkThere (l : Launch) (dC : Nat → ClassId) (dI : Nat → Nat → Nat) (a : Nat → Nat) (k : c_K) (u : c_St) (n : Nat) (hn : n < 200) (ht : cu_B u 0 n = true) : Met l yX5_checkThere wsX5_checkThere ({ frames := 0, cells := 0, slots := 0, locals := 0 }) (va_Pc [.ref (a 0), .int (nI n)] (w_ro (dC, dI) vwCl (wC a k u) (tC k))) (va_Sv (fun _ => True)) 0 0 (fun _ => False) := by
  refine Met.ofW (cc := cX5_checkThere) (maxL := 2) (ret := none) (by decide) rfl ?_
  intro p e s m args below meth c s₁ B hml hv
  obtain ⟨rfl, hP, hK⟩ := hv
  have hx := B.exec
  have hb := B.bytes
  have hr := B.returns
  have hts := atoms_spec (ws := wsX5_checkThere) B.pre
  have htg : ∀ w ∈ wG, w.before _ s = true := fun w h => hts w (List.mem_cons_of_mem _ h)
  have hown : s.vm.findClass RX5 = some m.cls := findClass_of_methodNamed B.named
  have hlocks := B.notSynchronized
  have hl := lv_entry ([.ref (a 0), .int (nI n)]) (n := 2) (Nat.le_of_ble_eq_true rfl)
  rw [lg_entry_eq]
  generalize (lg_sl ([.ref (a 0), .int (nI n)]) ++ List.replicate (2 - (lg_sl ([.ref (a 0), .int (nI n)])).length) Slot.unset).toArray = ls at hl ⊢
  have hl : lv_has ls 2 [(0, .ref (a 0)), (1, .int (nI n))] := hl
  refine lv_aload_n hx hb dX5_checkThere_0 rfl (lv_at hl 0 rfl) ?_
  refine va_get (D := (dC, dI)) (ci := 5) (v := .ref (a 1)) (C := RX5) (T := TX5) (N := 6) hx hb htg inX5 hown hK hP 0 (wC_g0 a k _) rfl 0 (by decide) (htg _ q_160) (fun _ h9 => h9) rfl dX5_checkThere_1 ?_
  refine va_get (D := (dC, dI)) (ci := 4) (v := .ref (a 14)) (C := RX4) (T := TX4) (N := 9) hx hb htg inX4 hown hK hP 1 (wC_g1 a k _) rfl 7 (by decide) (htg _ q_44) (fun _ h9 => h9) rfl dX5_checkThere_4 ?_
  refine lv_iload_n hx hb dX5_checkThere_7 rfl (lv_at hl 1 rfl) ?_
  refine va_zald hx hb hK hP 14 2 (wC_g14 a k _) rfl (vp_in_nI (n := n) (N := 200) (by omega) (by decide)) dX5_checkThere_8 ?_
  refine wtopi (bI (cu_B u 0 n)) (congrArg (fun j9 => bI (cu_B u 0 j9)) (nI_clamp (n := n) (Nat.lt_trans (m := 200) (by omega) (by decide)))) ?_
  refine bz_ne (a := (cu_B u 0 n)) (tgt := 22) hx hb dX5_checkThere_9 (by decide) (fun c_9 => ?_) (fun c_9 => ?_)
  · exact W.vret hx hb hr (fun t9 ht9 hW9 => ⟨rfl, trivial, ht9⟩) (fun _ h => by cases h) dX5_checkThere_22
  · exact absurd c_9 (by rw [ht]; decide)
set_option maxHeartbeats 4000000 in
set_option maxRecDepth 100000 in
theorem x_X5_checkThere (l : Launch) (dC : Nat → ClassId) (dI : Nat → Nat → Nat) (a : Nat → Nat) (k : c_K) (u : c_St) (sz : Nat) (hst : l.stackTraces = false) (n : Nat) (hn : n < 200) (ht : cu_B u 0 n = false) : XMet l yX5_checkThere wsX5_checkThere ({ frames := 6, cells := 1, slots := 6, locals := 82 }) (va_Pc [.ref (a 0), .int (nI n)] (w_px (dC, dI) vwCl (wC a k u) (tC k) sz)) (x_C eISE sz) 1 6 (va_A [] sz) := by
  refine XMet.ofW (cc := cX5_checkThere) (maxL := 2) (ret := none) (by decide) rfl ?_
  intro p e s m args below meth c s₁ B hml hv
  obtain ⟨rfl, hsz, hP, hK, hX⟩ := hv
  have hx := B.exec
  have hb := B.bytes
  have hts := atoms_spec (ws := wsX5_checkThere) B.pre
  have htg : ∀ w ∈ wG, w.before _ s = true := fun w h => hts w (List.mem_cons_of_mem _ h)
  have hown : s.vm.findClass RX5 = some m.cls := findClass_of_methodNamed B.named
  have hlocks := B.notSynchronized
  have hnoh : ∀ x ∈ c.exceptionTable.toList, False := fun x hx9 => by
    have h9 := B.noHandlers (hts _ List.mem_cons_self)
    rw [Array.isEmpty_iff.mp h9] at hx9
    cases hx9
  subst hsz
  have hl := lv_entry ([.ref (a 0), .int (nI n)]) (n := 2) (Nat.le_of_ble_eq_true rfl)
  rw [lg_entry_eq]
  generalize (lg_sl ([.ref (a 0), .int (nI n)]) ++ List.replicate (2 - (lg_sl ([.ref (a 0), .int (nI n)])).length) Slot.unset).toArray = ls at hl ⊢
  have hl : lv_has ls 2 [(0, .ref (a 0)), (1, .int (nI n))] := hl
  refine lv_aload_n hx hb dX5_checkThere_0 rfl (lv_at hl 0 rfl) ?_
  refine va_get (D := (dC, dI)) (ci := 5) (v := .ref (a 1)) (C := RX5) (T := TX5) (N := 6) hx hb htg inX5 hown hK hP 0 (wC_g0 a k _) rfl 0 (by decide) (htg _ q_160) (fun _ h9 => h9) rfl dX5_checkThere_1 ?_
  refine va_get (D := (dC, dI)) (ci := 4) (v := .ref (a 14)) (C := RX4) (T := TX4) (N := 9) hx hb htg inX4 hown hK hP 1 (wC_g1 a k _) rfl 7 (by decide) (htg _ q_44) (fun _ h9 => h9) rfl dX5_checkThere_4 ?_
  refine lv_iload_n hx hb dX5_checkThere_7 rfl (lv_at hl 1 rfl) ?_
  refine va_zald hx hb hK hP 14 2 (wC_g14 a k _) rfl (vp_in_nI (n := n) (N := 200) (by omega) (by decide)) dX5_checkThere_8 ?_
  refine wtopi (bI (cu_B u 0 n)) (congrArg (fun j9 => bI (cu_B u 0 j9)) (nI_clamp (n := n) (Nat.lt_trans (m := 200) (by omega) (by decide)))) ?_
  refine bz_ne (a := (cu_B u 0 n)) (tgt := 22) hx hb dX5_checkThere_9 (by decide) (fun c_9 => ?_) (fun c_9 => ?_)
  · exact absurd c_9 (by rw [ht]; decide)
  · exact x_throw (E := eISE) (text := "the slot is dropped") (A := va_A [] s.heap.size) hx hb hst hown (by decide +kernel) htg hX own_ISE q_443 q_444 q_15 (by decide +kernel) va_S.rf (hl.1.trans hml.symm) dX5_checkThere_12 dX5_checkThere_15 dX5_checkThere_16 dX5_checkThere_18 dX5_checkThere_21 (fun x h9 => (hnoh x h9).elim) (Nat.le_of_ble_eq_true rfl) (Nat.le_of_ble_eq_true rfl) (Nat.le_of_ble_eq_true rfl) (Nat.le_of_ble_eq_true rfl) hlocks (fun q9 t9 ce9 _ z1 z2 z3 z4 z5 => ⟨⟨ce9, z3, z4, z5⟩, z1, fun z z6 _ => z2 z z6⟩) (fun _ h9 => by cases h9) (Nat.le_refl _) (Nat.le_refl _)
