theorem tnI {i : Nat} (h : i < 2147483648) : (nI i).toInt.toNat = i := by rw [nI_toInt (by omega)]; rfl
theorem m_sz_t {u : c_St} {t1 t2 : Int32} {j : Nat} (h : cu_B u 0 j = true) : nI (m_sz u t1 t2 j) + 0 = nI (m_sz u t1 t2 (j + 1)) := by
  show _ = nI (m_sz u t1 t2 j + _)
  rw [if_pos h]
  exact nI_add _ 0
theorem m_sz_f {u : c_St} {t1 t2 : Int32} {j : Nat} (h : cu_B u 0 j = false) : nI (m_sz u t1 t2 j) + nI (m_wi (m_beg u j) t1 t2 (cu_F u 2 j)) = nI (m_sz u t1 t2 (j + 1)) := by
  show _ = nI (m_sz u t1 t2 j + _)
  rw [if_neg (by rw [h]; decide)]
  exact nI_add _ _
theorem m_th_t {u : c_St} {j : Nat} (h : cu_B u 0 j = true) : nI (m_th u j) + 0 = nI (m_th u (j + 1)) := by
  show _ = nI (m_th u j + _)
  rw [if_pos h]
  exact nI_add _ 0
theorem m_th_f {u : c_St} {j : Nat} (h : cu_B u 0 j = false) : nI (m_th u j) + 1 = nI (m_th u (j + 1)) := by
  show _ = nI (m_th u j + _)
  rw [if_neg (by rw [h]; decide)]
  exact nI_1 _
theorem m_vf_n {u : c_St} {s : Nat} (h : m_vf u s = -1) (h2 : ¬ (cu_B u 0 s = false ∧ m_sm (fun i => cu_G u 2 (8 * s + i)) 0 (cu_F u 2 s) ≠ cu_G u 0 s)) : m_vf u (s + 1) = -1 := by
  unfold m_vf
  rw [if_pos h, if_neg h2]
theorem m_vf_y {u : c_St} {s : Nat} (h : m_vf u s = -1) (h2 : cu_B u 0 s = false ∧ m_sm (fun i => cu_G u 2 (8 * s + i)) 0 (cu_F u 2 s) ≠ cu_G u 0 s) : ∀ d, m_vf u (s + 1 + d) = (s : Int)
  | 0 => by
    show m_vf u (s + 1) = _
    unfold m_vf
    rw [if_pos h, if_pos h2]
  | d + 1 => by
    have h3 := m_vf_y h h2 d
    show (if m_vf u (s + 1 + d) = -1 then _ else m_vf u (s + 1 + d)) = _
    rw [h3, if_neg (by omega)]

set_option maxHeartbeats 4000000 in
set_option maxRecDepth 100000 in
theorem c_X6_size (l : Launch) (dC : Nat → ClassId) (dI : Nat → Nat → Nat) (a : Nat → Nat) (k : c_K) (u : c_St) (sz : Nat) (h : m_ok u) (t1 t2 : Int32) : Met l yX6_size wsX6_size ({ frames := 4, cells := 0, slots := 0, locals := 90 }) (va_Pc [.ref (a 0), .int t1, .int t2] (w_mu (dC, dI) vwCl (wR a k u) (tC k) sz)) (va_Qi (fun (r : Int32) (u1 : c_St) => u1 = cs_N u 4 0 ∧ r = nI (m_sz u1 t1 t2 (cu_N u1 0))) (w_at (dC, dI) vwCl (wR a k) (tC k) (va_A (wR a k u) sz)) (va_A (wR a k u) sz)) 0 0 (va_A (wR a k u) sz) := by
  refine Met.ofW (cc := cX6_size) (maxL := 5) (ret := (some .int)) (by decide) rfl ?_
  intro p e s m args below meth c s₁ B hml hv
  obtain ⟨rfl, hsz, hP, hK, hD0⟩ := hv
  have hx := B.exec
  have hb := B.bytes
  have hr := B.returns
  have hts := atoms_spec (ws := wsX6_size) B.pre
  have htg : ∀ w ∈ wG, w.before _ s = true := fun w h => hts w (List.mem_cons_of_mem _ h)
  have hown : s.vm.findClass RX6 = some m.cls := findClass_of_methodNamed B.named
  have hlocks := B.notSynchronized
  subst hsz
  have hD := hD0.self (sz := s.heap.size)
  generalize hAe : va_A (wR a k u) s.heap.size = A at hD ⊢
  have hA : ∀ q : Nat, s.heap.size ≤ q → A q := fun q h => by rw [← hAe]; exact Or.inr h
  have hS : va_S A s.heap s.heap [] := va_S.rf
  have hl := lv_entry ([.ref (a 0), .int t1, .int t2]) (n := 5) (Nat.le_of_ble_eq_true rfl)
  rw [lg_entry_eq]
  generalize (lg_sl ([.ref (a 0), .int t1, .int t2]) ++ List.replicate (5 - (lg_sl ([.ref (a 0), .int t1, .int t2])).length) Slot.unset).toArray = ls at hl ⊢
  have hl : lv_has ls 5 [(0, .ref (a 0)), (1, .int t1), (2, .int t2)] := hl
  refine lv_aload_n hx hb dX6_size_0 rfl (lv_at hl 0 rfl) ?_
  refine lv_iconst (v := 0) hx hb dX6_size_1 (by decide) ?_
  refine va_put (D := (dC, dI)) (ci := 6) (v := .int 0) (ty := .int) (C := RX6) (T := TX6) (N := 20) hx hb htg inX6 tyX6 tyX6_ok nmX6 hown hK hP hD hS 0 (wR_g0 a k _) rfl 0 (by decide) (htg _ q_581) (fun _ h9 => h9) rfl (by decide +kernel) rfl rfl (Nat.le_of_ble_eq_true rfl) dX6_size_2 (fun H locs hP hD hS => ?_)
  have hP := w_pE (wR_n4 a k _ 0) hP
  have hD := w_dE (wR_n4 a k _ 0) hD
  obtain ⟨v, ev⟩ : ∃ v, v = cs_N u 4 0 := ⟨_, rfl⟩
  rw [← ev] at hP hD
  have hv : m_ok v := by rw [ev]; exact h
  have hv0 := hv.1
  refine lv_iconst (v := 0) hx hb dX6_size_5 (by decide) ?_
  refine lv_istore_n (lv' := [(3, .int 0), (0, .ref (a 0)), (1, .int t1), (2, .int t2)]) hx hb dX6_size_6 rfl hl (by decide) rfl (fun ls hl => ?_)
  refine lv_iconst (v := 0) hx hb dX6_size_7 (by decide) ?_
  refine lv_istore (lv' := [(4, .int 0), (3, .int 0), (0, .ref (a 0)), (1, .int t1), (2, .int t2)]) hx hb dX6_size_8 hl (by decide) rfl (fun ls hl => ?_)
  refine w_loop (fun j : Nat => cu_N v 0 - j) (fun j ls => j ≤ cu_N v 0 ∧ lv_has ls 5 [(0, .ref (a 0)), (1, .int t1), (2, .int t2), (3, .int (nI (m_sz v t1 t2 j))), (4, .int (nI j))]) ?_ (0) ls ⟨Nat.zero_le _, lv_sub hl [2, 3, 4, 1, 0] rfl⟩
  clear hl
  intro j ls hI ih
  obtain ⟨hI, hl⟩ := hI
  refine lv_iload hx hb dX6_size_10 (lv_at hl 4 rfl) ?_
  refine lv_aload_n hx hb dX6_size_12 rfl (lv_at hl 0 rfl) ?_
  refine va_get (D := (dC, dI)) (ci := 6) (v := .int (nI (cu_N v 0))) (C := RX6) (T := TX6) (N := 20) hx hb htg inX6 hown hK hP 0 (wR_g0 a k _) rfl 1 (by decide) (htg _ q_582) (fun _ h9 => h9) rfl dX6_size_13 ?_
  refine nb_ge (a := j) (b := (cu_N v 0)) (tgt := 50) hx hb (by omega) (by omega) rfl rfl dX6_size_16 (by decide) (fun c_16 => ?_) (fun c_16 => ?_)
  · refine lv_iload_n hx hb dX6_size_50 rfl (lv_at hl 3 rfl) ?_
    exact W.iret (v := nI (m_sz v t1 t2 j)) hx hb hr (fun t9 ht9 hW9 => ⟨⟨_, v, rfl, ⟨ev, by rw [show cu_N v 0 = j by omega]⟩, by rw [ht9]; exact hP, va_K.moved hW9.alike hK, hD⟩, hS.F ht9⟩) hS.2.2 dX6_size_51
  · refine lv_iload_n hx hb dX6_size_19 rfl (lv_at hl 3 rfl) ?_
    refine lv_aload_n hx hb dX6_size_20 rfl (lv_at hl 0 rfl) ?_
    refine va_get (D := (dC, dI)) (ci := 6) (v := .ref (a 9)) (C := RX6) (T := TX6) (N := 20) hx hb htg inX6 hown hK hP 0 (wR_g0 a k _) rfl 9 (by decide) (htg _ q_590) (fun _ h9 => h9) rfl dX6_size_21 ?_
    refine lv_iload hx hb dX6_size_24 (lv_at hl 4 rfl) ?_
    refine va_zald hx hb hK hP 9 2 (wR_g9 a k _) rfl (vp_in_nI (n := j) (N := 200) (by omega) (by decide)) dX6_size_26 ?_
    refine wtopi (bI (cu_B v 0 j)) (congrArg (fun j9 => bI (cu_B v 0 j9)) (nI_clamp (n := j) (Nat.lt_trans (m := 200) (by omega) (by decide)))) ?_
    refine bz_eq (a := (cu_B v 0 j)) (tgt := 34) hx hb dX6_size_27 (by decide) (fun c_27 => ?_) (fun c_27 => ?_)
    · refine lv_aload_n hx hb dX6_size_34 rfl (lv_at hl 0 rfl) ?_
      refine lv_iload hx hb dX6_size_35 (lv_at hl 4 rfl) ?_
      refine lv_iload_n hx hb dX6_size_37 rfl (lv_at hl 1 rfl) ?_
      refine lv_iload_n hx hb dX6_size_38 rfl (lv_at hl 2 rfl) ?_
      refine vp_callSi (W.runV (As := [.int (nI j), .int t1, .int t2]) (rest := [.int (nI (m_sz v t1 t2 j))]) ⟨hx, hb, hml, hown, hts⟩ (c_X6_within l dC dI a k v hv j (by omega) t1 t2) (cwV 3 hts (wG_V wG_c q_698 q_700 p_13 q_7 q_701) rfl rfl rfl (by decide +kernel) ⟨Nat.le_of_ble_eq_true rfl, Nat.le_of_ble_eq_true rfl⟩) (w_roV hK hP (ci := 6) (q0 := 0) rfl (wR_g0 a k _) rfl) rfl rfl hl.1 rfl (lv_room (Nat.le_of_ble_eq_true rfl)) dX6_size_39 ⟨Nat.le_of_ble_eq_true rfl, Nat.le_of_ble_eq_true rfl⟩) (fun r_1 hr_1 => ?_)
      subst hr_1
      refine lv_iadd hx hb dX6_size_42 ?_
      refine wtopi (y := nI (m_sz v t1 t2 (j + 1))) (m_sz_f c_27) ?_
      refine lv_istore_n (lv' := [(3, .int (nI (m_sz v t1 t2 (j + 1)))), (0, .ref (a 0)), (1, .int t1), (2, .int t2), (4, .int (nI j))]) hx hb dX6_size_43 rfl hl (by decide) rfl (fun ls hl => ?_)
      refine lv_iinc (v := nI (j + 1)) (lv' := [(4, .int (nI (j + 1))), (3, .int (nI (m_sz v t1 t2 (j + 1)))), (0, .ref (a 0)), (1, .int t1), (2, .int t2)]) hx hb dX6_size_44 hl (k := 4) rfl (nI_1 j) (by decide) rfl (fun ls hl => ?_)
      refine lv_goto (tgt := 10) hx hb dX6_size_47 (by decide) ?_
      exact ih (j + 1) ls (by omega) ⟨by omega, lv_sub hl [2, 3, 4, 1, 0] rfl⟩
    · refine lv_iconst (v := 0) hx hb dX6_size_30 (by decide) ?_
      refine lv_goto (tgt := 42) hx hb dX6_size_31 (by decide) ?_
      refine lv_iadd hx hb dX6_size_42 ?_
      refine wtopi (y := nI (m_sz v t1 t2 (j + 1))) (m_sz_t c_27) ?_
      refine lv_istore_n (lv' := [(3, .int (nI (m_sz v t1 t2 (j + 1)))), (0, .ref (a 0)), (1, .int t1), (2, .int t2), (4, .int (nI j))]) hx hb dX6_size_43 rfl hl (by decide) rfl (fun ls hl => ?_)
      refine lv_iinc (v := nI (j + 1)) (lv' := [(4, .int (nI (j + 1))), (3, .int (nI (m_sz v t1 t2 (j + 1)))), (0, .ref (a 0)), (1, .int t1), (2, .int t2)]) hx hb dX6_size_44 hl (k := 4) rfl (nI_1 j) (by decide) rfl (fun ls hl => ?_)
      refine lv_goto (tgt := 10) hx hb dX6_size_47 (by decide) ?_
      exact ih (j + 1) ls (by omega) ⟨by omega, lv_sub hl [2, 3, 4, 1, 0] rfl⟩
set_option maxHeartbeats 4000000 in
set_option maxRecDepth 100000 in
theorem c_X6_export (l : Launch) (dC : Nat → ClassId) (dI : Nat → Nat → Nat) (a : Nat → Nat) (k : c_K) (u : c_St) (sz : Nat) (h : m_ok u) (t1 t2 : Int32) : Met l yX6_export wsX6_export ({ frames := 6, cells := 0, slots := 0, locals := 143 }) (va_Pc [.ref (a 0), .int t1, .int t2] (w_mu (dC, dI) vwCl (wR a k u) (tC k) sz)) (va_Qi (fun (r : Int32) (u1 : c_St) => u1 = cs_N u 4 0 ∧ ∃ q : Nat, r = m_ex u1 t1 t2 q ∧ m_fnd u1 t1 t2 (-1) (-1) q (cu_N u1 0) = -1 ∧ ∀ j, j < q → 0 ≤ m_fnd u1 t1 t2 (-1) (-1) j (cu_N u1 0)) (w_at (dC, dI) vwCl (wR a k) (tC k) (va_A (wR a k u) sz)) (va_A (wR a k u) sz)) 0 0 (va_A (wR a k u) sz) := by
  refine Met.ofW (cc := cX6_export) (maxL := 6) (ret := (some .int)) (by decide) rfl ?_
  intro p e s m args below meth c s₁ B hml hv
  obtain ⟨rfl, hsz, hP, hK, hD0⟩ := hv
  have hx := B.exec
  have hb := B.bytes
  have hr := B.returns
  have hts := atoms_spec (ws := wsX6_export) B.pre
  have htg : ∀ w ∈ wG, w.before _ s = true := fun w h => hts w (List.mem_cons_of_mem _ h)
  have hown : s.vm.findClass RX6 = some m.cls := findClass_of_methodNamed B.named
  have hlocks := B.notSynchronized
  subst hsz
  have hD := hD0.self (sz := s.heap.size)
  generalize hAe : va_A (wR a k u) s.heap.size = A at hD ⊢
  have hA : ∀ q : Nat, s.heap.size ≤ q → A q := fun q h => by rw [← hAe]; exact Or.inr h
  have hS : va_S A s.heap s.heap [] := va_S.rf
  have hl := lv_entry ([.ref (a 0), .int t1, .int t2]) (n := 6) (Nat.le_of_ble_eq_true rfl)
  rw [lg_entry_eq]
  generalize (lg_sl ([.ref (a 0), .int t1, .int t2]) ++ List.replicate (6 - (lg_sl ([.ref (a 0), .int t1, .int t2])).length) Slot.unset).toArray = ls at hl ⊢
  have hl : lv_has ls 6 [(0, .ref (a 0)), (1, .int t1), (2, .int t2)] := hl
  refine lv_aload_n hx hb dX6_export_0 rfl (lv_at hl 0 rfl) ?_
  refine lv_iconst (v := 0) hx hb dX6_export_1 (by decide) ?_
  refine va_put (D := (dC, dI)) (ci := 6) (v := .int 0) (ty := .int) (C := RX6) (T := TX6) (N := 20) hx hb htg inX6 tyX6 tyX6_ok nmX6 hown hK hP hD hS 0 (wR_g0 a k _) rfl 0 (by decide) (htg _ q_581) (fun _ h9 => h9) rfl (by decide +kernel) rfl rfl (Nat.le_of_ble_eq_true rfl) dX6_export_2 (fun H locs hP hD hS => ?_)
  have hP := w_pE (wR_n4 a k _ 0) hP
  have hD := w_dE (wR_n4 a k _ 0) hD
  obtain ⟨v, ev⟩ : ∃ v, v = cs_N u 4 0 := ⟨_, rfl⟩
  rw [← ev] at hP hD
  have hv : m_ok v := by rw [ev]; exact h
  have hv0 := hv.1
  refine lv_iconst (v := 0) hx hb dX6_export_5 (by decide) ?_
  refine lv_istore_n (lv' := [(3, .int 0), (0, .ref (a 0)), (1, .int t1), (2, .int t2)]) hx hb dX6_export_6 rfl hl (by decide) rfl (fun ls hl => ?_)
  refine lv_iconst (v := 0) hx hb dX6_export_7 (by decide) ?_
  refine lv_istore (lv' := [(4, .int 0), (3, .int 0), (0, .ref (a 0)), (1, .int t1), (2, .int t2)]) hx hb dX6_export_8 hl (by decide) rfl (fun ls hl => ?_)
  refine lv_aload_n hx hb dX6_export_10 rfl (lv_at hl 2 rfl) ?_
  refine lv_iload_n hx hb dX6_export_11 rfl (lv_at hl 3 rfl) ?_
  refine lv_iload_n hx hb dX6_export_12 rfl (lv_at hl 4 rfl) ?_
  refine lv_iconst (v := (-1)) hx hb dX6_export_13 (by decide) ?_
  refine lv_iconst (v := (-1)) hx hb dX6_export_14 (by decide) ?_
  refine lv_iconst (v := 0) hx hb dX6_export_15 (by decide) ?_
  refine vp_callSi (W.runV (As := [.int t1, .int t2, .int (-1), .int (-1), .int 0]) (rest := []) ⟨hx, hb, hml, hown, hts⟩ (c_X6_found l dC dI a k v hv t1 t2 (-1) (-1) 0 (by decide)) (cwV 5 hts (wG_V wG_c q_690 q_692 p_11 q_7 q_693) rfl rfl rfl (by decide +kernel) ⟨Nat.le_of_ble_eq_true rfl, Nat.le_of_ble_eq_true rfl⟩) (w_roV hK hP (ci := 6) (q0 := 0) rfl (wR_g0 a k _) rfl) rfl rfl hl.1 rfl (lv_room (Nat.le_of_ble_eq_true rfl)) dX6_export_16 ⟨Nat.le_of_ble_eq_true rfl, Nat.le_of_ble_eq_true rfl⟩) (fun r_1 hr_1 => ?_)
  subst hr_1
  refine lv_istore (lv' := [(5, .int (iI (m_fnd v t1 t2 (-1) (-1) 0 (cu_N v 0)))), (4, .int 0), (3, .int 0), (0, .ref (a 0)), (1, .int t1), (2, .int t2)]) hx hb dX6_export_19 hl (by decide) rfl (fun ls hl => ?_)
  refine w_loop (fun q : Nat => 202 - q) (fun q ls => (q ≤ 201 ∧ ∀ j, j < q → 0 ≤ m_fnd v t1 t2 (-1) (-1) j (cu_N v 0)) ∧ lv_has ls 6 [(0, .ref (a 0)), (1, .int t1), (2, .int t2), (3, .int (m_ex v t1 t2 q)), (4, .int (nI q)), (5, .int (iI (m_fnd v t1 t2 (-1) (-1) q (cu_N v 0))))]) ?_ (0) ls ⟨⟨by decide, fun j hj => absurd hj (Nat.not_lt_zero j)⟩, lv_sub hl [3, 4, 5, 2, 1, 0] rfl⟩
  clear hl
  intro q ls hI ih
  obtain ⟨hI, hl⟩ := hI
  have hfb := m_fnd_b v t1 t2 (-1) (-1) q (cu_N v 0)
  refine lv_iload hx hb dX6_export_21 (lv_at hl 5 rfl) ?_
  refine iz_lt (a := (m_fnd v t1 t2 (-1) (-1) q (cu_N v 0))) (tgt := 54) hx hb (by omega) (by omega) rfl dX6_export_23 (by decide) (fun c_23 => ?_) (fun c_23 => ?_)
  · refine lv_iload_n hx hb dX6_export_54 rfl (lv_at hl 3 rfl) ?_
    exact W.iret (v := m_ex v t1 t2 q) hx hb hr (fun t9 ht9 hW9 => ⟨⟨_, v, rfl, ⟨ev, q, rfl, by omega, hI.2⟩, by rw [ht9]; exact hP, va_K.moved hW9.alike hK, hD⟩, hS.F ht9⟩) hS.2.2 dX6_export_55
  · have hfq := m_fnd_q (cu_N v 0) c_23
    have hal := m_ah_le v t1 t2 (-1) (-1) (m_fnd v t1 t2 (-1) (-1) q (cu_N v 0)).toNat (cu_N v 0)
    have hq9 : q ≤ 200 := by omega
    have hI2 : ∀ j, j < q + 1 → 0 ≤ m_fnd v t1 t2 (-1) (-1) j (cu_N v 0) := by
      intro j hj
      by_cases hjq : j = q
      · rw [hjq]; exact c_23
      · exact hI.2 j (by omega)
    refine lv_aload_n hx hb dX6_export_26 rfl (lv_at hl 0 rfl) ?_
    refine lv_iload_n hx hb dX6_export_27 rfl (lv_at hl 3 rfl) ?_
    refine lv_iload hx hb dX6_export_28 (lv_at hl 5 rfl) ?_
    refine wtopi (y := nI ((m_fnd v t1 t2 (-1) (-1) q (cu_N v 0)).toNat)) (show iI _ = nI _ from by rw [nI_iI, Int.toNat_of_nonneg c_23]) ?_
    refine lv_iload_n hx hb dX6_export_30 rfl (lv_at hl 1 rfl) ?_
    refine lv_iload_n hx hb dX6_export_31 rfl (lv_at hl 2 rfl) ?_
    refine vp_callSi (W.runV (As := [.int (m_ex v t1 t2 q), .int (nI ((m_fnd v t1 t2 (-1) (-1) q (cu_N v 0)).toNat)), .int t1, .int t2]) (rest := []) ⟨hx, hb, hml, hown, hts⟩ (c_X6_sumWithin l dC dI a k v hv (m_ex v t1 t2 q) (m_fnd v t1 t2 (-1) (-1) q (cu_N v 0)).toNat (by omega) t1 t2) (cwV 4 hts (wG_V wG_c q_730 q_732 p_18 q_7 q_733) rfl rfl rfl (by decide +kernel) ⟨Nat.le_of_ble_eq_true rfl, Nat.le_of_ble_eq_true rfl⟩) (w_roV hK hP (ci := 6) (q0 := 0) rfl (wR_g0 a k _) rfl) rfl rfl hl.1 rfl (lv_room (Nat.le_of_ble_eq_true rfl)) dX6_export_32 ⟨Nat.le_of_ble_eq_true rfl, Nat.le_of_ble_eq_true rfl⟩) (fun r_2 hr_2 => ?_)
    subst hr_2
    refine lv_istore_n (lv' := [(3, .int (m_ex v t1 t2 (q + 1))), (0, .ref (a 0)), (1, .int t1), (2, .int t2), (4, .int (nI q)), (5, .int (iI (m_fnd v t1 t2 (-1) (-1) q (cu_N v 0))))]) hx hb dX6_export_35 rfl hl (by decide) rfl (fun ls hl => ?_)
    refine lv_iinc (v := nI (q + 1)) (lv' := [(4, .int (nI (q + 1))), (3, .int (m_ex v t1 t2 (q + 1))), (0, .ref (a 0)), (1, .int t1), (2, .int t2), (5, .int (iI (m_fnd v t1 t2 (-1) (-1) q (cu_N v 0))))]) hx hb dX6_export_36 hl (k := 4) rfl (nI_1 q) (by decide) rfl (fun ls hl => ?_)
    refine lv_aload_n hx hb dX6_export_39 rfl (lv_at hl 2 rfl) ?_
    refine lv_iload_n hx hb dX6_export_40 rfl (lv_at hl 3 rfl) ?_
    refine lv_iload_n hx hb dX6_export_41 rfl (lv_at hl 4 rfl) ?_
    refine lv_iconst (v := (-1)) hx hb dX6_export_42 (by decide) ?_
    refine lv_iconst (v := (-1)) hx hb dX6_export_43 (by decide) ?_
    refine lv_iload hx hb dX6_export_44 (lv_at hl 0 rfl) ?_
    refine vp_callSi (W.runV (As := [.int t1, .int t2, .int (-1), .int (-1), .int (nI (q + 1))]) (rest := []) ⟨hx, hb, hml, hown, hts⟩ (c_X6_found l dC dI a k v hv t1 t2 (-1) (-1) (q + 1) (by omega)) (cwV 5 hts (wG_V wG_c q_690 q_692 p_11 q_7 q_693) rfl rfl rfl (by decide +kernel) ⟨Nat.le_of_ble_eq_true rfl, Nat.le_of_ble_eq_true rfl⟩) (w_roV hK hP (ci := 6) (q0 := 0) rfl (wR_g0 a k _) rfl) rfl rfl hl.1 rfl (lv_room (Nat.le_of_ble_eq_true rfl)) dX6_export_46 ⟨Nat.le_of_ble_eq_true rfl, Nat.le_of_ble_eq_true rfl⟩) (fun r_3 hr_3 => ?_)
    subst hr_3
    refine lv_istore (lv' := [(5, .int (iI (m_fnd v t1 t2 (-1) (-1) (q + 1) (cu_N v 0)))), (4, .int (nI (q + 1))), (3, .int (m_ex v t1 t2 (q + 1))), (0, .ref (a 0)), (1, .int t1), (2, .int t2)]) hx hb dX6_export_49 hl (by decide) rfl (fun ls hl => ?_)
    refine lv_goto (tgt := 21) hx hb dX6_export_51 (by decide) ?_
    exact ih (q + 1) ls (by omega) ⟨⟨by omega, hI2⟩, lv_sub hl [3, 4, 5, 2, 1, 0] rfl⟩
set_option maxHeartbeats 4000000 in
set_option maxRecDepth 100000 in
theorem c_X6_hold (l : Launch) (dC : Nat → ClassId) (dI : Nat → Nat → Nat) (a : Nat → Nat) (k : c_K) (u : c_St) (sz : Nat) (p0 : Int32) (on : Bool) : Met l yX6_hold wsX6_hold ({ frames := 1, cells := 0, slots := 0, locals := 23 }) (va_Pc [.ref (a 0), .int p0, .int (bI on)] (w_mu (dC, dI) vwCl (wR a k u) (tC k) sz)) (va_Qv (fun (u1 : c_St) => (m_code (!inR p0 0 49) (inR p0 0 49 && (cu_B u 1 p0.toInt.toNat == on)) false ≠ 0 → u1 = cs_N u 4 (m_code (!inR p0 0 49) (inR p0 0 49 && (cu_B u 1 p0.toInt.toNat == on)) false)) ∧ (m_code (!inR p0 0 49) (inR p0 0 49 && (cu_B u 1 p0.toInt.toNat == on)) false = 0 → ∃ i : Nat, p0 = nI i ∧ i ≤ 49 ∧ u1 = cs_B (cs_N u 4 0) 1 i on)) (w_at (dC, dI) vwCl (wR a k) (tC k) (va_A (wR a k u) sz)) (va_A (wR a k u) sz)) 0 0 (va_A (wR a k u) sz) := by
  refine Met.ofW (cc := cX6_hold) (maxL := 4) (ret := none) (by decide) rfl ?_
  intro p e s m args below meth c s₁ B hml hv
  obtain ⟨rfl, hsz, hP, hK, hD0⟩ := hv
  have hx := B.exec
  have hb := B.bytes
  have hr := B.returns
  have hts := atoms_spec (ws := wsX6_hold) B.pre
  have htg : ∀ w ∈ wG, w.before _ s = true := fun w h => hts w (List.mem_cons_of_mem _ h)
  have hown : s.vm.findClass RX6 = some m.cls := findClass_of_methodNamed B.named
  have hlocks := B.notSynchronized
  subst hsz
  have hD := hD0.self (sz := s.heap.size)
  generalize hAe : va_A (wR a k u) s.heap.size = A at hD ⊢
  have hA : ∀ q : Nat, s.heap.size ≤ q → A q := fun q h => by rw [← hAe]; exact Or.inr h
  have hS : va_S A s.heap s.heap [] := va_S.rf
  have hl := lv_entry ([.ref (a 0), .int p0, .int (bI on)]) (n := 4) (Nat.le_of_ble_eq_true rfl)
  rw [lg_entry_eq]
  generalize (lg_sl ([.ref (a 0), .int p0, .int (bI on)]) ++ List.replicate (4 - (lg_sl ([.ref (a 0), .int p0, .int (bI on)])).length) Slot.unset).toArray = ls at hl ⊢
  have hl : lv_has ls 4 [(0, .ref (a 0)), (1, .int p0), (2, .int (bI on))] := hl
  refine lv_iload_n hx hb dX6_hold_0 rfl (lv_at hl 1 rfl) ?_
  refine lv_iconst (v := 0) hx hb dX6_hold_1 (by decide) ?_
  refine lv_bipush (v := 49) hx hb dX6_hold_2 (by decide) ?_
  refine vp_callSi (W.runS (As := [.int p0, .int 0, .int 49]) (rest := []) ⟨hx, hb, hml, hown, hts⟩ (c_X6_in l dC dI a k u p0 0 49) (cwS 3 hts (wG_S wG_c q_650 q_651 q_7 q_652) rfl rfl rfl (by decide +kernel) ⟨Nat.le_of_ble_eq_true rfl, Nat.le_of_ble_eq_true rfl⟩) (w_roS hK hP) rfl rfl hl.1 rfl (lv_room (Nat.le_of_ble_eq_true rfl)) dX6_hold_4 ⟨Nat.le_of_ble_eq_true rfl, Nat.le_of_ble_eq_true rfl⟩) (fun r_1 hr_1 => ?_)
  subst hr_1
  refine bz_ne (a := (inR p0 0 49)) (tgt := 14) hx hb dX6_hold_7 (by decide) (fun c_7 => ?_) (fun c_7 => ?_)
  · refine lv_iconst (v := 0) hx hb dX6_hold_14 (by decide) ?_
    refine lv_istore_n (lv' := [(3, .int 0), (0, .ref (a 0)), (1, .int p0), (2, .int (bI on))]) hx hb dX6_hold_15 rfl hl (by decide) rfl (fun ls hl => ?_)
    refine lv_aload_n hx hb dX6_hold_16 rfl (lv_at hl 1 rfl) ?_
    refine lv_iload_n hx hb dX6_hold_17 rfl (lv_at hl 0 rfl) ?_
    refine lv_iload_n hx hb dX6_hold_18 rfl (lv_at hl 0 rfl) ?_
    refine lv_if_ne (tgt := 36) hx hb dX6_hold_19 (by decide) (fun h9 => absurd h9 (by decide)) (fun _ => ?_)
    obtain ⟨i9, l_i9, h_i9, e_i9⟩ := inR_nat (l9 := 0) (h9 := 49) c_7 rfl rfl (by decide)
    subst e_i9
    have et9 := tnI (i := i9) (by omega)
    refine lv_aload_n hx hb dX6_hold_22 rfl (lv_at hl 1 rfl) ?_
    refine va_get (D := (dC, dI)) (ci := 6) (v := .ref (a 10)) (C := RX6) (T := TX6) (N := 20) hx hb htg inX6 hown hK hP 0 (wR_g0 a k _) rfl 13 (by decide) (htg _ q_594) (fun _ h9 => h9) rfl dX6_hold_23 ?_
    refine lv_iload_n hx hb dX6_hold_26 rfl (lv_at hl 2 rfl) ?_
    refine va_zald hx hb hK hP 10 2 (wR_g10 a k _) rfl (vp_in_nI (n := i9) (N := 50) (show i9 < 50 by omega) (by decide)) dX6_hold_27 ?_
    refine wtopi (bI (cu_B u 1 i9)) (congrArg (fun j9 => bI (cu_B u 1 j9)) (nI_clamp (n := i9) (Nat.lt_trans (m := 50) (show i9 < 50 by omega) (by decide)))) ?_
    refine lv_iload_n hx hb dX6_hold_28 rfl (lv_at hl 3 rfl) ?_
    refine lv_icmp_ne (tgt := 36) hx hb dX6_hold_29 (by decide) (fun c_29 => ?_) (fun c_29 => ?_)
    · have c_29 : (cu_B u 1 i9 == on) = false := by
        rw [beq_eq_false_iff_ne]
        exact fun z => c_29 (bI_inj.mpr z)
      refine lv_iconst (v := 0) hx hb dX6_hold_36 (by decide) ?_
      refine lv_iconst (v := 0) hx hb dX6_hold_37 (by decide) ?_
      refine w_cali (w := wR a k) (va_runV (As := [.int 0, .int 0, .int 0]) (rest := []) ⟨hx, hb, hml, hown, hts⟩ (c_X6_throwing l dC dI a k u _ false false false) (cwV 3 hts (wG_V wG_c q_654 q_656 p_7 q_7 q_657) rfl rfl rfl (by decide +kernel) ⟨Nat.le_of_ble_eq_true rfl, Nat.le_of_ble_eq_true rfl⟩) (w_muV hK hP hD (ci := 6) (q0 := 0) rfl (wR_g0 a k _) rfl) rfl rfl hl.1 rfl (lv_room (Nat.le_of_ble_eq_true rfl)) dX6_hold_38 ⟨Nat.le_of_ble_eq_true rfl, Nat.le_of_ble_eq_true rfl⟩) hD hS hA (fun r_2 u_2 H locs hq_2 hP hD hS => ?_)
      obtain ⟨er9, eu9⟩ := hq_2
      subst er9 eu9
      refine wtopi (0) rfl ?_
      refine lv_if_eq (tgt := 45) hx hb dX6_hold_41 (by decide) (fun _ => ?_) (fun h9 => absurd h9 (by decide))
      refine lv_aload_n hx hb dX6_hold_45 rfl (lv_at hl 1 rfl) ?_
      refine va_get (D := (dC, dI)) (ci := 6) (v := .ref (a 10)) (C := RX6) (T := TX6) (N := 20) hx hb htg inX6 hown hK hP 0 (wR_g0 a k _) rfl 13 (by decide) (htg _ q_594) (fun _ h9 => h9) rfl dX6_hold_46 ?_
      refine lv_iload_n hx hb dX6_hold_49 rfl (lv_at hl 2 rfl) ?_
      refine lv_iload_n hx hb dX6_hold_50 rfl (lv_at hl 3 rfl) ?_
      refine va_zast hx hb hK hP hD hS 10 2 (wR_g10 a k _) rfl (vp_in_nI (n := i9) (N := 50) (show i9 < 50 by omega) (by decide)) dX6_hold_51 (fun H locs hP hD hS => ?_)
      have hP := w_pE (wR_s10 a k _ i9 on (Nat.lt_trans (m := 50) (show i9 < 50 by omega) (by decide))) hP
      have hD := w_dE (wR_s10 a k _ i9 on (Nat.lt_trans (m := 50) (show i9 < 50 by omega) (by decide))) hD
      exact W.vret hx hb hr (fun t9 ht9 hW9 => ⟨⟨cs_B (cs_N u 4 (m_code false false false)) 1 i9 on, rfl, ⟨fun h9 => absurd (by simp [m_code, c_7, c_29, et9]) h9, fun _ => ⟨i9, rfl, h_i9, rfl⟩⟩, by rw [ht9]; exact hP, va_K.moved hW9.alike hK, hD⟩, hS.F ht9⟩) hS.2.2 dX6_hold_52
    · have c_29 : (cu_B u 1 i9 == on) = true := by
        rw [beq_iff_eq]
        exact bI_inj.mp c_29
      refine lv_iconst (v := 1) hx hb dX6_hold_32 (by decide) ?_
      refine lv_goto (tgt := 37) hx hb dX6_hold_33 (by decide) ?_
      refine lv_iconst (v := 0) hx hb dX6_hold_37 (by decide) ?_
      refine w_cali (w := wR a k) (va_runV (As := [.int 0, .int 1, .int 0]) (rest := []) ⟨hx, hb, hml, hown, hts⟩ (c_X6_throwing l dC dI a k u _ false true false) (cwV 3 hts (wG_V wG_c q_654 q_656 p_7 q_7 q_657) rfl rfl rfl (by decide +kernel) ⟨Nat.le_of_ble_eq_true rfl, Nat.le_of_ble_eq_true rfl⟩) (w_muV hK hP hD (ci := 6) (q0 := 0) rfl (wR_g0 a k _) rfl) rfl rfl hl.1 rfl (lv_room (Nat.le_of_ble_eq_true rfl)) dX6_hold_38 ⟨Nat.le_of_ble_eq_true rfl, Nat.le_of_ble_eq_true rfl⟩) hD hS hA (fun r_3 u_3 H locs hq_3 hP hD hS => ?_)
      obtain ⟨er9, eu9⟩ := hq_3
      subst er9 eu9
      refine wtopi (1) rfl ?_
      refine lv_if_eq (tgt := 45) hx hb dX6_hold_41 (by decide) (fun h9 => absurd h9 (by decide)) (fun _ => ?_)
      exact W.vret hx hb hr (fun t9 ht9 hW9 => ⟨⟨cs_N u 4 (m_code false true false), rfl, ⟨fun _ => congrArg (cs_N u 4) (by simp [c_7, c_29, et9]), fun h9 => absurd h9 (by simp [m_code, c_7, c_29, et9])⟩, by rw [ht9]; exact hP, va_K.moved hW9.alike hK, hD⟩, hS.F ht9⟩) hS.2.2 dX6_hold_44
  · refine lv_iconst (v := 1) hx hb dX6_hold_10 (by decide) ?_
    refine lv_goto (tgt := 15) hx hb dX6_hold_11 (by decide) ?_
    refine lv_istore_n (lv' := [(3, .int 1), (0, .ref (a 0)), (1, .int p0), (2, .int (bI on))]) hx hb dX6_hold_15 rfl hl (by decide) rfl (fun ls hl => ?_)
    refine lv_aload_n hx hb dX6_hold_16 rfl (lv_at hl 1 rfl) ?_
    refine lv_iload_n hx hb dX6_hold_17 rfl (lv_at hl 0 rfl) ?_
    refine lv_iload_n hx hb dX6_hold_18 rfl (lv_at hl 0 rfl) ?_
    refine lv_if_ne (tgt := 36) hx hb dX6_hold_19 (by decide) (fun _ => ?_) (fun h9 => absurd h9 (by decide))
    refine lv_iconst (v := 0) hx hb dX6_hold_36 (by decide) ?_
    refine lv_iconst (v := 0) hx hb dX6_hold_37 (by decide) ?_
    refine w_cali (w := wR a k) (va_runV (As := [.int 1, .int 0, .int 0]) (rest := []) ⟨hx, hb, hml, hown, hts⟩ (c_X6_throwing l dC dI a k u _ true false false) (cwV 3 hts (wG_V wG_c q_654 q_656 p_7 q_7 q_657) rfl rfl rfl (by decide +kernel) ⟨Nat.le_of_ble_eq_true rfl, Nat.le_of_ble_eq_true rfl⟩) (w_muV hK hP hD (ci := 6) (q0 := 0) rfl (wR_g0 a k _) rfl) rfl rfl hl.1 rfl (lv_room (Nat.le_of_ble_eq_true rfl)) dX6_hold_38 ⟨Nat.le_of_ble_eq_true rfl, Nat.le_of_ble_eq_true rfl⟩) hD hS hA (fun r_4 u_4 H locs hq_4 hP hD hS => ?_)
    obtain ⟨er9, eu9⟩ := hq_4
    subst er9 eu9
    refine wtopi (1) rfl ?_
    refine lv_if_eq (tgt := 45) hx hb dX6_hold_41 (by decide) (fun h9 => absurd h9 (by decide)) (fun _ => ?_)
    exact W.vret hx hb hr (fun t9 ht9 hW9 => ⟨⟨cs_N u 4 (m_code true false false), rfl, ⟨fun _ => congrArg (cs_N u 4) (by simp [c_7]), fun h9 => absurd h9 (by simp [m_code, c_7])⟩, by rw [ht9]; exact hP, va_K.moved hW9.alike hK, hD⟩, hS.F ht9⟩) hS.2.2 dX6_hold_44
set_option maxHeartbeats 4000000 in
set_option maxRecDepth 100000 in
theorem c_X6_drop (l : Launch) (dC : Nat → ClassId) (dI : Nat → Nat → Nat) (a : Nat → Nat) (k : c_K) (u : c_St) (sz : Nat) (h : m_ok u) (hC : ∀ n, n < cu_N u 0 → cu_B u 0 n = false → cu_N u 2 < 200) (p0 : Int32) : Met l yX6_drop wsX6_drop ({ frames := 2, cells := 0, slots := 0, locals := 45 }) (va_Pc [.ref (a 0), .int p0] (w_mu (dC, dI) vwCl (wR a k u) (tC k) sz)) (va_Qi (fun (r : Int32) (u1 : c_St) => (m_code (!isS (cu_N u 0) p0) (isS (cu_N u 0) p0 && (cu_B u 0 p0.toInt.toNat || cu_B u 1 (cu_F u 4 p0.toInt.toNat))) false ≠ 0 → u1 = cs_N u 4 (m_code (!isS (cu_N u 0) p0) (isS (cu_N u 0) p0 && (cu_B u 0 p0.toInt.toNat || cu_B u 1 (cu_F u 4 p0.toInt.toNat))) false)) ∧ (m_code (!isS (cu_N u 0) p0) (isS (cu_N u 0) p0 && (cu_B u 0 p0.toInt.toNat || cu_B u 1 (cu_F u 4 p0.toInt.toNat))) false = 0 → ∃ n : Nat, n < cu_N u 0 ∧ p0 = nI n ∧ cu_B u 0 n = false ∧ cu_B u 1 (cu_F u 4 n) = false ∧ r = nI (cu_N u 2) ∧ u1 = cs_N (cs_G (cs_F (cs_B (cs_N u 4 0) 0 n true) 6 (cu_N u 2) n) 1 (cu_N u 2) (m_sm (fun i => cu_G u 2 (8 * n + i)) 0 (cu_F u 2 n))) 2 (cu_N u 2 + 1))) (w_at (dC, dI) vwCl (wR a k) (tC k) (va_A (wR a k u) sz)) (va_A (wR a k u) sz)) 0 0 (va_A (wR a k u) sz) := by
  refine Met.ofW (cc := cX6_drop) (maxL := 2) (ret := (some .int)) (by decide) rfl ?_
  intro p e s m args below meth c s₁ B hml hv
  obtain ⟨rfl, hsz, hP, hK, hD0⟩ := hv
  have hx := B.exec
  have hb := B.bytes
  have hr := B.returns
  have hts := atoms_spec (ws := wsX6_drop) B.pre
  have htg : ∀ w ∈ wG, w.before _ s = true := fun w h => hts w (List.mem_cons_of_mem _ h)
  have hown : s.vm.findClass RX6 = some m.cls := findClass_of_methodNamed B.named
  have hlocks := B.notSynchronized
  subst hsz
  have hD := hD0.self (sz := s.heap.size)
  generalize hAe : va_A (wR a k u) s.heap.size = A at hD ⊢
  have hA : ∀ q : Nat, s.heap.size ≤ q → A q := fun q h => by rw [← hAe]; exact Or.inr h
  have hS : va_S A s.heap s.heap [] := va_S.rf
  have hl := lv_entry ([.ref (a 0), .int p0]) (n := 2) (Nat.le_of_ble_eq_true rfl)
  rw [lg_entry_eq]
  generalize (lg_sl ([.ref (a 0), .int p0]) ++ List.replicate (2 - (lg_sl ([.ref (a 0), .int p0])).length) Slot.unset).toArray = ls at hl ⊢
  have hl : lv_has ls 2 [(0, .ref (a 0)), (1, .int p0)] := hl
  have h20 := h.1
  refine lv_aload_n hx hb dX6_drop_0 rfl (lv_at hl 0 rfl) ?_
  refine lv_aload_n hx hb dX6_drop_1 rfl (lv_at hl 0 rfl) ?_
  refine lv_iload_n hx hb dX6_drop_2 rfl (lv_at hl 1 rfl) ?_
  refine vp_callSi (W.runV (As := [.int p0]) (rest := [.ref (a 0)]) ⟨hx, hb, hml, hown, hts⟩ (c_X6_isSlot l dC dI a k u h20 p0) (cwV 1 hts (wG_V wG_c q_714 q_716 p_16 q_7 q_717) rfl rfl rfl (by decide +kernel) ⟨Nat.le_of_ble_eq_true rfl, Nat.le_of_ble_eq_true rfl⟩) (w_roV hK hP (ci := 6) (q0 := 0) rfl (wR_g0 a k _) rfl) rfl rfl hl.1 rfl (lv_room (Nat.le_of_ble_eq_true rfl)) dX6_drop_3 ⟨Nat.le_of_ble_eq_true rfl, Nat.le_of_ble_eq_true rfl⟩) (fun r_1 hr_1 => ?_)
  subst hr_1
  refine bz_ne (a := (isS (cu_N u 0) p0)) (tgt := 13) hx hb dX6_drop_6 (by decide) (fun c_6 => ?_) (fun c_6 => ?_)
  · obtain ⟨n, h_n, e_n⟩ := isS_of (n := (cu_N u 0)) (by omega) c_6
    subst e_n
    have et9 := tnI (i := n) (by omega)
    have hn2 := h.2.2.1 n h_n
    refine lv_iconst (v := 0) hx hb dX6_drop_13 (by decide) ?_
    refine lv_aload_n hx hb dX6_drop_14 rfl (lv_at hl 0 rfl) ?_
    refine lv_iload_n hx hb dX6_drop_15 rfl (lv_at hl 1 rfl) ?_
    refine vp_callSi (W.runV (As := [.int (nI n)]) (rest := [.int 0, .ref (a 0)]) ⟨hx, hb, hml, hown, hts⟩ (c_X6_isSlot l dC dI a k u h20 (nI n)) (cwV 1 hts (wG_V wG_c q_714 q_716 p_16 q_7 q_717) rfl rfl rfl (by decide +kernel) ⟨Nat.le_of_ble_eq_true rfl, Nat.le_of_ble_eq_true rfl⟩) (w_roV hK hP (ci := 6) (q0 := 0) rfl (wR_g0 a k _) rfl) rfl rfl hl.1 rfl (lv_room (Nat.le_of_ble_eq_true rfl)) dX6_drop_16 ⟨Nat.le_of_ble_eq_true rfl, Nat.le_of_ble_eq_true rfl⟩) (fun r_2 hr_2 => ?_)
    subst hr_2
    refine wtopi (1) (by rw [c_6]; rfl) ?_
    refine lv_if_eq (tgt := 49) hx hb dX6_drop_19 (by decide) (fun h9 => absurd h9 (by decide)) (fun _ => ?_)
    refine lv_aload_n hx hb dX6_drop_22 rfl (lv_at hl 0 rfl) ?_
    refine va_get (D := (dC, dI)) (ci := 6) (v := .ref (a 9)) (C := RX6) (T := TX6) (N := 20) hx hb htg inX6 hown hK hP 0 (wR_g0 a k _) rfl 9 (by decide) (htg _ q_590) (fun _ h9 => h9) rfl dX6_drop_23 ?_
    refine lv_iload_n hx hb dX6_drop_26 rfl (lv_at hl 1 rfl) ?_
    refine va_zald hx hb hK hP 9 2 (wR_g9 a k _) rfl (vp_in_nI (n := n) (N := 200) (show n < 200 by omega) (by decide)) dX6_drop_27 ?_
    refine wtopi (bI (cu_B u 0 n)) (congrArg (fun j9 => bI (cu_B u 0 j9)) (nI_clamp (n := n) (Nat.lt_trans (m := 200) (show n < 200 by omega) (by decide)))) ?_
    refine bz_ne (a := (cu_B u 0 n)) (tgt := 45) hx hb dX6_drop_28 (by decide) (fun c_28 => ?_) (fun c_28 => ?_)
    · refine lv_iconst (v := 1) hx hb dX6_drop_45 (by decide) ?_
      refine lv_goto (tgt := 50) hx hb dX6_drop_46 (by decide) ?_
      refine lv_iconst (v := 0) hx hb dX6_drop_50 (by decide) ?_
      refine w_cali (w := wR a k) (va_runV (As := [.int 0, .int 1, .int 0]) (rest := []) ⟨hx, hb, hml, hown, hts⟩ (c_X6_throwing l dC dI a k u _ false true false) (cwV 3 hts (wG_V wG_c q_654 q_656 p_7 q_7 q_657) rfl rfl rfl (by decide +kernel) ⟨Nat.le_of_ble_eq_true rfl, Nat.le_of_ble_eq_true rfl⟩) (w_muV hK hP hD (ci := 6) (q0 := 0) rfl (wR_g0 a k _) rfl) rfl rfl hl.1 rfl (lv_room (Nat.le_of_ble_eq_true rfl)) dX6_drop_51 ⟨Nat.le_of_ble_eq_true rfl, Nat.le_of_ble_eq_true rfl⟩) hD hS hA (fun r_3 u_3 H locs hq_3 hP hD hS => ?_)
      obtain ⟨er9, eu9⟩ := hq_3
      subst er9 eu9
      refine wtopi (1) rfl ?_
      refine lv_if_eq (tgt := 59) hx hb dX6_drop_54 (by decide) (fun h9 => absurd h9 (by decide)) (fun _ => ?_)
      refine lv_iconst (v := 0) hx hb dX6_drop_57 (by decide) ?_
      exact W.iret (v := 0) hx hb hr (fun t9 ht9 hW9 => ⟨⟨_, cs_N u 4 (m_code false true false), rfl, ⟨fun _ => congrArg (cs_N u 4) (by simp [c_6, c_28, et9]), fun h9 => absurd h9 (by simp [m_code, c_6, c_28, et9])⟩, by rw [ht9]; exact hP, va_K.moved hW9.alike hK, hD⟩, hS.F ht9⟩) hS.2.2 dX6_drop_58
    · refine lv_aload_n hx hb dX6_drop_31 rfl (lv_at hl 0 rfl) ?_
      refine va_get (D := (dC, dI)) (ci := 6) (v := .ref (a 10)) (C := RX6) (T := TX6) (N := 20) hx hb htg inX6 hown hK hP 0 (wR_g0 a k _) rfl 13 (by decide) (htg _ q_594) (fun _ h9 => h9) rfl dX6_drop_32 ?_
      refine lv_aload_n hx hb dX6_drop_35 rfl (lv_at hl 0 rfl) ?_
      refine va_get (D := (dC, dI)) (ci := 6) (v := .ref (a 5)) (C := RX6) (T := TX6) (N := 20) hx hb htg inX6 hown hK hP 0 (wR_g0 a k _) rfl 7 (by decide) (htg _ q_588) (fun _ h9 => h9) rfl dX6_drop_36 ?_
      refine lv_iload_n hx hb dX6_drop_39 rfl (lv_at hl 1 rfl) ?_
      refine va_iald hx hb hK hP 5 0 (wR_g5 a k _) rfl (vp_in_nI (n := n) (N := 200) (show n < 200 by omega) (by decide)) dX6_drop_40 ?_
      refine wtopi (nI (cu_F u 4 n)) (congrArg (fun j9 => nI (cu_F u 4 j9)) (nI_clamp (n := n) (Nat.lt_trans (m := 200) (show n < 200 by omega) (by decide)))) ?_
      refine va_zald hx hb hK hP 10 2 (wR_g10 a k _) rfl (vp_in_nI (n := (cu_F u 4 n)) (N := 50) hn2.2.2.2.2.2 (by decide)) dX6_drop_41 ?_
      refine wtopi (bI (cu_B u 1 (cu_F u 4 n))) (congrArg (fun j9 => bI (cu_B u 1 j9)) (nI_clamp (n := (cu_F u 4 n)) (Nat.lt_trans (m := 50) hn2.2.2.2.2.2 (by decide)))) ?_
      refine bz_eq (a := (cu_B u 1 (cu_F u 4 n))) (tgt := 49) hx hb dX6_drop_42 (by decide) (fun c_42 => ?_) (fun c_42 => ?_)
      · refine lv_iconst (v := 0) hx hb dX6_drop_49 (by decide) ?_
        refine lv_iconst (v := 0) hx hb dX6_drop_50 (by decide) ?_
        refine w_cali (w := wR a k) (va_runV (As := [.int 0, .int 0, .int 0]) (rest := []) ⟨hx, hb, hml, hown, hts⟩ (c_X6_throwing l dC dI a k u _ false false false) (cwV 3 hts (wG_V wG_c q_654 q_656 p_7 q_7 q_657) rfl rfl rfl (by decide +kernel) ⟨Nat.le_of_ble_eq_true rfl, Nat.le_of_ble_eq_true rfl⟩) (w_muV hK hP hD (ci := 6) (q0 := 0) rfl (wR_g0 a k _) rfl) rfl rfl hl.1 rfl (lv_room (Nat.le_of_ble_eq_true rfl)) dX6_drop_51 ⟨Nat.le_of_ble_eq_true rfl, Nat.le_of_ble_eq_true rfl⟩) hD hS hA (fun r_4 u_4 H locs hq_4 hP hD hS => ?_)
        obtain ⟨er9, eu9⟩ := hq_4
        subst er9 eu9
        refine wtopi (0) rfl ?_
        refine lv_if_eq (tgt := 59) hx hb dX6_drop_54 (by decide) (fun _ => ?_) (fun h9 => absurd h9 (by decide))
        have hC := hC n h_n c_28
        refine lv_aload_n hx hb dX6_drop_59 rfl (lv_at hl 0 rfl) ?_
        refine va_get (D := (dC, dI)) (ci := 6) (v := .ref (a 9)) (C := RX6) (T := TX6) (N := 20) hx hb htg inX6 hown hK hP 0 (wR_g0 a k _) rfl 9 (by decide) (htg _ q_590) (fun _ h9 => h9) rfl dX6_drop_60 ?_
        refine lv_iload_n hx hb dX6_drop_63 rfl (lv_at hl 1 rfl) ?_
        refine lv_iconst (v := 1) hx hb dX6_drop_64 (by decide) ?_
        refine va_zast hx hb hK hP hD hS 9 2 (wR_g9 a k _) rfl (vp_in_nI (n := n) (N := 200) (show n < 200 by omega) (by decide)) dX6_drop_65 (fun H locs hP hD hS => ?_)
        have hP := w_pE (wR_s9 a k _ n true (Nat.lt_trans (m := 200) (show n < 200 by omega) (by decide))) hP
        have hD := w_dE (wR_s9 a k _ n true (Nat.lt_trans (m := 200) (show n < 200 by omega) (by decide))) hD
        refine lv_aload_n hx hb dX6_drop_66 rfl (lv_at hl 0 rfl) ?_
        refine va_get (D := (dC, dI)) (ci := 6) (v := .ref (a 7)) (C := RX6) (T := TX6) (N := 20) hx hb htg inX6 hown hK hP 0 (wR_g0 a k _) rfl 16 (by decide) (htg _ q_597) (fun _ h9 => h9) rfl dX6_drop_67 ?_
        refine lv_aload_n hx hb dX6_drop_70 rfl (lv_at hl 0 rfl) ?_
        refine va_get (D := (dC, dI)) (ci := 6) (v := .int (nI (cu_N (cs_B (cs_N u 4 (m_code false false false)) 0 n true) 2))) (C := RX6) (T := TX6) (N := 20) hx hb htg inX6 hown hK hP 0 (wR_g0 a k _) rfl 15 (by decide) (htg _ q_596) (fun _ h9 => h9) rfl dX6_drop_71 ?_
        refine wtopi (y := nI (cu_N u 2)) rfl ?_
        refine lv_iload_n hx hb dX6_drop_74 rfl (lv_at hl 1 rfl) ?_
        refine va_iast hx hb hK hP hD hS 7 0 (wR_g7 a k _) rfl (vp_in_nI (n := (cu_N u 2)) (N := 200) hC (by decide)) dX6_drop_75 (fun H locs hP hD hS => ?_)
        have hP := w_pE (wR_s7 a k _ (cu_N u 2) n (Nat.lt_trans (m := 200) hC (by decide))) hP
        have hD := w_dE (wR_s7 a k _ (cu_N u 2) n (Nat.lt_trans (m := 200) hC (by decide))) hD
        refine lv_aload_n hx hb dX6_drop_76 rfl (lv_at hl 0 rfl) ?_
        refine va_get (D := (dC, dI)) (ci := 6) (v := .ref (a 13)) (C := RX6) (T := TX6) (N := 20) hx hb htg inX6 hown hK hP 0 (wR_g0 a k _) rfl 17 (by decide) (htg _ q_598) (fun _ h9 => h9) rfl dX6_drop_77 ?_
        refine lv_aload_n hx hb dX6_drop_80 rfl (lv_at hl 0 rfl) ?_
        refine va_get (D := (dC, dI)) (ci := 6) (v := .int (nI (cu_N (cs_F (cs_B (cs_N u 4 (m_code false false false)) 0 n true) 6 (cu_N u 2) n) 2))) (C := RX6) (T := TX6) (N := 20) hx hb htg inX6 hown hK hP 0 (wR_g0 a k _) rfl 15 (by decide) (htg _ q_596) (fun _ h9 => h9) rfl dX6_drop_81 ?_
        refine wtopi (y := nI (cu_N u 2)) rfl ?_
        refine lv_aload_n hx hb dX6_drop_84 rfl (lv_at hl 0 rfl) ?_
        refine lv_iload_n hx hb dX6_drop_85 rfl (lv_at hl 1 rfl) ?_
        refine vp_callSi (W.runV (As := [.int (nI n)]) (rest := [.int (nI (cu_N u 2)), .ref (a 13)]) ⟨hx, hb, hml, hown, hts⟩ (c_X6_sumOf l dC dI a k (cs_F (cs_B (cs_N u 4 (m_code false false false)) 0 n true) 6 (cu_N u 2) n) n (by omega) hn2.2.2.2.1) (cwV 1 hts (wG_V wG_c q_658 q_660 p_8 q_7 q_661) rfl rfl rfl (by decide +kernel) ⟨Nat.le_of_ble_eq_true rfl, Nat.le_of_ble_eq_true rfl⟩) (w_roV hK hP (ci := 6) (q0 := 0) rfl (wR_g0 a k _) rfl) rfl rfl hl.1 rfl (lv_room (Nat.le_of_ble_eq_true rfl)) dX6_drop_86 ⟨Nat.le_of_ble_eq_true rfl, Nat.le_of_ble_eq_true rfl⟩) (fun r_5 hr_5 => ?_)
        subst hr_5
        refine va_iast hx hb hK hP hD hS 13 0 (wR_g13 a k _) rfl (vp_in_nI (n := (cu_N u 2)) (N := 200) hC (by decide)) dX6_drop_89 (fun H locs hP hD hS => ?_)
        have hP := w_pE (wR_s13 a k _ (cu_N u 2) (m_sm (fun i => cu_G u 2 (8 * n + i)) 0 (cu_F u 2 n)) (Nat.lt_trans (m := 200) hC (by decide))) hP
        have hD := w_dE (wR_s13 a k _ (cu_N u 2) (m_sm (fun i => cu_G u 2 (8 * n + i)) 0 (cu_F u 2 n)) (Nat.lt_trans (m := 200) hC (by decide))) hD
        refine lv_aload_n hx hb dX6_drop_90 rfl (lv_at hl 0 rfl) ?_
        refine lv_dup hx hb dX6_drop_91 rfl ?_
        refine va_get (D := (dC, dI)) (ci := 6) (v := .int (nI (cu_N (cs_G (cs_F (cs_B (cs_N u 4 (m_code false false false)) 0 n true) 6 (cu_N u 2) n) 1 (cu_N u 2) (m_sm (fun i => cu_G u 2 (8 * n + i)) 0 (cu_F u 2 n))) 2))) (C := RX6) (T := TX6) (N := 20) hx hb htg inX6 hown hK hP 0 (wR_g0 a k _) rfl 15 (by decide) (htg _ q_596) (fun _ h9 => h9) rfl dX6_drop_92 ?_
        refine lv_iconst (v := 1) hx hb dX6_drop_95 (by decide) ?_
        refine lv_iadd hx hb dX6_drop_96 ?_
        refine wtopi (y := nI (cu_N u 2 + 1)) (nI_1 (cu_N u 2)) ?_
        refine va_put (D := (dC, dI)) (ci := 6) (v := .int (nI (cu_N u 2 + 1))) (ty := .int) (C := RX6) (T := TX6) (N := 20) hx hb htg inX6 tyX6 tyX6_ok nmX6 hown hK hP hD hS 0 (wR_g0 a k _) rfl 15 (by decide) (htg _ q_596) (fun _ h9 => h9) rfl (by decide +kernel) rfl rfl (Nat.le_of_ble_eq_true rfl) dX6_drop_97 (fun H locs hP hD hS => ?_)
        have hP := w_pE (wR_n2 a k _ (cu_N u 2 + 1)) hP
        have hD := w_dE (wR_n2 a k _ (cu_N u 2 + 1)) hD
        refine lv_aload_n hx hb dX6_drop_100 rfl (lv_at hl 0 rfl) ?_
        refine va_get (D := (dC, dI)) (ci := 6) (v := .int (nI (cu_N (cs_N (cs_G (cs_F (cs_B (cs_N u 4 (m_code false false false)) 0 n true) 6 (cu_N u 2) n) 1 (cu_N u 2) (m_sm (fun i => cu_G u 2 (8 * n + i)) 0 (cu_F u 2 n))) 2 (cu_N u 2 + 1)) 2))) (C := RX6) (T := TX6) (N := 20) hx hb htg inX6 hown hK hP 0 (wR_g0 a k _) rfl 15 (by decide) (htg _ q_596) (fun _ h9 => h9) rfl dX6_drop_101 ?_
        refine wtopi (y := nI (cu_N u 2 + 1)) rfl ?_
        refine lv_iconst (v := 1) hx hb dX6_drop_104 (by decide) ?_
        refine lv_isub hx hb dX6_drop_105 ?_
        refine wtopi (y := nI (cu_N u 2)) (pk_sub (a := cu_N u 2 + 1) (b := 1) (by omega)) ?_
        exact W.iret (v := nI (cu_N u 2)) hx hb hr (fun t9 ht9 hW9 => ⟨⟨_, cs_N (cs_G (cs_F (cs_B (cs_N u 4 (m_code false false false)) 0 n true) 6 (cu_N u 2) n) 1 (cu_N u 2) (m_sm (fun i => cu_G u 2 (8 * n + i)) 0 (cu_F u 2 n))) 2 (cu_N u 2 + 1), rfl, ⟨fun h9 => absurd (by simp [m_code, c_6, c_28, c_42, et9]) h9, fun _ => ⟨n, h_n, rfl, c_28, c_42, rfl, rfl⟩⟩, by rw [ht9]; exact hP, va_K.moved hW9.alike hK, hD⟩, hS.F ht9⟩) hS.2.2 dX6_drop_106
      · refine lv_iconst (v := 1) hx hb dX6_drop_45 (by decide) ?_
        refine lv_goto (tgt := 50) hx hb dX6_drop_46 (by decide) ?_
        refine lv_iconst (v := 0) hx hb dX6_drop_50 (by decide) ?_
        refine w_cali (w := wR a k) (va_runV (As := [.int 0, .int 1, .int 0]) (rest := []) ⟨hx, hb, hml, hown, hts⟩ (c_X6_throwing l dC dI a k u _ false true false) (cwV 3 hts (wG_V wG_c q_654 q_656 p_7 q_7 q_657) rfl rfl rfl (by decide +kernel) ⟨Nat.le_of_ble_eq_true rfl, Nat.le_of_ble_eq_true rfl⟩) (w_muV hK hP hD (ci := 6) (q0 := 0) rfl (wR_g0 a k _) rfl) rfl rfl hl.1 rfl (lv_room (Nat.le_of_ble_eq_true rfl)) dX6_drop_51 ⟨Nat.le_of_ble_eq_true rfl, Nat.le_of_ble_eq_true rfl⟩) hD hS hA (fun r_6 u_6 H locs hq_6 hP hD hS => ?_)
        obtain ⟨er9, eu9⟩ := hq_6
        subst er9 eu9
        refine wtopi (1) rfl ?_
        refine lv_if_eq (tgt := 59) hx hb dX6_drop_54 (by decide) (fun h9 => absurd h9 (by decide)) (fun _ => ?_)
        refine lv_iconst (v := 0) hx hb dX6_drop_57 (by decide) ?_
        exact W.iret (v := 0) hx hb hr (fun t9 ht9 hW9 => ⟨⟨_, cs_N u 4 (m_code false true false), rfl, ⟨fun _ => congrArg (cs_N u 4) (by simp [c_6, c_28, c_42, et9]), fun h9 => absurd h9 (by simp [m_code, c_6, c_28, c_42, et9])⟩, by rw [ht9]; exact hP, va_K.moved hW9.alike hK, hD⟩, hS.F ht9⟩) hS.2.2 dX6_drop_58
  · refine lv_iconst (v := 1) hx hb dX6_drop_9 (by decide) ?_
    refine lv_goto (tgt := 14) hx hb dX6_drop_10 (by decide) ?_
    refine lv_aload_n hx hb dX6_drop_14 rfl (lv_at hl 0 rfl) ?_
    refine lv_iload_n hx hb dX6_drop_15 rfl (lv_at hl 1 rfl) ?_
    refine vp_callSi (W.runV (As := [.int p0]) (rest := [.int 1, .ref (a 0)]) ⟨hx, hb, hml, hown, hts⟩ (c_X6_isSlot l dC dI a k u h20 p0) (cwV 1 hts (wG_V wG_c q_714 q_716 p_16 q_7 q_717) rfl rfl rfl (by decide +kernel) ⟨Nat.le_of_ble_eq_true rfl, Nat.le_of_ble_eq_true rfl⟩) (w_roV hK hP (ci := 6) (q0 := 0) rfl (wR_g0 a k _) rfl) rfl rfl hl.1 rfl (lv_room (Nat.le_of_ble_eq_true rfl)) dX6_drop_16 ⟨Nat.le_of_ble_eq_true rfl, Nat.le_of_ble_eq_true rfl⟩) (fun r_7 hr_7 => ?_)
    subst hr_7
    refine wtopi (0) (by rw [c_6]; rfl) ?_
    refine lv_if_eq (tgt := 49) hx hb dX6_drop_19 (by decide) (fun _ => ?_) (fun h9 => absurd h9 (by decide))
    refine lv_iconst (v := 0) hx hb dX6_drop_49 (by decide) ?_
    refine lv_iconst (v := 0) hx hb dX6_drop_50 (by decide) ?_
    refine w_cali (w := wR a k) (va_runV (As := [.int 1, .int 0, .int 0]) (rest := []) ⟨hx, hb, hml, hown, hts⟩ (c_X6_throwing l dC dI a k u _ true false false) (cwV 3 hts (wG_V wG_c q_654 q_656 p_7 q_7 q_657) rfl rfl rfl (by decide +kernel) ⟨Nat.le_of_ble_eq_true rfl, Nat.le_of_ble_eq_true rfl⟩) (w_muV hK hP hD (ci := 6) (q0 := 0) rfl (wR_g0 a k _) rfl) rfl rfl hl.1 rfl (lv_room (Nat.le_of_ble_eq_true rfl)) dX6_drop_51 ⟨Nat.le_of_ble_eq_true rfl, Nat.le_of_ble_eq_true rfl⟩) hD hS hA (fun r_8 u_8 H locs hq_8 hP hD hS => ?_)
    obtain ⟨er9, eu9⟩ := hq_8
    subst er9 eu9
    refine wtopi (1) rfl ?_
    refine lv_if_eq (tgt := 59) hx hb dX6_drop_54 (by decide) (fun h9 => absurd h9 (by decide)) (fun _ => ?_)
    refine lv_iconst (v := 0) hx hb dX6_drop_57 (by decide) ?_
    exact W.iret (v := 0) hx hb hr (fun t9 ht9 hW9 => ⟨⟨_, cs_N u 4 (m_code true false false), rfl, ⟨fun _ => congrArg (cs_N u 4) (by simp [c_6]), fun h9 => absurd h9 (by simp [m_code, c_6])⟩, by rw [ht9]; exact hP, va_K.moved hW9.alike hK, hD⟩, hS.F ht9⟩) hS.2.2 dX6_drop_58
set_option maxHeartbeats 4000000 in
set_option maxRecDepth 100000 in
theorem c_X6_certificate (l : Launch) (dC : Nat → ClassId) (dI : Nat → Nat → Nat) (a : Nat → Nat) (k : c_K) (u : c_St) (sz : Nat) (hC : cu_N u 2 ≤ 200) (hF : ∀ j, j < cu_N u 2 → cu_F u 6 j < 200) (p0 p1 : Int32) : Met l yX6_certificate wsX6_certificate ({ frames := 1, cells := 0, slots := 0, locals := 23 }) (va_Pc [.ref (a 0), .int p0, .int p1] (w_mu (dC, dI) vwCl (wR a k u) (tC k) sz)) (va_Qi (fun (r : Int32) (u1 : c_St) => u1 = cs_N u 4 (m_code (!isS (cu_N u 2) p0 || !inR p1 0 2) false false) ∧ (m_code (!isS (cu_N u 2) p0 || !inR p1 0 2) false false = 0 → ∃ c9 w9 : Nat, c9 < cu_N u 2 ∧ w9 ≤ 2 ∧ p0 = nI c9 ∧ p1 = nI w9 ∧ r = (if w9 = 0 then nI (cu_F u 6 c9) else if w9 = 1 then cu_G u 0 (cu_F u 6 c9) else cu_G u 1 c9))) (w_at (dC, dI) vwCl (wR a k) (tC k) (va_A (wR a k u) sz)) (va_A (wR a k u) sz)) 0 0 (va_A (wR a k u) sz) := by
  refine Met.ofW (cc := cX6_certificate) (maxL := 3) (ret := (some .int)) (by decide) rfl ?_
  intro p e s m args below meth c s₁ B hml hv
  obtain ⟨rfl, hsz, hP, hK, hD0⟩ := hv
  have hx := B.exec
  have hb := B.bytes
  have hr := B.returns
  have hts := atoms_spec (ws := wsX6_certificate) B.pre
  have htg : ∀ w ∈ wG, w.before _ s = true := fun w h => hts w (List.mem_cons_of_mem _ h)
  have hown : s.vm.findClass RX6 = some m.cls := findClass_of_methodNamed B.named
  have hlocks := B.notSynchronized
  subst hsz
  have hD := hD0.self (sz := s.heap.size)
  generalize hAe : va_A (wR a k u) s.heap.size = A at hD ⊢
  have hA : ∀ q : Nat, s.heap.size ≤ q → A q := fun q h => by rw [← hAe]; exact Or.inr h
  have hS : va_S A s.heap s.heap [] := va_S.rf
  have hl := lv_entry ([.ref (a 0), .int p0, .int p1]) (n := 3) (Nat.le_of_ble_eq_true rfl)
  rw [lg_entry_eq]
  generalize (lg_sl ([.ref (a 0), .int p0, .int p1]) ++ List.replicate (3 - (lg_sl ([.ref (a 0), .int p0, .int p1])).length) Slot.unset).toArray = ls at hl ⊢
  have hl : lv_has ls 3 [(0, .ref (a 0)), (1, .int p0), (2, .int p1)] := hl
  refine lv_aload_n hx hb dX6_certificate_0 rfl (lv_at hl 0 rfl) ?_
  refine lv_iload_n hx hb dX6_certificate_1 rfl (lv_at hl 1 rfl) ?_
  refine lv_iconst (v := 0) hx hb dX6_certificate_2 (by decide) ?_
  refine lv_aload_n hx hb dX6_certificate_3 rfl (lv_at hl 0 rfl) ?_
  refine va_get (D := (dC, dI)) (ci := 6) (v := .int (nI (cu_N u 2))) (C := RX6) (T := TX6) (N := 20) hx hb htg inX6 hown hK hP 0 (wR_g0 a k _) rfl 15 (by decide) (htg _ q_596) (fun _ h9 => h9) rfl dX6_certificate_4 ?_
  refine lv_iconst (v := 1) hx hb dX6_certificate_7 (by decide) ?_
  refine lv_isub hx hb dX6_certificate_8 ?_
  refine wtopi (y := iI ((cu_N u 2 : Int) - 1)) (show nI (cu_N u 2) - 1 = iI ((cu_N u 2 : Int) - 1) from by rw [nI_iI]; exact iI_sub _ 1) ?_
  refine vp_callSi (W.runS (As := [.int p0, .int 0, .int (iI ((cu_N u 2 : Int) - 1))]) (rest := [.ref (a 0)]) ⟨hx, hb, hml, hown, hts⟩ (c_X6_in l dC dI a k u p0 0 (iI ((cu_N u 2 : Int) - 1))) (cwS 3 hts (wG_S wG_c q_650 q_651 q_7 q_652) rfl rfl rfl (by decide +kernel) ⟨Nat.le_of_ble_eq_true rfl, Nat.le_of_ble_eq_true rfl⟩) (w_roS hK hP) rfl rfl hl.1 rfl (lv_room (Nat.le_of_ble_eq_true rfl)) dX6_certificate_9 ⟨Nat.le_of_ble_eq_true rfl, Nat.le_of_ble_eq_true rfl⟩) (fun r_1 hr_1 => ?_)
  subst hr_1
  refine wtopi (bI (isS (cu_N u 2) p0)) (congrArg bI (isS_eq (by omega) p0)) ?_
  refine bz_eq (a := (isS (cu_N u 2) p0)) (tgt := 24) hx hb dX6_certificate_12 (by decide) (fun c_12 => ?_) (fun c_12 => ?_)
  · refine lv_iconst (v := 1) hx hb dX6_certificate_24 (by decide) ?_
    refine lv_goto (tgt := 29) hx hb dX6_certificate_25 (by decide) ?_
    refine lv_iconst (v := 0) hx hb dX6_certificate_29 (by decide) ?_
    refine lv_iconst (v := 0) hx hb dX6_certificate_30 (by decide) ?_
    refine w_cali (w := wR a k) (va_runV (As := [.int 1, .int 0, .int 0]) (rest := []) ⟨hx, hb, hml, hown, hts⟩ (c_X6_throwing l dC dI a k u _ true false false) (cwV 3 hts (wG_V wG_c q_654 q_656 p_7 q_7 q_657) rfl rfl rfl (by decide +kernel) ⟨Nat.le_of_ble_eq_true rfl, Nat.le_of_ble_eq_true rfl⟩) (w_muV hK hP hD (ci := 6) (q0 := 0) rfl (wR_g0 a k _) rfl) rfl rfl hl.1 rfl (lv_room (Nat.le_of_ble_eq_true rfl)) dX6_certificate_31 ⟨Nat.le_of_ble_eq_true rfl, Nat.le_of_ble_eq_true rfl⟩) hD hS hA (fun r_2 u_2 H locs hq_2 hP hD hS => ?_)
    obtain ⟨er9, eu9⟩ := hq_2
    subst er9 eu9
    refine wtopi (1) rfl ?_
    refine lv_if_eq (tgt := 39) hx hb dX6_certificate_34 (by decide) (fun h9 => absurd h9 (by decide)) (fun _ => ?_)
    refine lv_iconst (v := 0) hx hb dX6_certificate_37 (by decide) ?_
    exact W.iret (v := 0) hx hb hr (fun t9 ht9 hW9 => ⟨⟨_, cs_N u 4 (m_code true false false), rfl, ⟨congrArg (cs_N u 4) (by simp [c_12]), fun h9 => absurd h9 (by simp [m_code, c_12])⟩, by rw [ht9]; exact hP, va_K.moved hW9.alike hK, hD⟩, hS.F ht9⟩) hS.2.2 dX6_certificate_38
  · refine lv_iload_n hx hb dX6_certificate_15 rfl (lv_at hl 2 rfl) ?_
    refine lv_iconst (v := 0) hx hb dX6_certificate_16 (by decide) ?_
    refine lv_iconst (v := 2) hx hb dX6_certificate_17 (by decide) ?_
    refine vp_callSi (W.runS (As := [.int p1, .int 0, .int 2]) (rest := [.ref (a 0)]) ⟨hx, hb, hml, hown, hts⟩ (c_X6_in l dC dI a k u p1 0 2) (cwS 3 hts (wG_S wG_c q_650 q_651 q_7 q_652) rfl rfl rfl (by decide +kernel) ⟨Nat.le_of_ble_eq_true rfl, Nat.le_of_ble_eq_true rfl⟩) (w_roS hK hP) rfl rfl hl.1 rfl (lv_room (Nat.le_of_ble_eq_true rfl)) dX6_certificate_18 ⟨Nat.le_of_ble_eq_true rfl, Nat.le_of_ble_eq_true rfl⟩) (fun r_3 hr_3 => ?_)
    subst hr_3
    refine bz_ne (a := (inR p1 0 2)) (tgt := 28) hx hb dX6_certificate_21 (by decide) (fun c_21 => ?_) (fun c_21 => ?_)
    · refine lv_iconst (v := 0) hx hb dX6_certificate_28 (by decide) ?_
      refine lv_iconst (v := 0) hx hb dX6_certificate_29 (by decide) ?_
      refine lv_iconst (v := 0) hx hb dX6_certificate_30 (by decide) ?_
      refine w_cali (w := wR a k) (va_runV (As := [.int 0, .int 0, .int 0]) (rest := []) ⟨hx, hb, hml, hown, hts⟩ (c_X6_throwing l dC dI a k u _ false false false) (cwV 3 hts (wG_V wG_c q_654 q_656 p_7 q_7 q_657) rfl rfl rfl (by decide +kernel) ⟨Nat.le_of_ble_eq_true rfl, Nat.le_of_ble_eq_true rfl⟩) (w_muV hK hP hD (ci := 6) (q0 := 0) rfl (wR_g0 a k _) rfl) rfl rfl hl.1 rfl (lv_room (Nat.le_of_ble_eq_true rfl)) dX6_certificate_31 ⟨Nat.le_of_ble_eq_true rfl, Nat.le_of_ble_eq_true rfl⟩) hD hS hA (fun r_4 u_4 H locs hq_4 hP hD hS => ?_)
      obtain ⟨er9, eu9⟩ := hq_4
      subst er9 eu9
      refine wtopi (0) rfl ?_
      refine lv_if_eq (tgt := 39) hx hb dX6_certificate_34 (by decide) (fun _ => ?_) (fun h9 => absurd h9 (by decide))
      obtain ⟨c9, h_c9, e_c9⟩ := isS_of (n := (cu_N u 2)) (by omega) c_12
      subst e_c9
      obtain ⟨w9, l_w9, h_w9, e_w9⟩ := inR_nat (l9 := 0) (h9 := 2) c_21 rfl rfl (by decide)
      subst e_w9
      have hFc := hF c9 h_c9
      refine lv_iload_n hx hb dX6_certificate_39 rfl (lv_at hl 2 rfl) ?_
      refine iz_ne (a := ((w9 : Nat) : Int)) (tgt := 52) hx hb (by omega) (by omega) (nI_iI _) dX6_certificate_40 (by decide) (fun c_40 => ?_) (fun c_40 => ?_)
      · have c_40 : w9 ≠ 0 := by omega
        refine lv_iload_n hx hb dX6_certificate_52 rfl (lv_at hl 2 rfl) ?_
        refine lv_iconst (v := 1) hx hb dX6_certificate_53 (by decide) ?_
        refine nb_ne (a := w9) (b := 1) (tgt := 71) hx hb (by omega) (by omega) rfl rfl dX6_certificate_54 (by decide) (fun c_54 => ?_) (fun c_54 => ?_)
        · refine lv_aload_n hx hb dX6_certificate_71 rfl (lv_at hl 0 rfl) ?_
          refine va_get (D := (dC, dI)) (ci := 6) (v := .ref (a 13)) (C := RX6) (T := TX6) (N := 20) hx hb htg inX6 hown hK hP 0 (wR_g0 a k _) rfl 17 (by decide) (htg _ q_598) (fun _ h9 => h9) rfl dX6_certificate_72 ?_
          refine lv_iload_n hx hb dX6_certificate_75 rfl (lv_at hl 1 rfl) ?_
          refine va_iald hx hb hK hP 13 0 (wR_g13 a k _) rfl (vp_in_nI (n := c9) (N := 200) (show c9 < 200 by omega) (by decide)) dX6_certificate_76 ?_
          refine wtopi (cu_G (cs_N u 4 (m_code false false false)) 1 c9) (congrArg (fun j9 => cu_G (cs_N u 4 (m_code false false false)) 1 j9) (nI_clamp (n := c9) (Nat.lt_trans (m := 200) (show c9 < 200 by omega) (by decide)))) ?_
          exact W.iret (v := cu_G (cs_N u 4 (m_code false false false)) 1 c9) hx hb hr (fun t9 ht9 hW9 => ⟨⟨_, cs_N u 4 (m_code false false false), rfl, ⟨congrArg (cs_N u 4) (by simp [c_12, c_21]), fun _ => ⟨c9, w9, h_c9, h_w9, rfl, rfl, (by rw [if_neg c_40, if_neg c_54]; rfl)⟩⟩, by rw [ht9]; exact hP, va_K.moved hW9.alike hK, hD⟩, hS.F ht9⟩) hS.2.2 dX6_certificate_77
        · refine lv_aload_n hx hb dX6_certificate_57 rfl (lv_at hl 0 rfl) ?_
          refine va_get (D := (dC, dI)) (ci := 6) (v := .ref (a 12)) (C := RX6) (T := TX6) (N := 20) hx hb htg inX6 hown hK hP 0 (wR_g0 a k _) rfl 8 (by decide) (htg _ q_589) (fun _ h9 => h9) rfl dX6_certificate_58 ?_
          refine lv_aload_n hx hb dX6_certificate_61 rfl (lv_at hl 0 rfl) ?_
          refine va_get (D := (dC, dI)) (ci := 6) (v := .ref (a 7)) (C := RX6) (T := TX6) (N := 20) hx hb htg inX6 hown hK hP 0 (wR_g0 a k _) rfl 16 (by decide) (htg _ q_597) (fun _ h9 => h9) rfl dX6_certificate_62 ?_
          refine lv_iload_n hx hb dX6_certificate_65 rfl (lv_at hl 1 rfl) ?_
          refine va_iald hx hb hK hP 7 0 (wR_g7 a k _) rfl (vp_in_nI (n := c9) (N := 200) (show c9 < 200 by omega) (by decide)) dX6_certificate_66 ?_
          refine wtopi (nI (cu_F (cs_N u 4 (m_code false false false)) 6 c9)) (congrArg (fun j9 => nI (cu_F (cs_N u 4 (m_code false false false)) 6 j9)) (nI_clamp (n := c9) (Nat.lt_trans (m := 200) (show c9 < 200 by omega) (by decide)))) ?_
          refine va_iald hx hb hK hP 12 0 (wR_g12 a k _) rfl (vp_in_nI (n := (cu_F (cs_N u 4 (m_code false false false)) 6 c9)) (N := 200) hFc (by decide)) dX6_certificate_67 ?_
          refine wtopi (cu_G (cs_N u 4 (m_code false false false)) 0 (cu_F (cs_N u 4 (m_code false false false)) 6 c9)) (congrArg (fun j9 => cu_G (cs_N u 4 (m_code false false false)) 0 j9) (nI_clamp (n := (cu_F (cs_N u 4 (m_code false false false)) 6 c9)) (Nat.lt_trans (m := 200) hFc (by decide)))) ?_
          refine lv_goto (tgt := 77) hx hb dX6_certificate_68 (by decide) ?_
          exact W.iret (v := cu_G (cs_N u 4 (m_code false false false)) 0 (cu_F (cs_N u 4 (m_code false false false)) 6 c9)) hx hb hr (fun t9 ht9 hW9 => ⟨⟨_, cs_N u 4 (m_code false false false), rfl, ⟨congrArg (cs_N u 4) (by simp [c_12, c_21]), fun _ => ⟨c9, w9, h_c9, h_w9, rfl, rfl, (by rw [if_neg c_40, if_pos c_54]; rfl)⟩⟩, by rw [ht9]; exact hP, va_K.moved hW9.alike hK, hD⟩, hS.F ht9⟩) hS.2.2 dX6_certificate_77
      · have c_40 : w9 = 0 := by omega
        refine lv_aload_n hx hb dX6_certificate_43 rfl (lv_at hl 0 rfl) ?_
        refine va_get (D := (dC, dI)) (ci := 6) (v := .ref (a 7)) (C := RX6) (T := TX6) (N := 20) hx hb htg inX6 hown hK hP 0 (wR_g0 a k _) rfl 16 (by decide) (htg _ q_597) (fun _ h9 => h9) rfl dX6_certificate_44 ?_
        refine lv_iload_n hx hb dX6_certificate_47 rfl (lv_at hl 1 rfl) ?_
        refine va_iald hx hb hK hP 7 0 (wR_g7 a k _) rfl (vp_in_nI (n := c9) (N := 200) (show c9 < 200 by omega) (by decide)) dX6_certificate_48 ?_
        refine wtopi (nI (cu_F (cs_N u 4 (m_code false false false)) 6 c9)) (congrArg (fun j9 => nI (cu_F (cs_N u 4 (m_code false false false)) 6 j9)) (nI_clamp (n := c9) (Nat.lt_trans (m := 200) (show c9 < 200 by omega) (by decide)))) ?_
        refine lv_goto (tgt := 77) hx hb dX6_certificate_49 (by decide) ?_
        exact W.iret (v := nI (cu_F (cs_N u 4 (m_code false false false)) 6 c9)) hx hb hr (fun t9 ht9 hW9 => ⟨⟨_, cs_N u 4 (m_code false false false), rfl, ⟨congrArg (cs_N u 4) (by simp [c_12, c_21]), fun _ => ⟨c9, w9, h_c9, h_w9, rfl, rfl, (by rw [if_pos c_40]; rfl)⟩⟩, by rw [ht9]; exact hP, va_K.moved hW9.alike hK, hD⟩, hS.F ht9⟩) hS.2.2 dX6_certificate_77
    · refine lv_iconst (v := 1) hx hb dX6_certificate_24 (by decide) ?_
      refine lv_goto (tgt := 29) hx hb dX6_certificate_25 (by decide) ?_
      refine lv_iconst (v := 0) hx hb dX6_certificate_29 (by decide) ?_
      refine lv_iconst (v := 0) hx hb dX6_certificate_30 (by decide) ?_
      refine w_cali (w := wR a k) (va_runV (As := [.int 1, .int 0, .int 0]) (rest := []) ⟨hx, hb, hml, hown, hts⟩ (c_X6_throwing l dC dI a k u _ true false false) (cwV 3 hts (wG_V wG_c q_654 q_656 p_7 q_7 q_657) rfl rfl rfl (by decide +kernel) ⟨Nat.le_of_ble_eq_true rfl, Nat.le_of_ble_eq_true rfl⟩) (w_muV hK hP hD (ci := 6) (q0 := 0) rfl (wR_g0 a k _) rfl) rfl rfl hl.1 rfl (lv_room (Nat.le_of_ble_eq_true rfl)) dX6_certificate_31 ⟨Nat.le_of_ble_eq_true rfl, Nat.le_of_ble_eq_true rfl⟩) hD hS hA (fun r_5 u_5 H locs hq_5 hP hD hS => ?_)
      obtain ⟨er9, eu9⟩ := hq_5
      subst er9 eu9
      refine wtopi (1) rfl ?_
      refine lv_if_eq (tgt := 39) hx hb dX6_certificate_34 (by decide) (fun h9 => absurd h9 (by decide)) (fun _ => ?_)
      refine lv_iconst (v := 0) hx hb dX6_certificate_37 (by decide) ?_
      exact W.iret (v := 0) hx hb hr (fun t9 ht9 hW9 => ⟨⟨_, cs_N u 4 (m_code true false false), rfl, ⟨congrArg (cs_N u 4) (by simp [c_12, c_21]), fun h9 => absurd h9 (by simp [m_code, c_12, c_21])⟩, by rw [ht9]; exact hP, va_K.moved hW9.alike hK, hD⟩, hS.F ht9⟩) hS.2.2 dX6_certificate_38
set_option maxHeartbeats 4000000 in
set_option maxRecDepth 100000 in
theorem c_X6_right (l : Launch) (dC : Nat → ClassId) (dI : Nat → Nat → Nat) (a : Nat → Nat) (k : c_K) (u : c_St) (sz : Nat) (p0 p1 : Int32) (on : Bool) : Met l yX6_right wsX6_right ({ frames := 1, cells := 0, slots := 0, locals := 23 }) (va_Pc [.ref (a 0), .int p0, .int p1, .int (bI on)] (w_mu (dC, dI) vwCl (wR a k u) (tC k) sz)) (va_Qv (fun (u1 : c_St) => (m_code (!inR p0 0 19 || !inR p1 0 49) false false ≠ 0 → u1 = cs_N u 4 (m_code (!inR p0 0 19 || !inR p1 0 49) false false)) ∧ (m_code (!inR p0 0 19 || !inR p1 0 49) false false = 0 → ∃ ps ic : Nat, p0 = nI ps ∧ p1 = nI ic ∧ ps ≤ 19 ∧ ic ≤ 49 ∧ u1 = cs_B (cs_N u 4 0) 2 (50 * ps + ic) on)) (w_at (dC, dI) vwCl (wR a k) (tC k) (va_A (wR a k u) sz)) (va_A (wR a k u) sz)) 0 0 (va_A (wR a k u) sz) := by
  refine Met.ofW (cc := cX6_right) (maxL := 4) (ret := none) (by decide) rfl ?_
  intro p e s m args below meth c s₁ B hml hv
  obtain ⟨rfl, hsz, hP, hK, hD0⟩ := hv
  have hx := B.exec
  have hb := B.bytes
  have hr := B.returns
  have hts := atoms_spec (ws := wsX6_right) B.pre
  have htg : ∀ w ∈ wG, w.before _ s = true := fun w h => hts w (List.mem_cons_of_mem _ h)
  have hown : s.vm.findClass RX6 = some m.cls := findClass_of_methodNamed B.named
  have hlocks := B.notSynchronized
  subst hsz
  have hD := hD0.self (sz := s.heap.size)
  generalize hAe : va_A (wR a k u) s.heap.size = A at hD ⊢
  have hA : ∀ q : Nat, s.heap.size ≤ q → A q := fun q h => by rw [← hAe]; exact Or.inr h
  have hS : va_S A s.heap s.heap [] := va_S.rf
  have hl := lv_entry ([.ref (a 0), .int p0, .int p1, .int (bI on)]) (n := 4) (Nat.le_of_ble_eq_true rfl)
  rw [lg_entry_eq]
  generalize (lg_sl ([.ref (a 0), .int p0, .int p1, .int (bI on)]) ++ List.replicate (4 - (lg_sl ([.ref (a 0), .int p0, .int p1, .int (bI on)])).length) Slot.unset).toArray = ls at hl ⊢
  have hl : lv_has ls 4 [(0, .ref (a 0)), (1, .int p0), (2, .int p1), (3, .int (bI on))] := hl
  refine lv_aload_n hx hb dX6_right_0 rfl (lv_at hl 0 rfl) ?_
  refine lv_iload_n hx hb dX6_right_1 rfl (lv_at hl 1 rfl) ?_
  refine lv_iconst (v := 0) hx hb dX6_right_2 (by decide) ?_
  refine lv_bipush (v := 19) hx hb dX6_right_3 (by decide) ?_
  refine vp_callSi (W.runS (As := [.int p0, .int 0, .int 19]) (rest := [.ref (a 0)]) ⟨hx, hb, hml, hown, hts⟩ (c_X6_in l dC dI a k u p0 0 19) (cwS 3 hts (wG_S wG_c q_650 q_651 q_7 q_652) rfl rfl rfl (by decide +kernel) ⟨Nat.le_of_ble_eq_true rfl, Nat.le_of_ble_eq_true rfl⟩) (w_roS hK hP) rfl rfl hl.1 rfl (lv_room (Nat.le_of_ble_eq_true rfl)) dX6_right_5 ⟨Nat.le_of_ble_eq_true rfl, Nat.le_of_ble_eq_true rfl⟩) (fun r_1 hr_1 => ?_)
  subst hr_1
  refine bz_eq (a := (inR p0 0 19)) (tgt := 21) hx hb dX6_right_8 (by decide) (fun c_8 => ?_) (fun c_8 => ?_)
  · refine lv_iconst (v := 1) hx hb dX6_right_21 (by decide) ?_
    refine lv_goto (tgt := 26) hx hb dX6_right_22 (by decide) ?_
    refine lv_iconst (v := 0) hx hb dX6_right_26 (by decide) ?_
    refine lv_iconst (v := 0) hx hb dX6_right_27 (by decide) ?_
    refine w_cali (w := wR a k) (va_runV (As := [.int 1, .int 0, .int 0]) (rest := []) ⟨hx, hb, hml, hown, hts⟩ (c_X6_throwing l dC dI a k u _ true false false) (cwV 3 hts (wG_V wG_c q_654 q_656 p_7 q_7 q_657) rfl rfl rfl (by decide +kernel) ⟨Nat.le_of_ble_eq_true rfl, Nat.le_of_ble_eq_true rfl⟩) (w_muV hK hP hD (ci := 6) (q0 := 0) rfl (wR_g0 a k _) rfl) rfl rfl hl.1 rfl (lv_room (Nat.le_of_ble_eq_true rfl)) dX6_right_28 ⟨Nat.le_of_ble_eq_true rfl, Nat.le_of_ble_eq_true rfl⟩) hD hS hA (fun r_2 u_2 H locs hq_2 hP hD hS => ?_)
    obtain ⟨er9, eu9⟩ := hq_2
    subst er9 eu9
    refine wtopi (1) rfl ?_
    refine lv_if_eq (tgt := 35) hx hb dX6_right_31 (by decide) (fun h9 => absurd h9 (by decide)) (fun _ => ?_)
    exact W.vret hx hb hr (fun t9 ht9 hW9 => ⟨⟨cs_N u 4 (m_code true false false), rfl, ⟨fun _ => congrArg (cs_N u 4) (by simp [c_8]), fun h9 => absurd h9 (by simp [m_code, c_8])⟩, by rw [ht9]; exact hP, va_K.moved hW9.alike hK, hD⟩, hS.F ht9⟩) hS.2.2 dX6_right_34
  · refine lv_iload_n hx hb dX6_right_11 rfl (lv_at hl 2 rfl) ?_
    refine lv_iconst (v := 0) hx hb dX6_right_12 (by decide) ?_
    refine lv_bipush (v := 49) hx hb dX6_right_13 (by decide) ?_
    refine vp_callSi (W.runS (As := [.int p1, .int 0, .int 49]) (rest := [.ref (a 0)]) ⟨hx, hb, hml, hown, hts⟩ (c_X6_in l dC dI a k u p1 0 49) (cwS 3 hts (wG_S wG_c q_650 q_651 q_7 q_652) rfl rfl rfl (by decide +kernel) ⟨Nat.le_of_ble_eq_true rfl, Nat.le_of_ble_eq_true rfl⟩) (w_roS hK hP) rfl rfl hl.1 rfl (lv_room (Nat.le_of_ble_eq_true rfl)) dX6_right_15 ⟨Nat.le_of_ble_eq_true rfl, Nat.le_of_ble_eq_true rfl⟩) (fun r_3 hr_3 => ?_)
    subst hr_3
    refine bz_ne (a := (inR p1 0 49)) (tgt := 25) hx hb dX6_right_18 (by decide) (fun c_18 => ?_) (fun c_18 => ?_)
    · refine lv_iconst (v := 0) hx hb dX6_right_25 (by decide) ?_
      refine lv_iconst (v := 0) hx hb dX6_right_26 (by decide) ?_
      refine lv_iconst (v := 0) hx hb dX6_right_27 (by decide) ?_
      refine w_cali (w := wR a k) (va_runV (As := [.int 0, .int 0, .int 0]) (rest := []) ⟨hx, hb, hml, hown, hts⟩ (c_X6_throwing l dC dI a k u _ false false false) (cwV 3 hts (wG_V wG_c q_654 q_656 p_7 q_7 q_657) rfl rfl rfl (by decide +kernel) ⟨Nat.le_of_ble_eq_true rfl, Nat.le_of_ble_eq_true rfl⟩) (w_muV hK hP hD (ci := 6) (q0 := 0) rfl (wR_g0 a k _) rfl) rfl rfl hl.1 rfl (lv_room (Nat.le_of_ble_eq_true rfl)) dX6_right_28 ⟨Nat.le_of_ble_eq_true rfl, Nat.le_of_ble_eq_true rfl⟩) hD hS hA (fun r_4 u_4 H locs hq_4 hP hD hS => ?_)
      obtain ⟨er9, eu9⟩ := hq_4
      subst er9 eu9
      refine wtopi (0) rfl ?_
      refine lv_if_eq (tgt := 35) hx hb dX6_right_31 (by decide) (fun _ => ?_) (fun h9 => absurd h9 (by decide))
      obtain ⟨ps, l_ps, h_ps, e_ps⟩ := inR_nat (l9 := 0) (h9 := 19) c_8 rfl rfl (by decide)
      subst e_ps
      obtain ⟨ic, l_ic, h_ic, e_ic⟩ := inR_nat (l9 := 0) (h9 := 49) c_18 rfl rfl (by decide)
      subst e_ic
      refine lv_aload_n hx hb dX6_right_35 rfl (lv_at hl 0 rfl) ?_
      refine va_get (D := (dC, dI)) (ci := 6) (v := .ref (a 11)) (C := RX6) (T := TX6) (N := 20) hx hb htg inX6 hown hK hP 0 (wR_g0 a k _) rfl 14 (by decide) (htg _ q_595) (fun _ h9 => h9) rfl dX6_right_36 ?_
      refine lv_bipush (v := 50) hx hb dX6_right_39 (by decide) ?_
      refine lv_iload_n hx hb dX6_right_41 rfl (lv_at hl 1 rfl) ?_
      refine lv_imul hx hb dX6_right_42 ?_
      refine wtopi (y := nI (50 * ps)) (pk_mul 50 ps) ?_
      refine lv_iload_n hx hb dX6_right_43 rfl (lv_at hl 2 rfl) ?_
      refine lv_iadd hx hb dX6_right_44 ?_
      refine wtopi (y := nI (50 * ps + ic)) (nI_add _ _) ?_
      refine lv_iload_n hx hb dX6_right_45 rfl (lv_at hl 3 rfl) ?_
      refine va_zast hx hb hK hP hD hS 11 2 (wR_g11 a k _) rfl (vp_in_nI (n := (50 * ps + ic)) (N := 1000) (show 50 * ps + ic < 1000 by omega) (by decide)) dX6_right_46 (fun H locs hP hD hS => ?_)
      have hP := w_pE (wR_s11 a k _ (50 * ps + ic) on (Nat.lt_trans (m := 1000) (show 50 * ps + ic < 1000 by omega) (by decide))) hP
      have hD := w_dE (wR_s11 a k _ (50 * ps + ic) on (Nat.lt_trans (m := 1000) (show 50 * ps + ic < 1000 by omega) (by decide))) hD
      exact W.vret hx hb hr (fun t9 ht9 hW9 => ⟨⟨cs_B (cs_N u 4 (m_code false false false)) 2 (50 * ps + ic) on, rfl, ⟨fun h9 => absurd (by simp [m_code, c_8, c_18]) h9, fun _ => ⟨ps, ic, rfl, rfl, h_ps, h_ic, rfl⟩⟩, by rw [ht9]; exact hP, va_K.moved hW9.alike hK, hD⟩, hS.F ht9⟩) hS.2.2 dX6_right_47
    · refine lv_iconst (v := 1) hx hb dX6_right_21 (by decide) ?_
      refine lv_goto (tgt := 26) hx hb dX6_right_22 (by decide) ?_
      refine lv_iconst (v := 0) hx hb dX6_right_26 (by decide) ?_
      refine lv_iconst (v := 0) hx hb dX6_right_27 (by decide) ?_
      refine w_cali (w := wR a k) (va_runV (As := [.int 1, .int 0, .int 0]) (rest := []) ⟨hx, hb, hml, hown, hts⟩ (c_X6_throwing l dC dI a k u _ true false false) (cwV 3 hts (wG_V wG_c q_654 q_656 p_7 q_7 q_657) rfl rfl rfl (by decide +kernel) ⟨Nat.le_of_ble_eq_true rfl, Nat.le_of_ble_eq_true rfl⟩) (w_muV hK hP hD (ci := 6) (q0 := 0) rfl (wR_g0 a k _) rfl) rfl rfl hl.1 rfl (lv_room (Nat.le_of_ble_eq_true rfl)) dX6_right_28 ⟨Nat.le_of_ble_eq_true rfl, Nat.le_of_ble_eq_true rfl⟩) hD hS hA (fun r_5 u_5 H locs hq_5 hP hD hS => ?_)
      obtain ⟨er9, eu9⟩ := hq_5
      subst er9 eu9
      refine wtopi (1) rfl ?_
      refine lv_if_eq (tgt := 35) hx hb dX6_right_31 (by decide) (fun h9 => absurd h9 (by decide)) (fun _ => ?_)
      exact W.vret hx hb hr (fun t9 ht9 hW9 => ⟨⟨cs_N u 4 (m_code true false false), rfl, ⟨fun _ => congrArg (cs_N u 4) (by simp [c_8, c_18]), fun h9 => absurd h9 (by simp [m_code, c_8, c_18])⟩, by rw [ht9]; exact hP, va_K.moved hW9.alike hK, hD⟩, hS.F ht9⟩) hS.2.2 dX6_right_34
set_option maxHeartbeats 4000000 in
set_option maxRecDepth 100000 in
theorem c_X6_verify (l : Launch) (dC : Nat → ClassId) (dI : Nat → Nat → Nat) (a : Nat → Nat) (k : c_K) (u : c_St) (sz : Nat) (h : m_ok u) : Met l yX6_verify wsX6_verify ({ frames := 2, cells := 0, slots := 0, locals := 45 }) (va_Pc [.ref (a 0)] (w_mu (dC, dI) vwCl (wR a k u) (tC k) sz)) (va_Qi (fun (r : Int32) (u1 : c_St) => u1 = cs_N u 4 0 ∧ r = iI (m_vf u1 (cu_N u1 0))) (w_at (dC, dI) vwCl (wR a k) (tC k) (va_A (wR a k u) sz)) (va_A (wR a k u) sz)) 0 0 (va_A (wR a k u) sz) := by
  refine Met.ofW (cc := cX6_verify) (maxL := 2) (ret := (some .int)) (by decide) rfl ?_
  intro p e s m args below meth c s₁ B hml hv
  obtain ⟨rfl, hsz, hP, hK, hD0⟩ := hv
  have hx := B.exec
  have hb := B.bytes
  have hr := B.returns
  have hts := atoms_spec (ws := wsX6_verify) B.pre
  have htg : ∀ w ∈ wG, w.before _ s = true := fun w h => hts w (List.mem_cons_of_mem _ h)
  have hown : s.vm.findClass RX6 = some m.cls := findClass_of_methodNamed B.named
  have hlocks := B.notSynchronized
  subst hsz
  have hD := hD0.self (sz := s.heap.size)
  generalize hAe : va_A (wR a k u) s.heap.size = A at hD ⊢
  have hA : ∀ q : Nat, s.heap.size ≤ q → A q := fun q h => by rw [← hAe]; exact Or.inr h
  have hS : va_S A s.heap s.heap [] := va_S.rf
  have hl := lv_entry ([.ref (a 0)]) (n := 2) (Nat.le_of_ble_eq_true rfl)
  rw [lg_entry_eq]
  generalize (lg_sl ([.ref (a 0)]) ++ List.replicate (2 - (lg_sl ([.ref (a 0)])).length) Slot.unset).toArray = ls at hl ⊢
  have hl : lv_has ls 2 [(0, .ref (a 0))] := hl
  refine lv_aload_n hx hb dX6_verify_0 rfl (lv_at hl 0 rfl) ?_
  refine lv_iconst (v := 0) hx hb dX6_verify_1 (by decide) ?_
  refine va_put (D := (dC, dI)) (ci := 6) (v := .int 0) (ty := .int) (C := RX6) (T := TX6) (N := 20) hx hb htg inX6 tyX6 tyX6_ok nmX6 hown hK hP hD hS 0 (wR_g0 a k _) rfl 0 (by decide) (htg _ q_581) (fun _ h9 => h9) rfl (by decide +kernel) rfl rfl (Nat.le_of_ble_eq_true rfl) dX6_verify_2 (fun H locs hP hD hS => ?_)
  have hP := w_pE (wR_n4 a k _ 0) hP
  have hD := w_dE (wR_n4 a k _ 0) hD
  obtain ⟨v, ev⟩ : ∃ v, v = cs_N u 4 0 := ⟨_, rfl⟩
  rw [← ev] at hP hD
  have hv : m_ok v := by rw [ev]; exact h
  have hv0 := hv.1
  refine lv_iconst (v := 0) hx hb dX6_verify_5 (by decide) ?_
  refine lv_istore_n (lv' := [(1, .int 0), (0, .ref (a 0))]) hx hb dX6_verify_6 rfl hl (by decide) rfl (fun ls hl => ?_)
  refine w_loop (fun j : Nat => cu_N v 0 - j) (fun j ls => (j ≤ cu_N v 0 ∧ m_vf v j = -1) ∧ lv_has ls 2 [(0, .ref (a 0)), (1, .int (nI j))]) ?_ (0) ls ⟨⟨Nat.zero_le _, rfl⟩, lv_sub hl [1, 0] rfl⟩
  clear hl
  intro j ls hI ih
  obtain ⟨hI, hl⟩ := hI
  refine lv_iload_n hx hb dX6_verify_7 rfl (lv_at hl 1 rfl) ?_
  refine lv_aload_n hx hb dX6_verify_8 rfl (lv_at hl 0 rfl) ?_
  refine va_get (D := (dC, dI)) (ci := 6) (v := .int (nI (cu_N v 0))) (C := RX6) (T := TX6) (N := 20) hx hb htg inX6 hown hK hP 0 (wR_g0 a k _) rfl 1 (by decide) (htg _ q_582) (fun _ h9 => h9) rfl dX6_verify_9 ?_
  refine nb_ge (a := j) (b := (cu_N v 0)) (tgt := 46) hx hb (by omega) (by omega) rfl rfl dX6_verify_12 (by decide) (fun c_12 => ?_) (fun c_12 => ?_)
  · refine lv_iconst (v := (-1)) hx hb dX6_verify_46 (by decide) ?_
    exact W.iret (v := (-1)) hx hb hr (fun t9 ht9 hW9 => ⟨⟨_, v, rfl, ⟨ev, by rw [show cu_N v 0 = j by omega, hI.2]; rfl⟩, by rw [ht9]; exact hP, va_K.moved hW9.alike hK, hD⟩, hS.F ht9⟩) hS.2.2 dX6_verify_47
  · refine lv_aload_n hx hb dX6_verify_15 rfl (lv_at hl 0 rfl) ?_
    refine va_get (D := (dC, dI)) (ci := 6) (v := .ref (a 9)) (C := RX6) (T := TX6) (N := 20) hx hb htg inX6 hown hK hP 0 (wR_g0 a k _) rfl 9 (by decide) (htg _ q_590) (fun _ h9 => h9) rfl dX6_verify_16 ?_
    refine lv_iload_n hx hb dX6_verify_19 rfl (lv_at hl 1 rfl) ?_
    refine va_zald hx hb hK hP 9 2 (wR_g9 a k _) rfl (vp_in_nI (n := j) (N := 200) (by omega) (by decide)) dX6_verify_20 ?_
    refine wtopi (bI (cu_B v 0 j)) (congrArg (fun j9 => bI (cu_B v 0 j9)) (nI_clamp (n := j) (Nat.lt_trans (m := 200) (by omega) (by decide)))) ?_
    refine bz_ne (a := (cu_B v 0 j)) (tgt := 40) hx hb dX6_verify_21 (by decide) (fun c_21 => ?_) (fun c_21 => ?_)
    · refine lv_iinc (v := nI (j + 1)) (lv' := [(1, .int (nI (j + 1))), (0, .ref (a 0))]) hx hb dX6_verify_40 hl (k := 1) rfl (nI_1 j) (by decide) rfl (fun ls hl => ?_)
      refine lv_goto (tgt := 7) hx hb dX6_verify_43 (by decide) ?_
      exact ih (j + 1) ls (by omega) ⟨⟨by omega, m_vf_n hI.2 (fun z => by rw [c_21] at z; cases z.1)⟩, lv_sub hl [1, 0] rfl⟩
    · refine lv_aload_n hx hb dX6_verify_24 rfl (lv_at hl 0 rfl) ?_
      refine lv_iload_n hx hb dX6_verify_25 rfl (lv_at hl 1 rfl) ?_
      refine vp_callSi (W.runV (As := [.int (nI j)]) (rest := []) ⟨hx, hb, hml, hown, hts⟩ (c_X6_sumOf l dC dI a k v j (by omega) (hv.2.2.1 j (by omega)).2.2.2.1) (cwV 1 hts (wG_V wG_c q_658 q_660 p_8 q_7 q_661) rfl rfl rfl (by decide +kernel) ⟨Nat.le_of_ble_eq_true rfl, Nat.le_of_ble_eq_true rfl⟩) (w_roV hK hP (ci := 6) (q0 := 0) rfl (wR_g0 a k _) rfl) rfl rfl hl.1 rfl (lv_room (Nat.le_of_ble_eq_true rfl)) dX6_verify_26 ⟨Nat.le_of_ble_eq_true rfl, Nat.le_of_ble_eq_true rfl⟩) (fun r_1 hr_1 => ?_)
      subst hr_1
      refine lv_aload_n hx hb dX6_verify_29 rfl (lv_at hl 0 rfl) ?_
      refine va_get (D := (dC, dI)) (ci := 6) (v := .ref (a 12)) (C := RX6) (T := TX6) (N := 20) hx hb htg inX6 hown hK hP 0 (wR_g0 a k _) rfl 8 (by decide) (htg _ q_589) (fun _ h9 => h9) rfl dX6_verify_30 ?_
      refine lv_iload_n hx hb dX6_verify_33 rfl (lv_at hl 1 rfl) ?_
      refine va_iald hx hb hK hP 12 0 (wR_g12 a k _) rfl (vp_in_nI (n := j) (N := 200) (by omega) (by decide)) dX6_verify_34 ?_
      refine wtopi (cu_G v 0 j) (congrArg (fun j9 => cu_G v 0 j9) (nI_clamp (n := j) (Nat.lt_trans (m := 200) (by omega) (by decide)))) ?_
      refine lv_icmp_eq (tgt := 40) hx hb dX6_verify_35 (by decide) (fun c_35 => ?_) (fun c_35 => ?_)
      · refine lv_iinc (v := nI (j + 1)) (lv' := [(1, .int (nI (j + 1))), (0, .ref (a 0))]) hx hb dX6_verify_40 hl (k := 1) rfl (nI_1 j) (by decide) rfl (fun ls hl => ?_)
        refine lv_goto (tgt := 7) hx hb dX6_verify_43 (by decide) ?_
        exact ih (j + 1) ls (by omega) ⟨⟨by omega, m_vf_n hI.2 (fun z => z.2 c_35)⟩, lv_sub hl [1, 0] rfl⟩
      · refine lv_iload_n hx hb dX6_verify_38 rfl (lv_at hl 1 rfl) ?_
        exact W.iret (v := nI j) hx hb hr (fun t9 ht9 hW9 => ⟨⟨_, v, rfl, ⟨ev, by rw [nI_iI, ← m_vf_y hI.2 ⟨c_21, c_35⟩ (cu_N v 0 - j - 1), show j + 1 + (cu_N v 0 - j - 1) = cu_N v 0 by omega]⟩, by rw [ht9]; exact hP, va_K.moved hW9.alike hK, hD⟩, hS.F ht9⟩) hS.2.2 dX6_verify_39
