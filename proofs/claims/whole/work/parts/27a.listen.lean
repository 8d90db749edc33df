set_option maxHeartbeats 4000000 in
set_option maxRecDepth 100000 in
theorem x_X5_listen_3 (l : Launch) (dC : Nat → ClassId) (dI : Nat → Nat → Nat) (a : Nat → Nat) (k : c_K) (u : c_St) (sz : Nat) (hst : l.stackTraces = false) (h : c_ok u) (hR : cu_N u 4 ≤ 600) (ps n : Nat) (hp : ps ≤ 19) (hn : n < cu_N u 0) (hm : (cu_B u 0 n && cu_B u 2 (ps * 50 + cu_F u 4 n)) = false) : XMet l yX5_listen wsX5_listen ({ frames := 7, cells := 1, slots := 6, locals := 103 }) (va_Pc [.ref (a 0), .int (nI ps), .int (nI n)] (w_pm (dC, dI) vwCl (wC a k u) (tC k) sz)) (x_CM (S := c_St) eISE (va_A (wC a k u) sz) (fun (u1 : c_St) => u1 = cs_N (cs_B (cs_F (cs_F u 8 (cu_N u 4 % 200) ps) 9 (cu_N u 4 % 200) n) 1 (cu_N u 4 % 200) false) 4 (cu_N u 4 + 1)) (w_at (dC, dI) vwCl (wC a k) (tC k) (va_A (wC a k u) sz))) 1 6 (va_A (wC a k u) sz) := by
  refine XMet.ofW (cc := cX5_listen) (maxL := 4) (ret := (some .int)) (by decide) rfl ?_
  intro p e s m args below meth c s₁ B hml hv
  obtain ⟨rfl, hsz, hP, hK, hD0, hX⟩ := hv
  have hx := B.exec
  have hb := B.bytes
  have hts := atoms_spec (ws := wsX5_listen) B.pre
  have htg : ∀ w ∈ wG, w.before _ s = true := fun w h => hts w (List.mem_cons_of_mem _ h)
  have hown : s.vm.findClass RX5 = some m.cls := findClass_of_methodNamed B.named
  have hlocks := B.notSynchronized
  have hnoh : ∀ x ∈ c.exceptionTable.toList, False := fun x hx9 => by
    have h9 := B.noHandlers (hts _ List.mem_cons_self)
    rw [Array.isEmpty_iff.mp h9] at hx9
    cases hx9
  subst hsz
  have hD := hD0.self (sz := s.heap.size)
  generalize hAe : va_A (wC a k u) s.heap.size = A at hD hX ⊢
  have hA : ∀ q : Nat, s.heap.size ≤ q → A q := fun q h => by rw [← hAe]; exact Or.inr h
  have hS : va_S A s.heap s.heap [] := va_S.rf
  have hl := lv_entry ([.ref (a 0), .int (nI ps), .int (nI n)]) (n := 4) (Nat.le_of_ble_eq_true rfl)
  rw [lg_entry_eq]
  generalize (lg_sl ([.ref (a 0), .int (nI ps), .int (nI n)]) ++ List.replicate (4 - (lg_sl ([.ref (a 0), .int (nI ps), .int (nI n)])).length) Slot.unset).toArray = ls at hl ⊢
  have hl : lv_has ls 4 [(0, .ref (a 0)), (1, .int (nI ps)), (2, .int (nI n))] := hl
  have h20 := h.1
  have hn2 := h.2.2.1 n hn
  refine lv_iload_n hx hb dX5_listen_0 rfl (lv_at hl 1 rfl) ?_
  refine va_csv (W.runS (As := [.int (nI ps)]) (rest := []) ⟨hx, hb, hml, hown, hts⟩ (c_X5_checkPerson l dC dI a k u ps hp) (cwS 1 hts (wG_S wG_c q_514 q_515 q_1 q_516) rfl rfl rfl (by decide +kernel) ⟨Nat.le_of_ble_eq_true rfl, Nat.le_of_ble_eq_true rfl⟩) (w_roS hK hP) rfl rfl hl.1 rfl (lv_room (Nat.le_of_ble_eq_true rfl)) dX5_listen_1 ⟨Nat.le_of_ble_eq_true rfl, Nat.le_of_ble_eq_true rfl⟩) (fun _ => ?_)
  refine lv_aload_n hx hb dX5_listen_4 rfl (lv_at hl 0 rfl) ?_
  refine lv_iload_n hx hb dX5_listen_5 rfl (lv_at hl 2 rfl) ?_
  refine va_csv (W.runV (As := [.int (nI n)]) (rest := []) ⟨hx, hb, hml, hown, hts⟩ (c_X5_checkSlot l dC dI a k u h20 n hn) (cwV 1 hts (wG_V wG_c q_434 q_436 p_5 q_1 q_437) rfl rfl rfl (by decide +kernel) ⟨Nat.le_of_ble_eq_true rfl, Nat.le_of_ble_eq_true rfl⟩) (w_roV hK hP (ci := 5) (q0 := 0) rfl (wC_g0 a k _) rfl) rfl rfl hl.1 rfl (lv_room (Nat.le_of_ble_eq_true rfl)) dX5_listen_6 ⟨Nat.le_of_ble_eq_true rfl, Nat.le_of_ble_eq_true rfl⟩) (fun _ => ?_)
  refine lv_aload_n hx hb dX5_listen_9 rfl (lv_at hl 0 rfl) ?_
  refine va_get (D := (dC, dI)) (ci := 5) (v := .ref (a 1)) (C := RX5) (T := TX5) (N := 6) hx hb htg inX5 hown hK hP 0 (wC_g0 a k _) rfl 0 (by decide) (htg _ q_160) (fun _ h9 => h9) rfl dX5_listen_10 ?_
  refine va_get (D := (dC, dI)) (ci := 4) (v := .ref (a 14)) (C := RX4) (T := TX4) (N := 9) hx hb htg inX4 hown hK hP 1 (wC_g1 a k _) rfl 7 (by decide) (htg _ q_44) (fun _ h9 => h9) rfl dX5_listen_13 ?_
  refine lv_iload_n hx hb dX5_listen_16 rfl (lv_at hl 2 rfl) ?_
  refine va_zald hx hb hK hP 14 2 (wC_g14 a k _) rfl (vp_in_nI (n := n) (N := 200) (show n < 200 by omega) (by decide)) dX5_listen_17 ?_
  refine wtopi (bI (cu_B u 0 n)) (congrArg (fun j9 => bI (cu_B u 0 j9)) (nI_clamp (n := n) (Nat.lt_trans (m := 200) (show n < 200 by omega) (by decide)))) ?_
  refine bz_eq (a := (cu_B u 0 n)) (tgt := 45) hx hb dX5_listen_18 (by decide) (fun c_18 => ?_) (fun c_18 => ?_)
  · refine lv_iconst (v := 0) hx hb dX5_listen_45 (by decide) ?_
    refine lv_istore_n (lv' := [(3, .int 0), (0, .ref (a 0)), (1, .int (nI ps)), (2, .int (nI n))]) hx hb dX5_listen_46 rfl hl (by decide) rfl (fun ls hl => ?_)
    refine lv_aload_n hx hb dX5_listen_47 rfl (lv_at hl 1 rfl) ?_
    refine va_get (D := (dC, dI)) (ci := 5) (v := .ref (a 5)) (C := RX5) (T := TX5) (N := 6) hx hb htg inX5 hown hK hP 0 (wC_g0 a k _) rfl 4 (by decide) (htg _ q_164) (fun _ h9 => h9) rfl dX5_listen_48 ?_
    refine lv_iload_n hx hb dX5_listen_51 rfl (lv_at hl 2 rfl) ?_
    refine lv_iload_n hx hb dX5_listen_52 rfl (lv_at hl 3 rfl) ?_
    refine lv_iload_n hx hb dX5_listen_53 rfl (lv_at hl 0 rfl) ?_
    refine w_calv (w := wC a k) (va_runV (As := [.int (nI ps), .int (nI n), .int 0]) (rest := []) ⟨hx, hb, hml, hown, hts⟩ (c_X2_keepRow l dC dI a k u _ hR ps n false) (cwV 3 hts (wG_V wG_c q_533 q_534 q_535 q_6 q_536) rfl rfl rfl (by decide +kernel) ⟨Nat.le_of_ble_eq_true rfl, Nat.le_of_ble_eq_true rfl⟩) (w_muV hK hP hD (ci := 2) (q0 := 5) rfl (wC_g5 a k _) rfl) rfl rfl hl.1 rfl (lv_room (Nat.le_of_ble_eq_true rfl)) dX5_listen_54 ⟨Nat.le_of_ble_eq_true rfl, Nat.le_of_ble_eq_true rfl⟩) hD hS hA (fun u_1 H locs hq_1 hP hD hS => ?_)
    subst hq_1
    refine lv_iload_n hx hb dX5_listen_57 rfl (lv_at hl 0 rfl) ?_
    refine lv_if_ne (tgt := 71) hx hb dX5_listen_58 (by decide) (fun h9 => absurd h9 (by decide)) (fun _ => ?_)
    exact x_throw (E := eISE) (text := "the slot is dropped, or the person has no right") (A := A) hx hb hst hown (by decide +kernel) htg hX own_ISE q_443 q_444 q_15 (by decide +kernel) hS (hl.1.trans hml.symm) dX5_listen_61 dX5_listen_64 dX5_listen_65 dX5_listen_67 dX5_listen_70 (fun x h9 => (hnoh x h9).elim) (Nat.le_of_ble_eq_true rfl) (Nat.le_of_ble_eq_true rfl) (Nat.le_of_ble_eq_true rfl) (Nat.le_of_ble_eq_true rfl) hlocks (fun q9 t9 ce9 hW9 z1 z2 z3 z4 z5 => ⟨⟨ce9, z3, z4, z5⟩, ⟨_, rfl, hP.kept (fun k9 q8 h8 => z2 q8.1 (hP k9 q8 h8).lt), va_K.moved hW9.alike hK, hD⟩, Nat.le_trans hS.1 z1, fun z z6 z7 => (z2 z (Nat.lt_of_lt_of_le z6 hS.1)).trans (hS.2.1 z z6 z7)⟩) hS.2.2 (Nat.le_refl _) (Nat.le_refl _)
  · refine lv_aload_n hx hb dX5_listen_21 rfl (lv_at hl 0 rfl) ?_
    refine va_get (D := (dC, dI)) (ci := 5) (v := .ref (a 5)) (C := RX5) (T := TX5) (N := 6) hx hb htg inX5 hown hK hP 0 (wC_g0 a k _) rfl 4 (by decide) (htg _ q_164) (fun _ h9 => h9) rfl dX5_listen_22 ?_
    refine lv_iload_n hx hb dX5_listen_25 rfl (lv_at hl 1 rfl) ?_
    refine lv_aload_n hx hb dX5_listen_26 rfl (lv_at hl 0 rfl) ?_
    refine va_get (D := (dC, dI)) (ci := 5) (v := .ref (a 1)) (C := RX5) (T := TX5) (N := 6) hx hb htg inX5 hown hK hP 0 (wC_g0 a k _) rfl 0 (by decide) (htg _ q_160) (fun _ h9 => h9) rfl dX5_listen_27 ?_
    refine va_get (D := (dC, dI)) (ci := 4) (v := .ref (a 12)) (C := RX4) (T := TX4) (N := 9) hx hb htg inX4 hown hK hP 1 (wC_g1 a k _) rfl 5 (by decide) (htg _ q_40) (fun _ h9 => h9) rfl dX5_listen_30 ?_
    refine lv_iload_n hx hb dX5_listen_33 rfl (lv_at hl 2 rfl) ?_
    refine va_iald hx hb hK hP 12 0 (wC_g12 a k _) rfl (vp_in_nI (n := n) (N := 200) (show n < 200 by omega) (by decide)) dX5_listen_34 ?_
    refine wtopi (nI (cu_F u 4 n)) (congrArg (fun j9 => nI (cu_F u 4 j9)) (nI_clamp (n := n) (Nat.lt_trans (m := 200) (show n < 200 by omega) (by decide)))) ?_
    refine vp_callSi (W.runV (As := [.int (nI ps), .int (nI (cu_F u 4 n))]) (rest := []) ⟨hx, hb, hml, hown, hts⟩ (c_X2_mayHear l dC dI a k u ps (cu_F u 4 n) (by omega) hn2.2.2.2.2.2) (cwV 2 hts (wG_V wG_c q_529 q_530 q_531 q_6 q_532) rfl rfl rfl (by decide +kernel) ⟨Nat.le_of_ble_eq_true rfl, Nat.le_of_ble_eq_true rfl⟩) (w_roV hK hP (ci := 2) (q0 := 5) rfl (wC_g5 a k _) rfl) rfl rfl hl.1 rfl (lv_room (Nat.le_of_ble_eq_true rfl)) dX5_listen_35 ⟨Nat.le_of_ble_eq_true rfl, Nat.le_of_ble_eq_true rfl⟩) (fun r_2 hr_2 => ?_)
    subst hr_2
    refine bz_eq (a := (cu_B u 2 (ps * 50 + cu_F u 4 n))) (tgt := 45) hx hb dX5_listen_38 (by decide) (fun c_38 => ?_) (fun c_38 => ?_)
    · refine lv_iconst (v := 0) hx hb dX5_listen_45 (by decide) ?_
      refine lv_istore_n (lv' := [(3, .int 0), (0, .ref (a 0)), (1, .int (nI ps)), (2, .int (nI n))]) hx hb dX5_listen_46 rfl hl (by decide) rfl (fun ls hl => ?_)
      refine lv_aload_n hx hb dX5_listen_47 rfl (lv_at hl 1 rfl) ?_
      refine va_get (D := (dC, dI)) (ci := 5) (v := .ref (a 5)) (C := RX5) (T := TX5) (N := 6) hx hb htg inX5 hown hK hP 0 (wC_g0 a k _) rfl 4 (by decide) (htg _ q_164) (fun _ h9 => h9) rfl dX5_listen_48 ?_
      refine lv_iload_n hx hb dX5_listen_51 rfl (lv_at hl 2 rfl) ?_
      refine lv_iload_n hx hb dX5_listen_52 rfl (lv_at hl 3 rfl) ?_
      refine lv_iload_n hx hb dX5_listen_53 rfl (lv_at hl 0 rfl) ?_
      refine w_calv (w := wC a k) (va_runV (As := [.int (nI ps), .int (nI n), .int 0]) (rest := []) ⟨hx, hb, hml, hown, hts⟩ (c_X2_keepRow l dC dI a k u _ hR ps n false) (cwV 3 hts (wG_V wG_c q_533 q_534 q_535 q_6 q_536) rfl rfl rfl (by decide +kernel) ⟨Nat.le_of_ble_eq_true rfl, Nat.le_of_ble_eq_true rfl⟩) (w_muV hK hP hD (ci := 2) (q0 := 5) rfl (wC_g5 a k _) rfl) rfl rfl hl.1 rfl (lv_room (Nat.le_of_ble_eq_true rfl)) dX5_listen_54 ⟨Nat.le_of_ble_eq_true rfl, Nat.le_of_ble_eq_true rfl⟩) hD hS hA (fun u_3 H locs hq_3 hP hD hS => ?_)
      subst hq_3
      refine lv_iload_n hx hb dX5_listen_57 rfl (lv_at hl 0 rfl) ?_
      refine lv_if_ne (tgt := 71) hx hb dX5_listen_58 (by decide) (fun h9 => absurd h9 (by decide)) (fun _ => ?_)
      exact x_throw (E := eISE) (text := "the slot is dropped, or the person has no right") (A := A) hx hb hst hown (by decide +kernel) htg hX own_ISE q_443 q_444 q_15 (by decide +kernel) hS (hl.1.trans hml.symm) dX5_listen_61 dX5_listen_64 dX5_listen_65 dX5_listen_67 dX5_listen_70 (fun x h9 => (hnoh x h9).elim) (Nat.le_of_ble_eq_true rfl) (Nat.le_of_ble_eq_true rfl) (Nat.le_of_ble_eq_true rfl) (Nat.le_of_ble_eq_true rfl) hlocks (fun q9 t9 ce9 hW9 z1 z2 z3 z4 z5 => ⟨⟨ce9, z3, z4, z5⟩, ⟨_, rfl, hP.kept (fun k9 q8 h8 => z2 q8.1 (hP k9 q8 h8).lt), va_K.moved hW9.alike hK, hD⟩, Nat.le_trans hS.1 z1, fun z z6 z7 => (z2 z (Nat.lt_of_lt_of_le z6 hS.1)).trans (hS.2.1 z z6 z7)⟩) hS.2.2 (Nat.le_refl _) (Nat.le_refl _)
    · exact absurd hm (by rw [c_18, c_38]; decide)
