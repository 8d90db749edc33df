theorem irem200 {x : Nat} (h : x < 2147483648) : nI x - nI x / 200 * 200 = nI (x % 200) := pk_rem (a := x) (d := 200) (by omega) (by decide) (by decide)

set_option maxHeartbeats 4000000 in
set_option maxRecDepth 100000 in
theorem c_X6_poke (l : Launch) (dC : Nat → ClassId) (dI : Nat → Nat → Nat) (a : Nat → Nat) (k : c_K) (u : c_St) (sz : Nat) (h : m_ok u) (p0 p1 p2 : Int32) : Met l yX6_poke wsX6_poke ({ frames := 3, cells := 0, slots := 0, locals := 64 }) (va_Pc [.ref (a 0), .int p0, .int p1, .int p2] (w_mu (dC, dI) vwCl (wR a k u) (tC k) sz)) (va_Qv (fun (u1 : c_St) => (m_code (!isS (cu_N u 0) p0) (!isS (cu_N u 0) p0 || !isS (cu_F u 2 p0.toInt.toNat) p1 || !inR p2 1 255) (isS (cu_N u 0) p0 && cu_B u 0 p0.toInt.toNat) ≠ 0 → u1 = cs_N u 4 (m_code (!isS (cu_N u 0) p0) (!isS (cu_N u 0) p0 || !isS (cu_F u 2 p0.toInt.toNat) p1 || !inR p2 1 255) (isS (cu_N u 0) p0 && cu_B u 0 p0.toInt.toNat))) ∧ (m_code (!isS (cu_N u 0) p0) (!isS (cu_N u 0) p0 || !isS (cu_F u 2 p0.toInt.toNat) p1 || !inR p2 1 255) (isS (cu_N u 0) p0 && cu_B u 0 p0.toInt.toNat) = 0 → ∃ n i : Nat, n < cu_N u 0 ∧ i < cu_F u 2 n ∧ p0 = nI n ∧ p1 = nI i ∧ inR p2 1 255 = true ∧ cu_B u 0 n = false ∧ u1 = cs_G (cs_N u 4 0) 2 (8 * n + i) (cu_G u 2 (8 * n + i) ^^^ p2))) (w_at (dC, dI) vwCl (wR a k) (tC k) (va_A (wR a k u) sz)) (va_A (wR a k u) sz)) 0 0 (va_A (wR a k u) sz) := by
  refine Met.ofW (cc := cX6_poke) (maxL := 5) (ret := none) (by decide) rfl ?_
  intro p e s m args below meth c s₁ B hml hv
  obtain ⟨rfl, hsz, hP, hK, hD0⟩ := hv
  have hx := B.exec
  have hb := B.bytes
  have hr := B.returns
  have hts := atoms_spec (ws := wsX6_poke) B.pre
  have htg : ∀ w ∈ wG, w.before _ s = true := fun w h => hts w (List.mem_cons_of_mem _ h)
  have hown : s.vm.findClass RX6 = some m.cls := findClass_of_methodNamed B.named
  have hlocks := B.notSynchronized
  subst hsz
  have hD := hD0.self (sz := s.heap.size)
  generalize hAe : va_A (wR a k u) s.heap.size = A at hD ⊢
  have hA : ∀ q : Nat, s.heap.size ≤ q → A q := fun q h => by rw [← hAe]; exact Or.inr h
  have hS : va_S A s.heap s.heap [] := va_S.rf
  have hl := lv_entry ([.ref (a 0), .int p0, .int p1, .int p2]) (n := 5) (Nat.le_of_ble_eq_true rfl)
  rw [lg_entry_eq]
  generalize (lg_sl ([.ref (a 0), .int p0, .int p1, .int p2]) ++ List.replicate (5 - (lg_sl ([.ref (a 0), .int p0, .int p1, .int p2])).length) Slot.unset).toArray = ls at hl ⊢
  have hl : lv_has ls 5 [(0, .ref (a 0)), (1, .int p0), (2, .int p1), (3, .int p2)] := hl
  have h20 := h.1
  refine lv_aload_n hx hb dX6_poke_0 rfl (lv_at hl 0 rfl) ?_
  refine lv_iload_n hx hb dX6_poke_1 rfl (lv_at hl 1 rfl) ?_
  refine vp_callSi (W.runV (As := [.int p0]) (rest := []) ⟨hx, hb, hml, hown, hts⟩ (c_X6_isSlot l dC dI a k u h20 p0) (cwV 1 hts (wG_V wG_c q_714 q_716 p_16 q_7 q_717) rfl rfl rfl (by decide +kernel) ⟨Nat.le_of_ble_eq_true rfl, Nat.le_of_ble_eq_true rfl⟩) (w_roV hK hP (ci := 6) (q0 := 0) rfl (wR_g0 a k _) rfl) rfl rfl hl.1 rfl (lv_room (Nat.le_of_ble_eq_true rfl)) dX6_poke_2 ⟨Nat.le_of_ble_eq_true rfl, Nat.le_of_ble_eq_true rfl⟩) (fun r_1 hr_1 => ?_)
  subst hr_1
  refine bz_ne (a := (isS (cu_N u 0) p0)) (tgt := 12) hx hb dX6_poke_5 (by decide) (fun c_5 => ?_) (fun c_5 => ?_)
  · obtain ⟨n, h_n, e_n⟩ := isS_of (n := (cu_N u 0)) (by omega) c_5
    subst e_n
    have et9 := tnI (i := n) (by omega)
    have hn2 := h.2.2.1 n h_n
    refine lv_iconst (v := 0) hx hb dX6_poke_12 (by decide) ?_
    refine lv_istore (lv' := [(4, .int 0), (0, .ref (a 0)), (1, .int (nI n)), (2, .int p1), (3, .int p2)]) hx hb dX6_poke_13 hl (by decide) rfl (fun ls hl => ?_)
    refine lv_aload_n hx hb dX6_poke_15 rfl (lv_at hl 1 rfl) ?_
    refine lv_iload hx hb dX6_poke_16 (lv_at hl 0 rfl) ?_
    refine lv_iload hx hb dX6_poke_18 (lv_at hl 0 rfl) ?_
    refine lv_if_ne (tgt := 50) hx hb dX6_poke_20 (by decide) (fun h9 => absurd h9 (by decide)) (fun _ => ?_)
    refine lv_iload_n hx hb dX6_poke_23 rfl (lv_at hl 3 rfl) ?_
    refine lv_iconst (v := 0) hx hb dX6_poke_24 (by decide) ?_
    refine lv_aload_n hx hb dX6_poke_25 rfl (lv_at hl 1 rfl) ?_
    refine va_get (D := (dC, dI)) (ci := 6) (v := .ref (a 3)) (C := RX6) (T := TX6) (N := 20) hx hb htg inX6 hown hK hP 0 (wR_g0 a k _) rfl 4 (by decide) (htg _ q_585) (fun _ h9 => h9) rfl dX6_poke_26 ?_
    refine lv_iload_n hx hb dX6_poke_29 rfl (lv_at hl 2 rfl) ?_
    refine va_iald hx hb hK hP 3 0 (wR_g3 a k _) rfl (vp_in_nI (n := n) (N := 200) (show n < 200 by omega) (by decide)) dX6_poke_30 ?_
    refine wtopi (nI (cu_F u 2 n)) (congrArg (fun j9 => nI (cu_F u 2 j9)) (nI_clamp (n := n) (Nat.lt_trans (m := 200) (show n < 200 by omega) (by decide)))) ?_
    refine lv_iconst (v := 1) hx hb dX6_poke_31 (by decide) ?_
    refine lv_isub hx hb dX6_poke_32 ?_
    refine wtopi (y := iI ((cu_F u 2 n : Int) - 1)) (show nI (cu_F u 2 n) - 1 = iI ((cu_F u 2 n : Int) - 1) from by rw [nI_iI]; exact iI_sub _ 1) ?_
    refine vp_callSi (W.runS (As := [.int p1, .int 0, .int (iI ((cu_F u 2 n : Int) - 1))]) (rest := [.int 0, .ref (a 0)]) ⟨hx, hb, hml, hown, hts⟩ (c_X6_in l dC dI a k u p1 0 (iI ((cu_F u 2 n : Int) - 1))) (cwS 3 hts (wG_S wG_c q_650 q_651 q_7 q_652) rfl rfl rfl (by decide +kernel) ⟨Nat.le_of_ble_eq_true rfl, Nat.le_of_ble_eq_true rfl⟩) (w_roS hK hP) rfl rfl hl.1 rfl (lv_room (Nat.le_of_ble_eq_true rfl)) dX6_poke_33 ⟨Nat.le_of_ble_eq_true rfl, Nat.le_of_ble_eq_true rfl⟩) (fun r_2 hr_2 => ?_)
    subst hr_2
    refine wtopi (bI (isS (cu_F u 2 n) p1)) (congrArg bI (isS_eq (by omega) p1)) ?_
    refine bz_eq (a := (isS (cu_F u 2 n) p1)) (tgt := 50) hx hb dX6_poke_36 (by decide) (fun c_36 => ?_) (fun c_36 => ?_)
    · refine lv_iconst (v := 1) hx hb dX6_poke_50 (by decide) ?_
      refine lv_goto (tgt := 55) hx hb dX6_poke_51 (by decide) ?_
      refine lv_aload_n hx hb dX6_poke_55 rfl (lv_at hl 1 rfl) ?_
      refine lv_iload_n hx hb dX6_poke_56 rfl (lv_at hl 2 rfl) ?_
      refine vp_callSi (W.runV (As := [.int (nI n)]) (rest := [.int 1, .int 0, .ref (a 0)]) ⟨hx, hb, hml, hown, hts⟩ (c_X6_isGone l dC dI a k u h20 (nI n)) (cwV 1 hts (wG_V wG_c q_718 q_720 p_17 q_7 q_721) rfl rfl rfl (by decide +kernel) ⟨Nat.le_of_ble_eq_true rfl, Nat.le_of_ble_eq_true rfl⟩) (w_roV hK hP (ci := 6) (q0 := 0) rfl (wR_g0 a k _) rfl) rfl rfl hl.1 rfl (lv_room (Nat.le_of_ble_eq_true rfl)) dX6_poke_57 ⟨Nat.le_of_ble_eq_true rfl, Nat.le_of_ble_eq_true rfl⟩) (fun r_3 hr_3 => ?_)
      subst hr_3
      refine wtopi (bI (cu_B u 0 n)) (by rw [c_5, et9]; rfl) ?_
      refine w_cali (w := wR a k) (va_runV (As := [.int 0, .int 1, .int (bI (cu_B u 0 n))]) (rest := []) ⟨hx, hb, hml, hown, hts⟩ (c_X6_throwing l dC dI a k u _ false true (cu_B u 0 n)) (cwV 3 hts (wG_V wG_c q_654 q_656 p_7 q_7 q_657) rfl rfl rfl (by decide +kernel) ⟨Nat.le_of_ble_eq_true rfl, Nat.le_of_ble_eq_true rfl⟩) (w_muV hK hP hD (ci := 6) (q0 := 0) rfl (wR_g0 a k _) rfl) rfl rfl hl.1 rfl (lv_room (Nat.le_of_ble_eq_true rfl)) dX6_poke_60 ⟨Nat.le_of_ble_eq_true rfl, Nat.le_of_ble_eq_true rfl⟩) hD hS hA (fun r_4 u_4 H locs hq_4 hP hD hS => ?_)
      obtain ⟨er9, eu9⟩ := hq_4
      subst er9 eu9
      refine wtopi (1) rfl ?_
      refine lv_if_eq (tgt := 67) hx hb dX6_poke_63 (by decide) (fun h9 => absurd h9 (by decide)) (fun _ => ?_)
      exact W.vret hx hb hr (fun t9 ht9 hW9 => ⟨⟨cs_N u 4 (m_code false true (cu_B u 0 n)), rfl, ⟨fun _ => congrArg (cs_N u 4) (by simp [m_code, c_5, c_36, et9]), fun h9 => absurd h9 (by simp [m_code, c_5, c_36, et9])⟩, by rw [ht9]; exact hP, va_K.moved hW9.alike hK, hD⟩, hS.F ht9⟩) hS.2.2 dX6_poke_66
    · refine lv_iload_n hx hb dX6_poke_39 rfl (lv_at hl 4 rfl) ?_
      refine lv_iconst (v := 1) hx hb dX6_poke_40 (by decide) ?_
      refine lv_sipush (v := 255) hx hb dX6_poke_41 (by decide) ?_
      refine vp_callSi (W.runS (As := [.int p2, .int 1, .int 255]) (rest := [.int 0, .ref (a 0)]) ⟨hx, hb, hml, hown, hts⟩ (c_X6_in l dC dI a k u p2 1 255) (cwS 3 hts (wG_S wG_c q_650 q_651 q_7 q_652) rfl rfl rfl (by decide +kernel) ⟨Nat.le_of_ble_eq_true rfl, Nat.le_of_ble_eq_true rfl⟩) (w_roS hK hP) rfl rfl hl.1 rfl (lv_room (Nat.le_of_ble_eq_true rfl)) dX6_poke_44 ⟨Nat.le_of_ble_eq_true rfl, Nat.le_of_ble_eq_true rfl⟩) (fun r_5 hr_5 => ?_)
      subst hr_5
      refine bz_ne (a := (inR p2 1 255)) (tgt := 54) hx hb dX6_poke_47 (by decide) (fun c_47 => ?_) (fun c_47 => ?_)
      · refine lv_iconst (v := 0) hx hb dX6_poke_54 (by decide) ?_
        refine lv_aload_n hx hb dX6_poke_55 rfl (lv_at hl 1 rfl) ?_
        refine lv_iload_n hx hb dX6_poke_56 rfl (lv_at hl 2 rfl) ?_
        refine vp_callSi (W.runV (As := [.int (nI n)]) (rest := [.int 0, .int 0, .ref (a 0)]) ⟨hx, hb, hml, hown, hts⟩ (c_X6_isGone l dC dI a k u h20 (nI n)) (cwV 1 hts (wG_V wG_c q_718 q_720 p_17 q_7 q_721) rfl rfl rfl (by decide +kernel) ⟨Nat.le_of_ble_eq_true rfl, Nat.le_of_ble_eq_true rfl⟩) (w_roV hK hP (ci := 6) (q0 := 0) rfl (wR_g0 a k _) rfl) rfl rfl hl.1 rfl (lv_room (Nat.le_of_ble_eq_true rfl)) dX6_poke_57 ⟨Nat.le_of_ble_eq_true rfl, Nat.le_of_ble_eq_true rfl⟩) (fun r_6 hr_6 => ?_)
        subst hr_6
        refine wtopi (bI (cu_B u 0 n)) (by rw [c_5, et9]; rfl) ?_
        refine w_cali (w := wR a k) (va_runV (As := [.int 0, .int 0, .int (bI (cu_B u 0 n))]) (rest := []) ⟨hx, hb, hml, hown, hts⟩ (c_X6_throwing l dC dI a k u _ false false (cu_B u 0 n)) (cwV 3 hts (wG_V wG_c q_654 q_656 p_7 q_7 q_657) rfl rfl rfl (by decide +kernel) ⟨Nat.le_of_ble_eq_true rfl, Nat.le_of_ble_eq_true rfl⟩) (w_muV hK hP hD (ci := 6) (q0 := 0) rfl (wR_g0 a k _) rfl) rfl rfl hl.1 rfl (lv_room (Nat.le_of_ble_eq_true rfl)) dX6_poke_60 ⟨Nat.le_of_ble_eq_true rfl, Nat.le_of_ble_eq_true rfl⟩) hD hS hA (fun r_7 u_7 H locs hq_7 hP hD hS => ?_)
        obtain ⟨er9, eu9⟩ := hq_7
        subst er9 eu9
        refine bz_eq (a := (false || false || (cu_B u 0 n))) (tgt := 67) hx hb dX6_poke_63 (by decide) (fun c_63 => ?_) (fun c_63 => ?_)
        · have c_63 : cu_B u 0 n = false := by simpa using c_63
          obtain ⟨i, h_i, e_i⟩ := isS_of (n := cu_F u 2 n) (by omega) c_36
          subst e_i
          have eu6 : cs_N u 4 (m_code false false (cu_B u 0 n)) = cs_N u 4 0 := by rw [c_63]; rfl
          rw [eu6] at hP hD
          refine lv_aload_n hx hb dX6_poke_67 rfl (lv_at hl 1 rfl) ?_
          refine va_get (D := (dC, dI)) (ci := 6) (v := .ref (a 14)) (C := RX6) (T := TX6) (N := 20) hx hb htg inX6 hown hK hP 0 (wR_g0 a k _) rfl 5 (by decide) (htg _ q_586) (fun _ h9 => h9) rfl dX6_poke_68 ?_
          refine lv_bipush (v := 8) hx hb dX6_poke_71 (by decide) ?_
          refine lv_iload_n hx hb dX6_poke_73 rfl (lv_at hl 2 rfl) ?_
          refine lv_imul hx hb dX6_poke_74 ?_
          refine wtopi (y := nI (8 * n)) (pk_mul 8 n) ?_
          refine lv_iload_n hx hb dX6_poke_75 rfl (lv_at hl 3 rfl) ?_
          refine lv_iadd hx hb dX6_poke_76 ?_
          refine wtopi (y := nI (8 * n + i)) (nI_add _ _) ?_
          refine lv_dup2_11 hx hb dX6_poke_77 rfl rfl ?_
          refine va_iald hx hb hK hP 14 0 (wR_g14 a k _) rfl (vp_in_nI (n := (8 * n + i)) (N := 1600) (show 8 * n + i < 1600 by omega) (by decide)) dX6_poke_78 ?_
          refine wtopi (cu_G (cs_N u 4 0) 2 (8 * n + i)) (congrArg (fun j9 => cu_G (cs_N u 4 0) 2 j9) (nI_clamp (n := (8 * n + i)) (Nat.lt_trans (m := 1600) (show 8 * n + i < 1600 by omega) (by decide)))) ?_
          refine lv_iload_n hx hb dX6_poke_79 rfl (lv_at hl 4 rfl) ?_
          refine lv_ixor hx hb dX6_poke_80 ?_
          refine wtopi (y := cu_G u 2 (8 * n + i) ^^^ p2) rfl ?_
          refine va_iast hx hb hK hP hD hS 14 0 (wR_g14 a k _) rfl (vp_in_nI (n := (8 * n + i)) (N := 1600) (show 8 * n + i < 1600 by omega) (by decide)) dX6_poke_81 (fun H locs hP hD hS => ?_)
          have hP := w_pE (wR_s14 a k _ (8 * n + i) (cu_G u 2 (8 * n + i) ^^^ p2) (Nat.lt_trans (m := 1600) (show 8 * n + i < 1600 by omega) (by decide))) hP
          have hD := w_dE (wR_s14 a k _ (8 * n + i) (cu_G u 2 (8 * n + i) ^^^ p2) (Nat.lt_trans (m := 1600) (show 8 * n + i < 1600 by omega) (by decide))) hD
          exact W.vret hx hb hr (fun t9 ht9 hW9 => ⟨⟨cs_G (cs_N u 4 0) 2 (8 * n + i) (cu_G u 2 (8 * n + i) ^^^ p2), rfl, ⟨fun h9 => absurd (by simp [m_code, c_5, c_36, c_47, c_63, et9]) h9, fun _ => ⟨n, i, h_n, h_i, rfl, rfl, c_47, c_63, rfl⟩⟩, by rw [ht9]; exact hP, va_K.moved hW9.alike hK, hD⟩, hS.F ht9⟩) hS.2.2 dX6_poke_82
        · have c_63 : cu_B u 0 n = true := by simpa using c_63
          exact W.vret hx hb hr (fun t9 ht9 hW9 => ⟨⟨cs_N u 4 (m_code false false (cu_B u 0 n)), rfl, ⟨fun _ => congrArg (cs_N u 4) (by simp [m_code, c_5, c_36, c_47, et9, c_63]), fun h9 => absurd h9 (by simp [m_code, c_5, c_36, c_47, et9, c_63])⟩, by rw [ht9]; exact hP, va_K.moved hW9.alike hK, hD⟩, hS.F ht9⟩) hS.2.2 dX6_poke_66
      · refine lv_iconst (v := 1) hx hb dX6_poke_50 (by decide) ?_
        refine lv_goto (tgt := 55) hx hb dX6_poke_51 (by decide) ?_
        refine lv_aload_n hx hb dX6_poke_55 rfl (lv_at hl 1 rfl) ?_
        refine lv_iload_n hx hb dX6_poke_56 rfl (lv_at hl 2 rfl) ?_
        refine vp_callSi (W.runV (As := [.int (nI n)]) (rest := [.int 1, .int 0, .ref (a 0)]) ⟨hx, hb, hml, hown, hts⟩ (c_X6_isGone l dC dI a k u h20 (nI n)) (cwV 1 hts (wG_V wG_c q_718 q_720 p_17 q_7 q_721) rfl rfl rfl (by decide +kernel) ⟨Nat.le_of_ble_eq_true rfl, Nat.le_of_ble_eq_true rfl⟩) (w_roV hK hP (ci := 6) (q0 := 0) rfl (wR_g0 a k _) rfl) rfl rfl hl.1 rfl (lv_room (Nat.le_of_ble_eq_true rfl)) dX6_poke_57 ⟨Nat.le_of_ble_eq_true rfl, Nat.le_of_ble_eq_true rfl⟩) (fun r_8 hr_8 => ?_)
        subst hr_8
        refine wtopi (bI (cu_B u 0 n)) (by rw [c_5, et9]; rfl) ?_
        refine w_cali (w := wR a k) (va_runV (As := [.int 0, .int 1, .int (bI (cu_B u 0 n))]) (rest := []) ⟨hx, hb, hml, hown, hts⟩ (c_X6_throwing l dC dI a k u _ false true (cu_B u 0 n)) (cwV 3 hts (wG_V wG_c q_654 q_656 p_7 q_7 q_657) rfl rfl rfl (by decide +kernel) ⟨Nat.le_of_ble_eq_true rfl, Nat.le_of_ble_eq_true rfl⟩) (w_muV hK hP hD (ci := 6) (q0 := 0) rfl (wR_g0 a k _) rfl) rfl rfl hl.1 rfl (lv_room (Nat.le_of_ble_eq_true rfl)) dX6_poke_60 ⟨Nat.le_of_ble_eq_true rfl, Nat.le_of_ble_eq_true rfl⟩) hD hS hA (fun r_9 u_9 H locs hq_9 hP hD hS => ?_)
        obtain ⟨er9, eu9⟩ := hq_9
        subst er9 eu9
        refine wtopi (1) rfl ?_
        refine lv_if_eq (tgt := 67) hx hb dX6_poke_63 (by decide) (fun h9 => absurd h9 (by decide)) (fun _ => ?_)
        exact W.vret hx hb hr (fun t9 ht9 hW9 => ⟨⟨cs_N u 4 (m_code false true (cu_B u 0 n)), rfl, ⟨fun _ => congrArg (cs_N u 4) (by simp [m_code, c_5, c_36, c_47, et9]), fun h9 => absurd h9 (by simp [m_code, c_5, c_36, c_47, et9])⟩, by rw [ht9]; exact hP, va_K.moved hW9.alike hK, hD⟩, hS.F ht9⟩) hS.2.2 dX6_poke_66
  · refine lv_iconst (v := 1) hx hb dX6_poke_8 (by decide) ?_
    refine lv_goto (tgt := 13) hx hb dX6_poke_9 (by decide) ?_
    refine lv_istore (lv' := [(4, .int 1), (0, .ref (a 0)), (1, .int p0), (2, .int p1), (3, .int p2)]) hx hb dX6_poke_13 hl (by decide) rfl (fun ls hl => ?_)
    refine lv_aload_n hx hb dX6_poke_15 rfl (lv_at hl 1 rfl) ?_
    refine lv_iload hx hb dX6_poke_16 (lv_at hl 0 rfl) ?_
    refine lv_iload hx hb dX6_poke_18 (lv_at hl 0 rfl) ?_
    refine lv_if_ne (tgt := 50) hx hb dX6_poke_20 (by decide) (fun _ => ?_) (fun h9 => absurd h9 (by decide))
    refine lv_iconst (v := 1) hx hb dX6_poke_50 (by decide) ?_
    refine lv_goto (tgt := 55) hx hb dX6_poke_51 (by decide) ?_
    refine lv_aload_n hx hb dX6_poke_55 rfl (lv_at hl 1 rfl) ?_
    refine lv_iload_n hx hb dX6_poke_56 rfl (lv_at hl 2 rfl) ?_
    refine vp_callSi (W.runV (As := [.int p0]) (rest := [.int 1, .int 1, .ref (a 0)]) ⟨hx, hb, hml, hown, hts⟩ (c_X6_isGone l dC dI a k u h20 p0) (cwV 1 hts (wG_V wG_c q_718 q_720 p_17 q_7 q_721) rfl rfl rfl (by decide +kernel) ⟨Nat.le_of_ble_eq_true rfl, Nat.le_of_ble_eq_true rfl⟩) (w_roV hK hP (ci := 6) (q0 := 0) rfl (wR_g0 a k _) rfl) rfl rfl hl.1 rfl (lv_room (Nat.le_of_ble_eq_true rfl)) dX6_poke_57 ⟨Nat.le_of_ble_eq_true rfl, Nat.le_of_ble_eq_true rfl⟩) (fun r_10 hr_10 => ?_)
    subst hr_10
    refine wtopi (0) (by rw [c_5]; rfl) ?_
    refine w_cali (w := wR a k) (va_runV (As := [.int 1, .int 1, .int 0]) (rest := []) ⟨hx, hb, hml, hown, hts⟩ (c_X6_throwing l dC dI a k u _ true true false) (cwV 3 hts (wG_V wG_c q_654 q_656 p_7 q_7 q_657) rfl rfl rfl (by decide +kernel) ⟨Nat.le_of_ble_eq_true rfl, Nat.le_of_ble_eq_true rfl⟩) (w_muV hK hP hD (ci := 6) (q0 := 0) rfl (wR_g0 a k _) rfl) rfl rfl hl.1 rfl (lv_room (Nat.le_of_ble_eq_true rfl)) dX6_poke_60 ⟨Nat.le_of_ble_eq_true rfl, Nat.le_of_ble_eq_true rfl⟩) hD hS hA (fun r_11 u_11 H locs hq_11 hP hD hS => ?_)
    obtain ⟨er9, eu9⟩ := hq_11
    subst er9 eu9
    refine wtopi (1) rfl ?_
    refine lv_if_eq (tgt := 67) hx hb dX6_poke_63 (by decide) (fun h9 => absurd h9 (by decide)) (fun _ => ?_)
    exact W.vret hx hb hr (fun t9 ht9 hW9 => ⟨⟨cs_N u 4 (m_code true true false), rfl, ⟨fun _ => congrArg (cs_N u 4) (by simp [m_code, c_5]), fun h9 => absurd h9 (by simp [m_code, c_5])⟩, by rw [ht9]; exact hP, va_K.moved hW9.alike hK, hD⟩, hS.F ht9⟩) hS.2.2 dX6_poke_66
set_option maxHeartbeats 4000000 in
set_option maxRecDepth 100000 in
theorem c_X6_row (l : Launch) (dC : Nat → ClassId) (dI : Nat → Nat → Nat) (a : Nat → Nat) (k : c_K) (u : c_St) (sz : Nat) (hR : cu_N u 3 ≤ 600) (p0 p1 : Int32) : Met l yX6_row wsX6_row ({ frames := 1, cells := 0, slots := 0, locals := 23 }) (va_Pc [.ref (a 0), .int p0, .int p1] (w_mu (dC, dI) vwCl (wR a k u) (tC k) sz)) (va_Qi (fun (r : Int32) (u1 : c_St) => u1 = cs_N u 4 (m_code (!(isS (cu_N u 3) p0 && decide ((cu_N u 3 : Int) - 200 ≤ p0.toInt)) || !inR p1 0 2) false false) ∧ (m_code (!(isS (cu_N u 3) p0 && decide ((cu_N u 3 : Int) - 200 ≤ p0.toInt)) || !inR p1 0 2) false false = 0 → ∃ i w9 : Nat, i < cu_N u 3 ∧ cu_N u 3 ≤ i + 200 ∧ w9 ≤ 2 ∧ p0 = nI i ∧ p1 = nI w9 ∧ r = nI (cu_F u 7 (3 * (i % 200) + w9)))) (w_at (dC, dI) vwCl (wR a k) (tC k) (va_A (wR a k u) sz)) (va_A (wR a k u) sz)) 0 0 (va_A (wR a k u) sz) := by
  refine Met.ofW (cc := cX6_row) (maxL := 4) (ret := (some .int)) (by decide) rfl ?_
  intro p e s m args below meth c s₁ B hml hv
  obtain ⟨rfl, hsz, hP, hK, hD0⟩ := hv
  have hx := B.exec
  have hb := B.bytes
  have hr := B.returns
  have hts := atoms_spec (ws := wsX6_row) B.pre
  have htg : ∀ w ∈ wG, w.before _ s = true := fun w h => hts w (List.mem_cons_of_mem _ h)
  have hown : s.vm.findClass RX6 = some m.cls := findClass_of_methodNamed B.named
  have hlocks := B.notSynchronized
  subst hsz
  have hD := hD0.self (sz := s.heap.size)
  generalize hAe : va_A (wR a k u) s.heap.size = A at hD ⊢
  have hA : ∀ q : Nat, s.heap.size ≤ q → A q := fun q h => by rw [← hAe]; exact Or.inr h
  have hS : va_S A s.heap s.heap [] := va_S.rf
  have hl := lv_entry ([.ref (a 0), .int p0, .int p1]) (n := 4) (Nat.le_of_ble_eq_true rfl)
  rw [lg_entry_eq]
  generalize (lg_sl ([.ref (a 0), .int p0, .int p1]) ++ List.replicate (4 - (lg_sl ([.ref (a 0), .int p0, .int p1])).length) Slot.unset).toArray = ls at hl ⊢
  have hl : lv_has ls 4 [(0, .ref (a 0)), (1, .int p0), (2, .int p1)] := hl
  have hp0 := i32_b p0
  refine lv_iload_n hx hb dX6_row_0 rfl (lv_at hl 1 rfl) ?_
  refine lv_iconst (v := 0) hx hb dX6_row_1 (by decide) ?_
  refine lv_aload_n hx hb dX6_row_2 rfl (lv_at hl 0 rfl) ?_
  refine va_get (D := (dC, dI)) (ci := 6) (v := .int (nI (cu_N u 3))) (C := RX6) (T := TX6) (N := 20) hx hb htg inX6 hown hK hP 0 (wR_g0 a k _) rfl 18 (by decide) (htg _ q_599) (fun _ h9 => h9) rfl dX6_row_3 ?_
  refine lv_iconst (v := 1) hx hb dX6_row_6 (by decide) ?_
  refine lv_isub hx hb dX6_row_7 ?_
  refine wtopi (y := iI ((cu_N u 3 : Int) - 1)) (show nI (cu_N u 3) - 1 = iI ((cu_N u 3 : Int) - 1) from by rw [nI_iI]; exact iI_sub _ 1) ?_
  refine vp_callSi (W.runS (As := [.int p0, .int 0, .int (iI ((cu_N u 3 : Int) - 1))]) (rest := []) ⟨hx, hb, hml, hown, hts⟩ (c_X6_in l dC dI a k u p0 0 (iI ((cu_N u 3 : Int) - 1))) (cwS 3 hts (wG_S wG_c q_650 q_651 q_7 q_652) rfl rfl rfl (by decide +kernel) ⟨Nat.le_of_ble_eq_true rfl, Nat.le_of_ble_eq_true rfl⟩) (w_roS hK hP) rfl rfl hl.1 rfl (lv_room (Nat.le_of_ble_eq_true rfl)) dX6_row_8 ⟨Nat.le_of_ble_eq_true rfl, Nat.le_of_ble_eq_true rfl⟩) (fun r_1 hr_1 => ?_)
  subst hr_1
  refine wtopi (bI (isS (cu_N u 3) p0)) (congrArg bI (isS_eq (by omega) p0)) ?_
  refine bz_eq (a := (isS (cu_N u 3) p0)) (tgt := 30) hx hb dX6_row_11 (by decide) (fun c_11 => ?_) (fun c_11 => ?_)
  · refine lv_iconst (v := 0) hx hb dX6_row_30 (by decide) ?_
    refine lv_istore_n (lv' := [(3, .int 0), (0, .ref (a 0)), (1, .int p0), (2, .int p1)]) hx hb dX6_row_31 rfl hl (by decide) rfl (fun ls hl => ?_)
    refine lv_aload_n hx hb dX6_row_32 rfl (lv_at hl 1 rfl) ?_
    refine lv_iload_n hx hb dX6_row_33 rfl (lv_at hl 0 rfl) ?_
    refine lv_if_eq (tgt := 46) hx hb dX6_row_34 (by decide) (fun _ => ?_) (fun h9 => absurd h9 (by decide))
    refine lv_iconst (v := 1) hx hb dX6_row_46 (by decide) ?_
    refine lv_goto (tgt := 51) hx hb dX6_row_47 (by decide) ?_
    refine lv_iconst (v := 0) hx hb dX6_row_51 (by decide) ?_
    refine lv_iconst (v := 0) hx hb dX6_row_52 (by decide) ?_
    refine w_cali (w := wR a k) (va_runV (As := [.int 1, .int 0, .int 0]) (rest := []) ⟨hx, hb, hml, hown, hts⟩ (c_X6_throwing l dC dI a k u _ true false false) (cwV 3 hts (wG_V wG_c q_654 q_656 p_7 q_7 q_657) rfl rfl rfl (by decide +kernel) ⟨Nat.le_of_ble_eq_true rfl, Nat.le_of_ble_eq_true rfl⟩) (w_muV hK hP hD (ci := 6) (q0 := 0) rfl (wR_g0 a k _) rfl) rfl rfl hl.1 rfl (lv_room (Nat.le_of_ble_eq_true rfl)) dX6_row_53 ⟨Nat.le_of_ble_eq_true rfl, Nat.le_of_ble_eq_true rfl⟩) hD hS hA (fun r_2 u_2 H locs hq_2 hP hD hS => ?_)
    obtain ⟨er9, eu9⟩ := hq_2
    subst er9 eu9
    refine wtopi (1) rfl ?_
    refine lv_if_eq (tgt := 61) hx hb dX6_row_56 (by decide) (fun h9 => absurd h9 (by decide)) (fun _ => ?_)
    refine lv_iconst (v := 0) hx hb dX6_row_59 (by decide) ?_
    exact W.iret (v := 0) hx hb hr (fun t9 ht9 hW9 => ⟨⟨_, cs_N u 4 (m_code true false false), rfl, ⟨congrArg (cs_N u 4) (by simp [c_11]), fun h9 => absurd h9 (by simp [m_code, c_11])⟩, by rw [ht9]; exact hP, va_K.moved hW9.alike hK, hD⟩, hS.F ht9⟩) hS.2.2 dX6_row_60
  · refine lv_iload_n hx hb dX6_row_14 rfl (lv_at hl 1 rfl) ?_
    refine wtopi (y := iI p0.toInt) (iI_self p0) ?_
    refine lv_aload_n hx hb dX6_row_15 rfl (lv_at hl 0 rfl) ?_
    refine va_get (D := (dC, dI)) (ci := 6) (v := .int (nI (cu_N u 3))) (C := RX6) (T := TX6) (N := 20) hx hb htg inX6 hown hK hP 0 (wR_g0 a k _) rfl 18 (by decide) (htg _ q_599) (fun _ h9 => h9) rfl dX6_row_16 ?_
    refine lv_sipush (v := 200) hx hb dX6_row_19 (by decide) ?_
    refine lv_isub hx hb dX6_row_22 ?_
    refine wtopi (y := iI ((cu_N u 3 : Int) - 200)) (show nI (cu_N u 3) - 200 = iI ((cu_N u 3 : Int) - 200) from by rw [nI_iI]; exact iI_sub _ 200) ?_
    refine ib_lt (a := p0.toInt) (b := ((cu_N u 3 : Int) - 200)) (tgt := 30) hx hb (by omega) (by omega) (by omega) (by omega) rfl rfl dX6_row_23 (by decide) (fun c_23 => ?_) (fun c_23 => ?_)
    · have c_23 : ¬ (cu_N u 3 : Int) - 200 ≤ p0.toInt := by omega
      refine lv_iconst (v := 0) hx hb dX6_row_30 (by decide) ?_
      refine lv_istore_n (lv' := [(3, .int 0), (0, .ref (a 0)), (1, .int p0), (2, .int p1)]) hx hb dX6_row_31 rfl hl (by decide) rfl (fun ls hl => ?_)
      refine lv_aload_n hx hb dX6_row_32 rfl (lv_at hl 1 rfl) ?_
      refine lv_iload_n hx hb dX6_row_33 rfl (lv_at hl 0 rfl) ?_
      refine lv_if_eq (tgt := 46) hx hb dX6_row_34 (by decide) (fun _ => ?_) (fun h9 => absurd h9 (by decide))
      refine lv_iconst (v := 1) hx hb dX6_row_46 (by decide) ?_
      refine lv_goto (tgt := 51) hx hb dX6_row_47 (by decide) ?_
      refine lv_iconst (v := 0) hx hb dX6_row_51 (by decide) ?_
      refine lv_iconst (v := 0) hx hb dX6_row_52 (by decide) ?_
      refine w_cali (w := wR a k) (va_runV (As := [.int 1, .int 0, .int 0]) (rest := []) ⟨hx, hb, hml, hown, hts⟩ (c_X6_throwing l dC dI a k u _ true false false) (cwV 3 hts (wG_V wG_c q_654 q_656 p_7 q_7 q_657) rfl rfl rfl (by decide +kernel) ⟨Nat.le_of_ble_eq_true rfl, Nat.le_of_ble_eq_true rfl⟩) (w_muV hK hP hD (ci := 6) (q0 := 0) rfl (wR_g0 a k _) rfl) rfl rfl hl.1 rfl (lv_room (Nat.le_of_ble_eq_true rfl)) dX6_row_53 ⟨Nat.le_of_ble_eq_true rfl, Nat.le_of_ble_eq_true rfl⟩) hD hS hA (fun r_3 u_3 H locs hq_3 hP hD hS => ?_)
      obtain ⟨er9, eu9⟩ := hq_3
      subst er9 eu9
      refine wtopi (1) rfl ?_
      refine lv_if_eq (tgt := 61) hx hb dX6_row_56 (by decide) (fun h9 => absurd h9 (by decide)) (fun _ => ?_)
      refine lv_iconst (v := 0) hx hb dX6_row_59 (by decide) ?_
      exact W.iret (v := 0) hx hb hr (fun t9 ht9 hW9 => ⟨⟨_, cs_N u 4 (m_code true false false), rfl, ⟨congrArg (cs_N u 4) (by simp [c_11, c_23]), fun h9 => absurd h9 (by simp [m_code, c_11, c_23])⟩, by rw [ht9]; exact hP, va_K.moved hW9.alike hK, hD⟩, hS.F ht9⟩) hS.2.2 dX6_row_60
    · refine lv_iconst (v := 1) hx hb dX6_row_26 (by decide) ?_
      refine lv_goto (tgt := 31) hx hb dX6_row_27 (by decide) ?_
      refine lv_istore_n (lv' := [(3, .int 1), (0, .ref (a 0)), (1, .int p0), (2, .int p1)]) hx hb dX6_row_31 rfl hl (by decide) rfl (fun ls hl => ?_)
      refine lv_aload_n hx hb dX6_row_32 rfl (lv_at hl 1 rfl) ?_
      refine lv_iload_n hx hb dX6_row_33 rfl (lv_at hl 0 rfl) ?_
      refine lv_if_eq (tgt := 46) hx hb dX6_row_34 (by decide) (fun h9 => absurd h9 (by decide)) (fun _ => ?_)
      refine lv_iload_n hx hb dX6_row_37 rfl (lv_at hl 3 rfl) ?_
      refine lv_iconst (v := 0) hx hb dX6_row_38 (by decide) ?_
      refine lv_iconst (v := 2) hx hb dX6_row_39 (by decide) ?_
      refine vp_callSi (W.runS (As := [.int p1, .int 0, .int 2]) (rest := [.ref (a 0)]) ⟨hx, hb, hml, hown, hts⟩ (c_X6_in l dC dI a k u p1 0 2) (cwS 3 hts (wG_S wG_c q_650 q_651 q_7 q_652) rfl rfl rfl (by decide +kernel) ⟨Nat.le_of_ble_eq_true rfl, Nat.le_of_ble_eq_true rfl⟩) (w_roS hK hP) rfl rfl hl.1 rfl (lv_room (Nat.le_of_ble_eq_true rfl)) dX6_row_40 ⟨Nat.le_of_ble_eq_true rfl, Nat.le_of_ble_eq_true rfl⟩) (fun r_4 hr_4 => ?_)
      subst hr_4
      refine bz_ne (a := (inR p1 0 2)) (tgt := 50) hx hb dX6_row_43 (by decide) (fun c_43 => ?_) (fun c_43 => ?_)
      · refine lv_iconst (v := 0) hx hb dX6_row_50 (by decide) ?_
        refine lv_iconst (v := 0) hx hb dX6_row_51 (by decide) ?_
        refine lv_iconst (v := 0) hx hb dX6_row_52 (by decide) ?_
        refine w_cali (w := wR a k) (va_runV (As := [.int 0, .int 0, .int 0]) (rest := []) ⟨hx, hb, hml, hown, hts⟩ (c_X6_throwing l dC dI a k u _ false false false) (cwV 3 hts (wG_V wG_c q_654 q_656 p_7 q_7 q_657) rfl rfl rfl (by decide +kernel) ⟨Nat.le_of_ble_eq_true rfl, Nat.le_of_ble_eq_true rfl⟩) (w_muV hK hP hD (ci := 6) (q0 := 0) rfl (wR_g0 a k _) rfl) rfl rfl hl.1 rfl (lv_room (Nat.le_of_ble_eq_true rfl)) dX6_row_53 ⟨Nat.le_of_ble_eq_true rfl, Nat.le_of_ble_eq_true rfl⟩) hD hS hA (fun r_5 u_5 H locs hq_5 hP hD hS => ?_)
        obtain ⟨er9, eu9⟩ := hq_5
        subst er9 eu9
        refine wtopi (0) rfl ?_
        refine lv_if_eq (tgt := 61) hx hb dX6_row_56 (by decide) (fun _ => ?_) (fun h9 => absurd h9 (by decide))
        have ecd : m_code false false false = m_code (!(isS (cu_N u 3) p0 && decide ((cu_N u 3 : Int) - 200 ≤ p0.toInt)) || !inR p1 0 2) false false := by simp [c_11, c_23, c_43]
        obtain ⟨i, h_i, e_i⟩ := isS_of (n := (cu_N u 3)) (by omega) c_11
        subst e_i
        obtain ⟨w9, l_w9, h_w9, e_w9⟩ := inR_nat (l9 := 0) (h9 := 2) c_43 rfl rfl (by decide)
        subst e_w9
        have hi9 : (nI i).toInt = (i : Int) := nI_toInt (by omega)
        rw [hi9] at c_23
        have hmod : i % 200 < 200 := Nat.mod_lt _ (by decide)
        refine lv_aload_n hx hb dX6_row_61 rfl (lv_at hl 1 rfl) ?_
        refine va_get (D := (dC, dI)) (ci := 6) (v := .ref (a 8)) (C := RX6) (T := TX6) (N := 20) hx hb htg inX6 hown hK hP 0 (wR_g0 a k _) rfl 19 (by decide) (htg _ q_600) (fun _ h9 => h9) rfl dX6_row_62 ?_
        refine lv_iconst (v := 3) hx hb dX6_row_65 (by decide) ?_
        refine lv_iload_n hx hb dX6_row_66 rfl (lv_at hl 2 rfl) ?_
        refine lv_sipush (v := 200) hx hb dX6_row_67 (by decide) ?_
        refine lv_irem hx hb dX6_row_70 (by decide) ?_
        refine wtopi (y := nI (i % 200)) (irem200 (by omega)) ?_
        refine lv_imul hx hb dX6_row_71 ?_
        refine wtopi (y := nI (3 * (i % 200))) (pk_mul 3 (i % 200)) ?_
        refine lv_iload_n hx hb dX6_row_72 rfl (lv_at hl 3 rfl) ?_
        refine lv_iadd hx hb dX6_row_73 ?_
        refine wtopi (y := nI (3 * (i % 200) + w9)) (nI_add _ _) ?_
        refine va_iald hx hb hK hP 8 0 (wR_g8 a k _) rfl (vp_in_nI (n := (3 * (i % 200) + w9)) (N := 600) (show 3 * (i % 200) + w9 < 600 by omega) (by decide)) dX6_row_74 ?_
        refine wtopi (nI (cu_F (cs_N u 4 (m_code false false false)) 7 (3 * (i % 200) + w9))) (congrArg (fun j9 => nI (cu_F (cs_N u 4 (m_code false false false)) 7 j9)) (nI_clamp (n := (3 * (i % 200) + w9)) (Nat.lt_trans (m := 600) (show 3 * (i % 200) + w9 < 600 by omega) (by decide)))) ?_
        exact W.iret (v := nI (cu_F (cs_N u 4 (m_code false false false)) 7 (3 * (i % 200) + w9))) hx hb hr (fun t9 ht9 hW9 => ⟨⟨_, cs_N u 4 (m_code false false false), rfl, ⟨congrArg (cs_N u 4) ecd, fun _ => ⟨i, w9, h_i, by omega, h_w9, rfl, rfl, rfl⟩⟩, by rw [ht9]; exact hP, va_K.moved hW9.alike hK, hD⟩, hS.F ht9⟩) hS.2.2 dX6_row_75
      · refine lv_iconst (v := 1) hx hb dX6_row_46 (by decide) ?_
        refine lv_goto (tgt := 51) hx hb dX6_row_47 (by decide) ?_
        refine lv_iconst (v := 0) hx hb dX6_row_51 (by decide) ?_
        refine lv_iconst (v := 0) hx hb dX6_row_52 (by decide) ?_
        refine w_cali (w := wR a k) (va_runV (As := [.int 1, .int 0, .int 0]) (rest := []) ⟨hx, hb, hml, hown, hts⟩ (c_X6_throwing l dC dI a k u _ true false false) (cwV 3 hts (wG_V wG_c q_654 q_656 p_7 q_7 q_657) rfl rfl rfl (by decide +kernel) ⟨Nat.le_of_ble_eq_true rfl, Nat.le_of_ble_eq_true rfl⟩) (w_muV hK hP hD (ci := 6) (q0 := 0) rfl (wR_g0 a k _) rfl) rfl rfl hl.1 rfl (lv_room (Nat.le_of_ble_eq_true rfl)) dX6_row_53 ⟨Nat.le_of_ble_eq_true rfl, Nat.le_of_ble_eq_true rfl⟩) hD hS hA (fun r_6 u_6 H locs hq_6 hP hD hS => ?_)
        obtain ⟨er9, eu9⟩ := hq_6
        subst er9 eu9
        refine wtopi (1) rfl ?_
        refine lv_if_eq (tgt := 61) hx hb dX6_row_56 (by decide) (fun h9 => absurd h9 (by decide)) (fun _ => ?_)
        refine lv_iconst (v := 0) hx hb dX6_row_59 (by decide) ?_
        exact W.iret (v := 0) hx hb hr (fun t9 ht9 hW9 => ⟨⟨_, cs_N u 4 (m_code true false false), rfl, ⟨congrArg (cs_N u 4) (by simp [c_11, c_23, c_43]), fun h9 => absurd h9 (by simp [m_code, c_11, c_23, c_43])⟩, by rw [ht9]; exact hP, va_K.moved hW9.alike hK, hD⟩, hS.F ht9⟩) hS.2.2 dX6_row_60
set_option maxHeartbeats 4000000 in
set_option maxRecDepth 100000 in
theorem c_X6_count (l : Launch) (dC : Nat → ClassId) (dI : Nat → Nat → Nat) (a : Nat → Nat) (k : c_K) (u : c_St) (sz : Nat) (h : m_ok u) (p0 : Int32) : Met l yX6_count wsX6_count ({ frames := 1, cells := 0, slots := 0, locals := 23 }) (va_Pc [.ref (a 0), .int p0] (w_mu (dC, dI) vwCl (wR a k u) (tC k) sz)) (va_Qi (fun (r : Int32) (u1 : c_St) => u1 = cs_N u 4 (m_code (!inR p0 0 4) false false) ∧ (m_code (!inR p0 0 4) false false = 0 → ∃ w9 : Nat, w9 ≤ 4 ∧ p0 = nI w9 ∧ r = (if w9 = 0 then nI (cu_N u1 0) else if w9 = 1 then nI (m_th u1 (cu_N u1 0)) else if w9 = 2 then nI (cu_N u1 1) else if w9 = 3 then nI (cu_N u1 2) else nI (cu_N u1 3)))) (w_at (dC, dI) vwCl (wR a k) (tC k) (va_A (wR a k u) sz)) (va_A (wR a k u) sz)) 0 0 (va_A (wR a k u) sz) := by
  refine Met.ofW (cc := cX6_count) (maxL := 4) (ret := (some .int)) (by decide) rfl ?_
  intro p e s m args below meth c s₁ B hml hv
  obtain ⟨rfl, hsz, hP, hK, hD0⟩ := hv
  have hx := B.exec
  have hb := B.bytes
  have hr := B.returns
  have hts := atoms_spec (ws := wsX6_count) B.pre
  have htg : ∀ w ∈ wG, w.before _ s = true := fun w h => hts w (List.mem_cons_of_mem _ h)
  have hown : s.vm.findClass RX6 = some m.cls := findClass_of_methodNamed B.named
  have hlocks := B.notSynchronized
  subst hsz
  have hD := hD0.self (sz := s.heap.size)
  generalize hAe : va_A (wR a k u) s.heap.size = A at hD ⊢
  have hA : ∀ q : Nat, s.heap.size ≤ q → A q := fun q h => by rw [← hAe]; exact Or.inr h
  have hS : va_S A s.heap s.heap [] := va_S.rf
  have hl := lv_entry ([.ref (a 0), .int p0]) (n := 4) (Nat.le_of_ble_eq_true rfl)
  rw [lg_entry_eq]
  generalize (lg_sl ([.ref (a 0), .int p0]) ++ List.replicate (4 - (lg_sl ([.ref (a 0), .int p0])).length) Slot.unset).toArray = ls at hl ⊢
  have hl : lv_has ls 4 [(0, .ref (a 0)), (1, .int p0)] := hl
  refine lv_aload_n hx hb dX6_count_0 rfl (lv_at hl 0 rfl) ?_
  refine lv_iload_n hx hb dX6_count_1 rfl (lv_at hl 1 rfl) ?_
  refine lv_iconst (v := 0) hx hb dX6_count_2 (by decide) ?_
  refine lv_iconst (v := 4) hx hb dX6_count_3 (by decide) ?_
  refine vp_callSi (W.runS (As := [.int p0, .int 0, .int 4]) (rest := [.ref (a 0)]) ⟨hx, hb, hml, hown, hts⟩ (c_X6_in l dC dI a k u p0 0 4) (cwS 3 hts (wG_S wG_c q_650 q_651 q_7 q_652) rfl rfl rfl (by decide +kernel) ⟨Nat.le_of_ble_eq_true rfl, Nat.le_of_ble_eq_true rfl⟩) (w_roS hK hP) rfl rfl hl.1 rfl (lv_room (Nat.le_of_ble_eq_true rfl)) dX6_count_4 ⟨Nat.le_of_ble_eq_true rfl, Nat.le_of_ble_eq_true rfl⟩) (fun r_1 hr_1 => ?_)
  subst hr_1
  refine bz_ne (a := (inR p0 0 4)) (tgt := 14) hx hb dX6_count_7 (by decide) (fun c_7 => ?_) (fun c_7 => ?_)
  · refine lv_iconst (v := 0) hx hb dX6_count_14 (by decide) ?_
    refine lv_iconst (v := 0) hx hb dX6_count_15 (by decide) ?_
    refine lv_iconst (v := 0) hx hb dX6_count_16 (by decide) ?_
    refine w_cali (w := wR a k) (va_runV (As := [.int 0, .int 0, .int 0]) (rest := []) ⟨hx, hb, hml, hown, hts⟩ (c_X6_throwing l dC dI a k u _ false false false) (cwV 3 hts (wG_V wG_c q_654 q_656 p_7 q_7 q_657) rfl rfl rfl (by decide +kernel) ⟨Nat.le_of_ble_eq_true rfl, Nat.le_of_ble_eq_true rfl⟩) (w_muV hK hP hD (ci := 6) (q0 := 0) rfl (wR_g0 a k _) rfl) rfl rfl hl.1 rfl (lv_room (Nat.le_of_ble_eq_true rfl)) dX6_count_17 ⟨Nat.le_of_ble_eq_true rfl, Nat.le_of_ble_eq_true rfl⟩) hD hS hA (fun r_2 u_2 H locs hq_2 hP hD hS => ?_)
    obtain ⟨er9, eu9⟩ := hq_2
    subst er9 eu9
    refine wtopi (0) rfl ?_
    refine lv_if_eq (tgt := 25) hx hb dX6_count_20 (by decide) (fun _ => ?_) (fun h9 => absurd h9 (by decide))
    have ecd : m_code false false false = m_code (!inR p0 0 4) false false := by simp [c_7]
    obtain ⟨w9, l_w9, h_w9, e_w9⟩ := inR_nat (l9 := 0) (h9 := 4) c_7 rfl rfl (by decide)
    subst e_w9
    obtain ⟨v, ev⟩ : ∃ v, v = cs_N u 4 (m_code false false false) := ⟨_, rfl⟩
    rw [← ev] at hP hD
    have hv : m_ok v := by rw [ev]; exact h
    have evN : ∀ k, k ≠ 4 → cu_N v k = cu_N u k := fun k hk => by rw [ev, cx_NN, if_neg hk]
    have evF : cu_F v = cu_F u := by rw [ev]; rfl
    have evB : cu_B v = cu_B u := by rw [ev]; rfl
    have evG : cu_G v = cu_G u := by rw [ev]; rfl
    have evD : cu_D v = cu_D u := by rw [ev]; rfl
    have v0 := evN 0 (by decide)
    have v1 := evN 1 (by decide)
    have v2 := evN 2 (by decide)
    have v3 := evN 3 (by decide)
    have hv0 := hv.1
    refine lv_iconst (v := 0) hx hb dX6_count_25 (by decide) ?_
    refine lv_istore_n (lv' := [(2, .int 0), (0, .ref (a 0)), (1, .int (nI w9))]) hx hb dX6_count_26 rfl hl (by decide) rfl (fun ls hl => ?_)
    refine lv_iconst (v := 0) hx hb dX6_count_27 (by decide) ?_
    refine lv_istore_n (lv' := [(3, .int 0), (2, .int 0), (0, .ref (a 0)), (1, .int (nI w9))]) hx hb dX6_count_28 rfl hl (by decide) rfl (fun ls hl => ?_)
    refine w_loop (fun j : Nat => cu_N v 0 - j) (fun j ls => j ≤ cu_N v 0 ∧ lv_has ls 4 [(0, .ref (a 0)), (1, .int (nI w9)), (2, .int (nI (m_th v j))), (3, .int (nI j))]) ?_ (0) ls ⟨Nat.zero_le _, lv_sub hl [2, 3, 1, 0] rfl⟩
    clear hl
    intro j ls hI ih
    obtain ⟨hI, hl⟩ := hI
    refine lv_iload_n hx hb dX6_count_29 rfl (lv_at hl 3 rfl) ?_
    refine lv_aload_n hx hb dX6_count_30 rfl (lv_at hl 0 rfl) ?_
    refine va_get (D := (dC, dI)) (ci := 6) (v := .int (nI (cu_N v 0))) (C := RX6) (T := TX6) (N := 20) hx hb htg inX6 hown hK hP 0 (wR_g0 a k _) rfl 1 (by decide) (htg _ q_582) (fun _ h9 => h9) rfl dX6_count_31 ?_
    refine nb_ge (a := j) (b := (cu_N v 0)) (tgt := 60) hx hb (by omega) (by omega) rfl rfl dX6_count_34 (by decide) (fun c_34 => ?_) (fun c_34 => ?_)
    · refine lv_iload_n hx hb dX6_count_60 rfl (lv_at hl 1 rfl) ?_
      refine iz_ne (a := ((w9 : Nat) : Int)) (tgt := 71) hx hb (by omega) (by omega) (nI_iI _) dX6_count_61 (by decide) (fun c_61 => ?_) (fun c_61 => ?_)
      · have c_61 : w9 ≠ 0 := by omega
        refine lv_iload_n hx hb dX6_count_71 rfl (lv_at hl 1 rfl) ?_
        refine lv_iconst (v := 1) hx hb dX6_count_72 (by decide) ?_
        refine nb_ne (a := w9) (b := 1) (tgt := 80) hx hb (by omega) (by omega) rfl rfl dX6_count_73 (by decide) (fun c_73 => ?_) (fun c_73 => ?_)
        · refine lv_iload_n hx hb dX6_count_80 rfl (lv_at hl 1 rfl) ?_
          refine lv_iconst (v := 2) hx hb dX6_count_81 (by decide) ?_
          refine nb_ne (a := w9) (b := 2) (tgt := 92) hx hb (by omega) (by omega) rfl rfl dX6_count_82 (by decide) (fun c_82 => ?_) (fun c_82 => ?_)
          · refine lv_iload_n hx hb dX6_count_92 rfl (lv_at hl 1 rfl) ?_
            refine lv_iconst (v := 3) hx hb dX6_count_93 (by decide) ?_
            refine nb_ne (a := w9) (b := 3) (tgt := 104) hx hb (by omega) (by omega) rfl rfl dX6_count_94 (by decide) (fun c_94 => ?_) (fun c_94 => ?_)
            · refine lv_aload_n hx hb dX6_count_104 rfl (lv_at hl 0 rfl) ?_
              refine va_get (D := (dC, dI)) (ci := 6) (v := .int (nI (cu_N v 3))) (C := RX6) (T := TX6) (N := 20) hx hb htg inX6 hown hK hP 0 (wR_g0 a k _) rfl 18 (by decide) (htg _ q_599) (fun _ h9 => h9) rfl dX6_count_105 ?_
              exact W.iret (v := nI (cu_N v 3)) hx hb hr (fun t9 ht9 hW9 => ⟨⟨_, v, rfl, ⟨by rw [ev]; exact congrArg (cs_N u 4) ecd, fun _ => ⟨w9, h_w9, rfl, by rw [if_neg c_61, if_neg c_73, if_neg c_82, if_neg c_94]⟩⟩, by rw [ht9]; exact hP, va_K.moved hW9.alike hK, hD⟩, hS.F ht9⟩) hS.2.2 dX6_count_108
            · refine lv_aload_n hx hb dX6_count_97 rfl (lv_at hl 0 rfl) ?_
              refine va_get (D := (dC, dI)) (ci := 6) (v := .int (nI (cu_N v 2))) (C := RX6) (T := TX6) (N := 20) hx hb htg inX6 hown hK hP 0 (wR_g0 a k _) rfl 15 (by decide) (htg _ q_596) (fun _ h9 => h9) rfl dX6_count_98 ?_
              refine lv_goto (tgt := 108) hx hb dX6_count_101 (by decide) ?_
              exact W.iret (v := nI (cu_N v 2)) hx hb hr (fun t9 ht9 hW9 => ⟨⟨_, v, rfl, ⟨by rw [ev]; exact congrArg (cs_N u 4) ecd, fun _ => ⟨w9, h_w9, rfl, by rw [if_neg c_61, if_neg c_73, if_neg c_82, if_pos c_94]⟩⟩, by rw [ht9]; exact hP, va_K.moved hW9.alike hK, hD⟩, hS.F ht9⟩) hS.2.2 dX6_count_108
          · refine lv_aload_n hx hb dX6_count_85 rfl (lv_at hl 0 rfl) ?_
            refine va_get (D := (dC, dI)) (ci := 6) (v := .int (nI (cu_N v 1))) (C := RX6) (T := TX6) (N := 20) hx hb htg inX6 hown hK hP 0 (wR_g0 a k _) rfl 10 (by decide) (htg _ q_591) (fun _ h9 => h9) rfl dX6_count_86 ?_
            refine lv_goto (tgt := 108) hx hb dX6_count_89 (by decide) ?_
            exact W.iret (v := nI (cu_N v 1)) hx hb hr (fun t9 ht9 hW9 => ⟨⟨_, v, rfl, ⟨by rw [ev]; exact congrArg (cs_N u 4) ecd, fun _ => ⟨w9, h_w9, rfl, by rw [if_neg c_61, if_neg c_73, if_pos c_82]⟩⟩, by rw [ht9]; exact hP, va_K.moved hW9.alike hK, hD⟩, hS.F ht9⟩) hS.2.2 dX6_count_108
        · refine lv_iload_n hx hb dX6_count_76 rfl (lv_at hl 2 rfl) ?_
          refine lv_goto (tgt := 108) hx hb dX6_count_77 (by decide) ?_
          exact W.iret (v := nI (m_th v j)) hx hb hr (fun t9 ht9 hW9 => ⟨⟨_, v, rfl, ⟨by rw [ev]; exact congrArg (cs_N u 4) ecd, fun _ => ⟨w9, h_w9, rfl, by rw [if_neg c_61, if_pos c_73, show cu_N v 0 = j by omega]⟩⟩, by rw [ht9]; exact hP, va_K.moved hW9.alike hK, hD⟩, hS.F ht9⟩) hS.2.2 dX6_count_108
      · have c_61 : w9 = 0 := by omega
        refine lv_aload_n hx hb dX6_count_64 rfl (lv_at hl 0 rfl) ?_
        refine va_get (D := (dC, dI)) (ci := 6) (v := .int (nI (cu_N v 0))) (C := RX6) (T := TX6) (N := 20) hx hb htg inX6 hown hK hP 0 (wR_g0 a k _) rfl 1 (by decide) (htg _ q_582) (fun _ h9 => h9) rfl dX6_count_65 ?_
        refine lv_goto (tgt := 108) hx hb dX6_count_68 (by decide) ?_
        exact W.iret (v := nI (cu_N v 0)) hx hb hr (fun t9 ht9 hW9 => ⟨⟨_, v, rfl, ⟨by rw [ev]; exact congrArg (cs_N u 4) ecd, fun _ => ⟨w9, h_w9, rfl, by rw [if_pos c_61]⟩⟩, by rw [ht9]; exact hP, va_K.moved hW9.alike hK, hD⟩, hS.F ht9⟩) hS.2.2 dX6_count_108
    · refine lv_iload_n hx hb dX6_count_37 rfl (lv_at hl 2 rfl) ?_
      refine lv_aload_n hx hb dX6_count_38 rfl (lv_at hl 0 rfl) ?_
      refine va_get (D := (dC, dI)) (ci := 6) (v := .ref (a 9)) (C := RX6) (T := TX6) (N := 20) hx hb htg inX6 hown hK hP 0 (wR_g0 a k _) rfl 9 (by decide) (htg _ q_590) (fun _ h9 => h9) rfl dX6_count_39 ?_
      refine lv_iload_n hx hb dX6_count_42 rfl (lv_at hl 3 rfl) ?_
      refine va_zald hx hb hK hP 9 2 (wR_g9 a k _) rfl (vp_in_nI (n := j) (N := 200) (by omega) (by decide)) dX6_count_43 ?_
      refine wtopi (bI (cu_B v 0 j)) (congrArg (fun j9 => bI (cu_B v 0 j9)) (nI_clamp (n := j) (Nat.lt_trans (m := 200) (by omega) (by decide)))) ?_
      refine bz_eq (a := (cu_B v 0 j)) (tgt := 51) hx hb dX6_count_44 (by decide) (fun c_44 => ?_) (fun c_44 => ?_)
      · refine lv_iconst (v := 1) hx hb dX6_count_51 (by decide) ?_
        refine lv_iadd hx hb dX6_count_52 ?_
        refine wtopi (y := nI (m_th v (j + 1))) (m_th_f c_44) ?_
        refine lv_istore_n (lv' := [(2, .int (nI (m_th v (j + 1)))), (0, .ref (a 0)), (1, .int (nI w9)), (3, .int (nI j))]) hx hb dX6_count_53 rfl hl (by decide) rfl (fun ls hl => ?_)
        refine lv_iinc (v := nI (j + 1)) (lv' := [(3, .int (nI (j + 1))), (2, .int (nI (m_th v (j + 1)))), (0, .ref (a 0)), (1, .int (nI w9))]) hx hb dX6_count_54 hl (k := 3) rfl (nI_1 j) (by decide) rfl (fun ls hl => ?_)
        refine lv_goto (tgt := 29) hx hb dX6_count_57 (by decide) ?_
        exact ih (j + 1) ls (by omega) ⟨by omega, lv_sub hl [2, 3, 1, 0] rfl⟩
      · refine lv_iconst (v := 0) hx hb dX6_count_47 (by decide) ?_
        refine lv_goto (tgt := 52) hx hb dX6_count_48 (by decide) ?_
        refine lv_iadd hx hb dX6_count_52 ?_
        refine wtopi (y := nI (m_th v (j + 1))) (m_th_t c_44) ?_
        refine lv_istore_n (lv' := [(2, .int (nI (m_th v (j + 1)))), (0, .ref (a 0)), (1, .int (nI w9)), (3, .int (nI j))]) hx hb dX6_count_53 rfl hl (by decide) rfl (fun ls hl => ?_)
        refine lv_iinc (v := nI (j + 1)) (lv' := [(3, .int (nI (j + 1))), (2, .int (nI (m_th v (j + 1)))), (0, .ref (a 0)), (1, .int (nI w9))]) hx hb dX6_count_54 hl (k := 3) rfl (nI_1 j) (by decide) rfl (fun ls hl => ?_)
        refine lv_goto (tgt := 29) hx hb dX6_count_57 (by decide) ?_
        exact ih (j + 1) ls (by omega) ⟨by omega, lv_sub hl [2, 3, 1, 0] rfl⟩
  · refine lv_iconst (v := 1) hx hb dX6_count_10 (by decide) ?_
    refine lv_goto (tgt := 15) hx hb dX6_count_11 (by decide) ?_
    refine lv_iconst (v := 0) hx hb dX6_count_15 (by decide) ?_
    refine lv_iconst (v := 0) hx hb dX6_count_16 (by decide) ?_
    refine w_cali (w := wR a k) (va_runV (As := [.int 1, .int 0, .int 0]) (rest := []) ⟨hx, hb, hml, hown, hts⟩ (c_X6_throwing l dC dI a k u _ true false false) (cwV 3 hts (wG_V wG_c q_654 q_656 p_7 q_7 q_657) rfl rfl rfl (by decide +kernel) ⟨Nat.le_of_ble_eq_true rfl, Nat.le_of_ble_eq_true rfl⟩) (w_muV hK hP hD (ci := 6) (q0 := 0) rfl (wR_g0 a k _) rfl) rfl rfl hl.1 rfl (lv_room (Nat.le_of_ble_eq_true rfl)) dX6_count_17 ⟨Nat.le_of_ble_eq_true rfl, Nat.le_of_ble_eq_true rfl⟩) hD hS hA (fun r_3 u_3 H locs hq_3 hP hD hS => ?_)
    obtain ⟨er9, eu9⟩ := hq_3
    subst er9 eu9
    refine wtopi (1) rfl ?_
    refine lv_if_eq (tgt := 25) hx hb dX6_count_20 (by decide) (fun h9 => absurd h9 (by decide)) (fun _ => ?_)
    refine lv_iconst (v := 0) hx hb dX6_count_23 (by decide) ?_
    exact W.iret (v := 0) hx hb hr (fun t9 ht9 hW9 => ⟨⟨_, cs_N u 4 (m_code true false false), rfl, ⟨congrArg (cs_N u 4) (by simp [c_7]), fun h9 => absurd h9 (by simp [m_code, c_7])⟩, by rw [ht9]; exact hP, va_K.moved hW9.alike hK, hD⟩, hS.F ht9⟩) hS.2.2 dX6_count_24
def m_told (u : c_St) (ps n : Nat) (may : Bool) : c_St := cs_N (cs_F (cs_F (cs_F u 7 (3 * (cu_N u 3 % 200)) ps) 7 (3 * (cu_N u 3 % 200) + 1) n) 7 (3 * (cu_N u 3 % 200) + 2) (if may = true then 1 else 0)) 3 (cu_N u 3 + 1)
set_option maxHeartbeats 4000000 in
set_option maxRecDepth 100000 in
theorem c_X6_listen (l : Launch) (dC : Nat → ClassId) (dI : Nat → Nat → Nat) (a : Nat → Nat) (k : c_K) (u : c_St) (sz : Nat) (h : m_ok u) (hR : cu_N u 3 ≤ 600) (p0 p1 : Int32) : Met l yX6_listen wsX6_listen ({ frames := 2, cells := 0, slots := 0, locals := 45 }) (va_Pc [.ref (a 0), .int p0, .int p1] (w_mu (dC, dI) vwCl (wR a k u) (tC k) sz)) (va_Qi (fun (r : Int32) (u1 : c_St) => ((!inR p0 0 19 || !isS (cu_N u 0) p1) = true → u1 = cs_N u 4 1) ∧ ((!inR p0 0 19 || !isS (cu_N u 0) p1) = false → ∃ ps n : Nat, ps ≤ 19 ∧ n < cu_N u 0 ∧ p0 = nI ps ∧ p1 = nI n ∧ ∃ may : Bool, may = (!cu_B u 0 n && cu_B u 2 (50 * ps + cu_F u 4 n)) ∧ u1 = cs_N (m_told u ps n may) 4 (if may = true then 0 else 2) ∧ (may = true → r = m_sm (fun i => cu_G u 2 (8 * n + i)) 0 (cu_F u 2 n)))) (w_at (dC, dI) vwCl (wR a k) (tC k) (va_A (wR a k u) sz)) (va_A (wR a k u) sz)) 0 0 (va_A (wR a k u) sz) := by
  refine Met.ofW (cc := cX6_listen) (maxL := 5) (ret := (some .int)) (by decide) rfl ?_
  intro p e s m args below meth c s₁ B hml hv
  obtain ⟨rfl, hsz, hP, hK, hD0⟩ := hv
  have hx := B.exec
  have hb := B.bytes
  have hr := B.returns
  have hts := atoms_spec (ws := wsX6_listen) B.pre
  have htg : ∀ w ∈ wG, w.before _ s = true := fun w h => hts w (List.mem_cons_of_mem _ h)
  have hown : s.vm.findClass RX6 = some m.cls := findClass_of_methodNamed B.named
  have hlocks := B.notSynchronized
  subst hsz
  have hD := hD0.self (sz := s.heap.size)
  generalize hAe : va_A (wR a k u) s.heap.size = A at hD ⊢
  have hA : ∀ q : Nat, s.heap.size ≤ q → A q := fun q h => by rw [← hAe]; exact Or.inr h
  have hS : va_S A s.heap s.heap [] := va_S.rf
  have hl := lv_entry ([.ref (a 0), .int p0, .int p1]) (n := 5) (Nat.le_of_ble_eq_true rfl)
  rw [lg_entry_eq]
  generalize (lg_sl ([.ref (a 0), .int p0, .int p1]) ++ List.replicate (5 - (lg_sl ([.ref (a 0), .int p0, .int p1])).length) Slot.unset).toArray = ls at hl ⊢
  have hl : lv_has ls 5 [(0, .ref (a 0)), (1, .int p0), (2, .int p1)] := hl
  have h20 := h.1
  refine lv_iload_n hx hb dX6_listen_0 rfl (lv_at hl 1 rfl) ?_
  refine lv_iconst (v := 0) hx hb dX6_listen_1 (by decide) ?_
  refine lv_bipush (v := 19) hx hb dX6_listen_2 (by decide) ?_
  refine vp_callSi (W.runS (As := [.int p0, .int 0, .int 19]) (rest := []) ⟨hx, hb, hml, hown, hts⟩ (c_X6_in l dC dI a k u p0 0 19) (cwS 3 hts (wG_S wG_c q_650 q_651 q_7 q_652) rfl rfl rfl (by decide +kernel) ⟨Nat.le_of_ble_eq_true rfl, Nat.le_of_ble_eq_true rfl⟩) (w_roS hK hP) rfl rfl hl.1 rfl (lv_room (Nat.le_of_ble_eq_true rfl)) dX6_listen_4 ⟨Nat.le_of_ble_eq_true rfl, Nat.le_of_ble_eq_true rfl⟩) (fun r_1 hr_1 => ?_)
  subst hr_1
  refine bz_eq (a := (inR p0 0 19)) (tgt := 18) hx hb dX6_listen_7 (by decide) (fun c_7 => ?_) (fun c_7 => ?_)
  · refine lv_iconst (v := 1) hx hb dX6_listen_18 (by decide) ?_
    refine lv_goto (tgt := 23) hx hb dX6_listen_19 (by decide) ?_
    refine lv_istore_n (lv' := [(3, .int 1), (0, .ref (a 0)), (1, .int p0), (2, .int p1)]) hx hb dX6_listen_23 rfl hl (by decide) rfl (fun ls hl => ?_)
    refine lv_iload_n hx hb dX6_listen_24 rfl (lv_at hl 0 rfl) ?_
    refine lv_if_ne (tgt := 60) hx hb dX6_listen_25 (by decide) (fun _ => ?_) (fun h9 => absurd h9 (by decide))
    refine lv_iconst (v := 0) hx hb dX6_listen_60 (by decide) ?_
    refine lv_istore (lv' := [(4, .int 0), (3, .int 1), (0, .ref (a 0)), (1, .int p0), (2, .int p1)]) hx hb dX6_listen_61 hl (by decide) rfl (fun ls hl => ?_)
    refine lv_iload_n hx hb dX6_listen_63 rfl (lv_at hl 1 rfl) ?_
    refine lv_if_ne (tgt := 138) hx hb dX6_listen_64 (by decide) (fun _ => ?_) (fun h9 => absurd h9 (by decide))
    refine lv_aload_n hx hb dX6_listen_138 rfl (lv_at hl 2 rfl) ?_
    refine lv_iload_n hx hb dX6_listen_139 rfl (lv_at hl 1 rfl) ?_
    refine lv_iload hx hb dX6_listen_140 (lv_at hl 0 rfl) ?_
    refine lv_if_ne (tgt := 149) hx hb dX6_listen_142 (by decide) (fun h9 => absurd h9 (by decide)) (fun _ => ?_)
    refine lv_iconst (v := 1) hx hb dX6_listen_145 (by decide) ?_
    refine lv_goto (tgt := 150) hx hb dX6_listen_146 (by decide) ?_
    refine lv_iconst (v := 0) hx hb dX6_listen_150 (by decide) ?_
    refine w_cali (w := wR a k) (va_runV (As := [.int 1, .int 1, .int 0]) (rest := []) ⟨hx, hb, hml, hown, hts⟩ (c_X6_throwing l dC dI a k u _ true true false) (cwV 3 hts (wG_V wG_c q_654 q_656 p_7 q_7 q_657) rfl rfl rfl (by decide +kernel) ⟨Nat.le_of_ble_eq_true rfl, Nat.le_of_ble_eq_true rfl⟩) (w_muV hK hP hD (ci := 6) (q0 := 0) rfl (wR_g0 a k _) rfl) rfl rfl hl.1 rfl (lv_room (Nat.le_of_ble_eq_true rfl)) dX6_listen_151 ⟨Nat.le_of_ble_eq_true rfl, Nat.le_of_ble_eq_true rfl⟩) hD hS hA (fun r_2 u_2 H locs hq_2 hP hD hS => ?_)
    obtain ⟨er9, eu9⟩ := hq_2
    subst er9 eu9
    refine wtopi (1) rfl ?_
    refine lv_if_eq (tgt := 159) hx hb dX6_listen_154 (by decide) (fun h9 => absurd h9 (by decide)) (fun _ => ?_)
    refine lv_iconst (v := 0) hx hb dX6_listen_157 (by decide) ?_
    exact W.iret (v := 0) hx hb hr (fun t9 ht9 hW9 => ⟨⟨_, cs_N u 4 (m_code true true false), rfl, ⟨fun _ => rfl, fun h9 => absurd h9 (by simp [c_7])⟩, by rw [ht9]; exact hP, va_K.moved hW9.alike hK, hD⟩, hS.F ht9⟩) hS.2.2 dX6_listen_158
  · refine lv_aload_n hx hb dX6_listen_10 rfl (lv_at hl 0 rfl) ?_
    refine lv_iload_n hx hb dX6_listen_11 rfl (lv_at hl 2 rfl) ?_
    refine vp_callSi (W.runV (As := [.int p1]) (rest := []) ⟨hx, hb, hml, hown, hts⟩ (c_X6_isSlot l dC dI a k u h20 p1) (cwV 1 hts (wG_V wG_c q_714 q_716 p_16 q_7 q_717) rfl rfl rfl (by decide +kernel) ⟨Nat.le_of_ble_eq_true rfl, Nat.le_of_ble_eq_true rfl⟩) (w_roV hK hP (ci := 6) (q0 := 0) rfl (wR_g0 a k _) rfl) rfl rfl hl.1 rfl (lv_room (Nat.le_of_ble_eq_true rfl)) dX6_listen_12 ⟨Nat.le_of_ble_eq_true rfl, Nat.le_of_ble_eq_true rfl⟩) (fun r_3 hr_3 => ?_)
    subst hr_3
    refine bz_ne (a := (isS (cu_N u 0) p1)) (tgt := 22) hx hb dX6_listen_15 (by decide) (fun c_15 => ?_) (fun c_15 => ?_)
    · have eb : (!inR p0 0 19 || !isS (cu_N u 0) p1) = false := by simp [c_7, c_15]
      obtain ⟨ps, l_ps, h_ps, e_ps⟩ := inR_nat (l9 := 0) (h9 := 19) c_7 rfl rfl (by decide)
      subst e_ps
      obtain ⟨n, h_n, e_n⟩ := isS_of (n := (cu_N u 0)) (by omega) c_15
      subst e_n
      have hn2 := h.2.2.1 n h_n
      have hmod : cu_N u 3 % 200 < 200 := Nat.mod_lt _ (by decide)
      refine lv_iconst (v := 0) hx hb dX6_listen_22 (by decide) ?_
      refine lv_istore_n (lv' := [(3, .int 0), (0, .ref (a 0)), (1, .int (nI ps)), (2, .int (nI n))]) hx hb dX6_listen_23 rfl hl (by decide) rfl (fun ls hl => ?_)
      refine lv_iload_n hx hb dX6_listen_24 rfl (lv_at hl 0 rfl) ?_
      refine lv_if_ne (tgt := 60) hx hb dX6_listen_25 (by decide) (fun h9 => absurd h9 (by decide)) (fun _ => ?_)
      refine lv_aload_n hx hb dX6_listen_28 rfl (lv_at hl 1 rfl) ?_
      refine va_get (D := (dC, dI)) (ci := 6) (v := .ref (a 9)) (C := RX6) (T := TX6) (N := 20) hx hb htg inX6 hown hK hP 0 (wR_g0 a k _) rfl 9 (by decide) (htg _ q_590) (fun _ h9 => h9) rfl dX6_listen_29 ?_
      refine lv_iload_n hx hb dX6_listen_32 rfl (lv_at hl 3 rfl) ?_
      refine va_zald hx hb hK hP 9 2 (wR_g9 a k _) rfl (vp_in_nI (n := n) (N := 200) (show n < 200 by omega) (by decide)) dX6_listen_33 ?_
      refine wtopi (bI (cu_B u 0 n)) (congrArg (fun j9 => bI (cu_B u 0 j9)) (nI_clamp (n := n) (Nat.lt_trans (m := 200) (show n < 200 by omega) (by decide)))) ?_
      refine bz_ne (a := (cu_B u 0 n)) (tgt := 60) hx hb dX6_listen_34 (by decide) (fun c_34 => ?_) (fun c_34 => ?_)
      · refine lv_iconst (v := 0) hx hb dX6_listen_60 (by decide) ?_
        refine lv_istore (lv' := [(4, .int 0), (3, .int 0), (0, .ref (a 0)), (1, .int (nI ps)), (2, .int (nI n))]) hx hb dX6_listen_61 hl (by decide) rfl (fun ls hl => ?_)
        refine lv_iload_n hx hb dX6_listen_63 rfl (lv_at hl 1 rfl) ?_
        refine lv_if_ne (tgt := 138) hx hb dX6_listen_64 (by decide) (fun h9 => absurd h9 (by decide)) (fun _ => ?_)
        refine lv_aload_n hx hb dX6_listen_67 rfl (lv_at hl 2 rfl) ?_
        refine va_get (D := (dC, dI)) (ci := 6) (v := .ref (a 8)) (C := RX6) (T := TX6) (N := 20) hx hb htg inX6 hown hK hP 0 (wR_g0 a k _) rfl 19 (by decide) (htg _ q_600) (fun _ h9 => h9) rfl dX6_listen_68 ?_
        refine lv_iconst (v := 3) hx hb dX6_listen_71 (by decide) ?_
        refine lv_aload_n hx hb dX6_listen_72 rfl (lv_at hl 2 rfl) ?_
        refine va_get (D := (dC, dI)) (ci := 6) (v := .int (nI (cu_N u 3))) (C := RX6) (T := TX6) (N := 20) hx hb htg inX6 hown hK hP 0 (wR_g0 a k _) rfl 18 (by decide) (htg _ q_599) (fun _ h9 => h9) rfl dX6_listen_73 ?_
        refine wtopi (y := nI (cu_N u 3)) rfl ?_
        refine lv_sipush (v := 200) hx hb dX6_listen_76 (by decide) ?_
        refine lv_irem hx hb dX6_listen_79 (by decide) ?_
        refine wtopi (y := nI (cu_N u 3 % 200)) (irem200 (by omega)) ?_
        refine lv_imul hx hb dX6_listen_80 ?_
        refine wtopi (y := nI (3 * (cu_N u 3 % 200))) (pk_mul 3 (cu_N u 3 % 200)) ?_
        refine lv_iload_n hx hb dX6_listen_81 rfl (lv_at hl 3 rfl) ?_
        refine va_iast hx hb hK hP hD hS 8 0 (wR_g8 a k _) rfl (vp_in_nI (n := (3 * (cu_N u 3 % 200))) (N := 600) (show 3 * (cu_N u 3 % 200) < 600 by omega) (by decide)) dX6_listen_82 (fun H locs hP hD hS => ?_)
        have hP := w_pE (wR_s8 a k _ (3 * (cu_N u 3 % 200)) ps (Nat.lt_trans (m := 600) (show 3 * (cu_N u 3 % 200) < 600 by omega) (by decide))) hP
        have hD := w_dE (wR_s8 a k _ (3 * (cu_N u 3 % 200)) ps (Nat.lt_trans (m := 600) (show 3 * (cu_N u 3 % 200) < 600 by omega) (by decide))) hD
        refine lv_aload_n hx hb dX6_listen_83 rfl (lv_at hl 2 rfl) ?_
        refine va_get (D := (dC, dI)) (ci := 6) (v := .ref (a 8)) (C := RX6) (T := TX6) (N := 20) hx hb htg inX6 hown hK hP 0 (wR_g0 a k _) rfl 19 (by decide) (htg _ q_600) (fun _ h9 => h9) rfl dX6_listen_84 ?_
        refine lv_iconst (v := 3) hx hb dX6_listen_87 (by decide) ?_
        refine lv_aload_n hx hb dX6_listen_88 rfl (lv_at hl 2 rfl) ?_
        refine va_get (D := (dC, dI)) (ci := 6) (v := .int (nI (cu_N (cs_F u 7 (3 * (cu_N u 3 % 200)) ps) 3))) (C := RX6) (T := TX6) (N := 20) hx hb htg inX6 hown hK hP 0 (wR_g0 a k _) rfl 18 (by decide) (htg _ q_599) (fun _ h9 => h9) rfl dX6_listen_89 ?_
        refine wtopi (y := nI (cu_N u 3)) rfl ?_
        refine lv_sipush (v := 200) hx hb dX6_listen_92 (by decide) ?_
        refine lv_irem hx hb dX6_listen_95 (by decide) ?_
        refine wtopi (y := nI (cu_N u 3 % 200)) (irem200 (by omega)) ?_
        refine lv_imul hx hb dX6_listen_96 ?_
        refine wtopi (y := nI (3 * (cu_N u 3 % 200))) (pk_mul 3 (cu_N u 3 % 200)) ?_
        refine lv_iconst (v := 1) hx hb dX6_listen_97 (by decide) ?_
        refine lv_iadd hx hb dX6_listen_98 ?_
        refine wtopi (y := nI (3 * (cu_N u 3 % 200) + 1)) (nI_add _ 1) ?_
        refine lv_iload_n hx hb dX6_listen_99 rfl (lv_at hl 4 rfl) ?_
        refine va_iast hx hb hK hP hD hS 8 0 (wR_g8 a k _) rfl (vp_in_nI (n := (3 * (cu_N u 3 % 200) + 1)) (N := 600) (show 3 * (cu_N u 3 % 200) + 1 < 600 by omega) (by decide)) dX6_listen_100 (fun H locs hP hD hS => ?_)
        have hP := w_pE (wR_s8 a k _ (3 * (cu_N u 3 % 200) + 1) n (Nat.lt_trans (m := 600) (show 3 * (cu_N u 3 % 200) + 1 < 600 by omega) (by decide))) hP
        have hD := w_dE (wR_s8 a k _ (3 * (cu_N u 3 % 200) + 1) n (Nat.lt_trans (m := 600) (show 3 * (cu_N u 3 % 200) + 1 < 600 by omega) (by decide))) hD
        refine lv_aload_n hx hb dX6_listen_101 rfl (lv_at hl 2 rfl) ?_
        refine va_get (D := (dC, dI)) (ci := 6) (v := .ref (a 8)) (C := RX6) (T := TX6) (N := 20) hx hb htg inX6 hown hK hP 0 (wR_g0 a k _) rfl 19 (by decide) (htg _ q_600) (fun _ h9 => h9) rfl dX6_listen_102 ?_
        refine lv_iconst (v := 3) hx hb dX6_listen_105 (by decide) ?_
        refine lv_aload_n hx hb dX6_listen_106 rfl (lv_at hl 2 rfl) ?_
        refine va_get (D := (dC, dI)) (ci := 6) (v := .int (nI (cu_N (cs_F (cs_F u 7 (3 * (cu_N u 3 % 200)) ps) 7 (3 * (cu_N u 3 % 200) + 1) n) 3))) (C := RX6) (T := TX6) (N := 20) hx hb htg inX6 hown hK hP 0 (wR_g0 a k _) rfl 18 (by decide) (htg _ q_599) (fun _ h9 => h9) rfl dX6_listen_107 ?_
        refine wtopi (y := nI (cu_N u 3)) rfl ?_
        refine lv_sipush (v := 200) hx hb dX6_listen_110 (by decide) ?_
        refine lv_irem hx hb dX6_listen_113 (by decide) ?_
        refine wtopi (y := nI (cu_N u 3 % 200)) (irem200 (by omega)) ?_
        refine lv_imul hx hb dX6_listen_114 ?_
        refine wtopi (y := nI (3 * (cu_N u 3 % 200))) (pk_mul 3 (cu_N u 3 % 200)) ?_
        refine lv_iconst (v := 2) hx hb dX6_listen_115 (by decide) ?_
        refine lv_iadd hx hb dX6_listen_116 ?_
        refine wtopi (y := nI (3 * (cu_N u 3 % 200) + 2)) (nI_add _ 2) ?_
        refine lv_iload hx hb dX6_listen_117 (lv_at hl 0 rfl) ?_
        refine lv_if_eq (tgt := 126) hx hb dX6_listen_119 (by decide) (fun _ => ?_) (fun h9 => absurd h9 (by decide))
        refine lv_iconst (v := 0) hx hb dX6_listen_126 (by decide) ?_
        refine va_iast hx hb hK hP hD hS 8 0 (wR_g8 a k _) rfl (vp_in_nI (n := (3 * (cu_N u 3 % 200) + 2)) (N := 600) (show 3 * (cu_N u 3 % 200) + 2 < 600 by omega) (by decide)) dX6_listen_127 (fun H locs hP hD hS => ?_)
        have hP := w_pE (wR_s8 a k _ (3 * (cu_N u 3 % 200) + 2) 0 (Nat.lt_trans (m := 600) (show 3 * (cu_N u 3 % 200) + 2 < 600 by omega) (by decide))) hP
        have hD := w_dE (wR_s8 a k _ (3 * (cu_N u 3 % 200) + 2) 0 (Nat.lt_trans (m := 600) (show 3 * (cu_N u 3 % 200) + 2 < 600 by omega) (by decide))) hD
        refine lv_aload_n hx hb dX6_listen_128 rfl (lv_at hl 2 rfl) ?_
        refine lv_dup hx hb dX6_listen_129 rfl ?_
        refine va_get (D := (dC, dI)) (ci := 6) (v := .int (nI (cu_N (cs_F (cs_F (cs_F u 7 (3 * (cu_N u 3 % 200)) ps) 7 (3 * (cu_N u 3 % 200) + 1) n) 7 (3 * (cu_N u 3 % 200) + 2) 0) 3))) (C := RX6) (T := TX6) (N := 20) hx hb htg inX6 hown hK hP 0 (wR_g0 a k _) rfl 18 (by decide) (htg _ q_599) (fun _ h9 => h9) rfl dX6_listen_130 ?_
        refine lv_iconst (v := 1) hx hb dX6_listen_133 (by decide) ?_
        refine lv_iadd hx hb dX6_listen_134 ?_
        refine wtopi (y := nI (cu_N u 3 + 1)) (nI_1 (cu_N u 3)) ?_
        refine va_put (D := (dC, dI)) (ci := 6) (v := .int (nI (cu_N u 3 + 1))) (ty := .int) (C := RX6) (T := TX6) (N := 20) hx hb htg inX6 tyX6 tyX6_ok nmX6 hown hK hP hD hS 0 (wR_g0 a k _) rfl 18 (by decide) (htg _ q_599) (fun _ h9 => h9) rfl (by decide +kernel) rfl rfl (Nat.le_of_ble_eq_true rfl) dX6_listen_135 (fun H locs hP hD hS => ?_)
        have hP := w_pE (wR_n3 a k _ (cu_N u 3 + 1)) hP
        have hD := w_dE (wR_n3 a k _ (cu_N u 3 + 1)) hD
        refine lv_aload_n hx hb dX6_listen_138 rfl (lv_at hl 2 rfl) ?_
        refine lv_iload_n hx hb dX6_listen_139 rfl (lv_at hl 1 rfl) ?_
        refine lv_iload hx hb dX6_listen_140 (lv_at hl 0 rfl) ?_
        refine lv_if_ne (tgt := 149) hx hb dX6_listen_142 (by decide) (fun h9 => absurd h9 (by decide)) (fun _ => ?_)
        refine lv_iconst (v := 1) hx hb dX6_listen_145 (by decide) ?_
        refine lv_goto (tgt := 150) hx hb dX6_listen_146 (by decide) ?_
        refine lv_iconst (v := 0) hx hb dX6_listen_150 (by decide) ?_
        refine w_cali (w := wR a k) (va_runV (As := [.int 0, .int 1, .int 0]) (rest := []) ⟨hx, hb, hml, hown, hts⟩ (c_X6_throwing l dC dI a k (cs_N (cs_F (cs_F (cs_F u 7 (3 * (cu_N u 3 % 200)) ps) 7 (3 * (cu_N u 3 % 200) + 1) n) 7 (3 * (cu_N u 3 % 200) + 2) 0) 3 (cu_N u 3 + 1)) _ false true false) (cwV 3 hts (wG_V wG_c q_654 q_656 p_7 q_7 q_657) rfl rfl rfl (by decide +kernel) ⟨Nat.le_of_ble_eq_true rfl, Nat.le_of_ble_eq_true rfl⟩) (w_muV hK hP hD (ci := 6) (q0 := 0) rfl (wR_g0 a k _) rfl) rfl rfl hl.1 rfl (lv_room (Nat.le_of_ble_eq_true rfl)) dX6_listen_151 ⟨Nat.le_of_ble_eq_true rfl, Nat.le_of_ble_eq_true rfl⟩) hD hS hA (fun r_4 u_4 H locs hq_4 hP hD hS => ?_)
        obtain ⟨er9, eu9⟩ := hq_4
        subst er9 eu9
        refine wtopi (1) rfl ?_
        refine lv_if_eq (tgt := 159) hx hb dX6_listen_154 (by decide) (fun h9 => absurd h9 (by decide)) (fun _ => ?_)
        refine lv_iconst (v := 0) hx hb dX6_listen_157 (by decide) ?_
        exact W.iret (v := 0) hx hb hr (fun t9 ht9 hW9 => ⟨⟨_, cs_N (cs_N (cs_F (cs_F (cs_F u 7 (3 * (cu_N u 3 % 200)) ps) 7 (3 * (cu_N u 3 % 200) + 1) n) 7 (3 * (cu_N u 3 % 200) + 2) 0) 3 (cu_N u 3 + 1)) 4 (m_code false true false), rfl, ⟨fun h9 => absurd h9 (by rw [eb]; decide), fun _ => ⟨ps, n, h_ps, h_n, rfl, rfl, false, (by simp [c_34]), rfl, fun h9 => by cases h9⟩⟩, by rw [ht9]; exact hP, va_K.moved hW9.alike hK, hD⟩, hS.F ht9⟩) hS.2.2 dX6_listen_158
      · refine lv_aload_n hx hb dX6_listen_37 rfl (lv_at hl 1 rfl) ?_
        refine va_get (D := (dC, dI)) (ci := 6) (v := .ref (a 11)) (C := RX6) (T := TX6) (N := 20) hx hb htg inX6 hown hK hP 0 (wR_g0 a k _) rfl 14 (by decide) (htg _ q_595) (fun _ h9 => h9) rfl dX6_listen_38 ?_
        refine lv_bipush (v := 50) hx hb dX6_listen_41 (by decide) ?_
        refine lv_iload_n hx hb dX6_listen_43 rfl (lv_at hl 2 rfl) ?_
        refine lv_imul hx hb dX6_listen_44 ?_
        refine wtopi (y := nI (50 * ps)) (pk_mul 50 ps) ?_
        refine lv_aload_n hx hb dX6_listen_45 rfl (lv_at hl 1 rfl) ?_
        refine va_get (D := (dC, dI)) (ci := 6) (v := .ref (a 5)) (C := RX6) (T := TX6) (N := 20) hx hb htg inX6 hown hK hP 0 (wR_g0 a k _) rfl 7 (by decide) (htg _ q_588) (fun _ h9 => h9) rfl dX6_listen_46 ?_
        refine lv_iload_n hx hb dX6_listen_49 rfl (lv_at hl 3 rfl) ?_
        refine va_iald hx hb hK hP 5 0 (wR_g5 a k _) rfl (vp_in_nI (n := n) (N := 200) (show n < 200 by omega) (by decide)) dX6_listen_50 ?_
        refine wtopi (nI (cu_F u 4 n)) (congrArg (fun j9 => nI (cu_F u 4 j9)) (nI_clamp (n := n) (Nat.lt_trans (m := 200) (show n < 200 by omega) (by decide)))) ?_
        refine lv_iadd hx hb dX6_listen_51 ?_
        refine wtopi (y := nI (50 * ps + cu_F u 4 n)) (nI_add _ _) ?_
        refine va_zald hx hb hK hP 11 2 (wR_g11 a k _) rfl (vp_in_nI (n := (50 * ps + cu_F u 4 n)) (N := 1000) (show 50 * ps + cu_F u 4 n < 1000 by omega) (by decide)) dX6_listen_52 ?_
        refine wtopi (bI (cu_B u 2 (50 * ps + cu_F u 4 n))) (congrArg (fun j9 => bI (cu_B u 2 j9)) (nI_clamp (n := (50 * ps + cu_F u 4 n)) (Nat.lt_trans (m := 1000) (show 50 * ps + cu_F u 4 n < 1000 by omega) (by decide)))) ?_
        refine bz_eq (a := (cu_B u 2 (50 * ps + cu_F u 4 n))) (tgt := 60) hx hb dX6_listen_53 (by decide) (fun c_53 => ?_) (fun c_53 => ?_)
        · refine lv_iconst (v := 0) hx hb dX6_listen_60 (by decide) ?_
          refine lv_istore (lv' := [(4, .int 0), (3, .int 0), (0, .ref (a 0)), (1, .int (nI ps)), (2, .int (nI n))]) hx hb dX6_listen_61 hl (by decide) rfl (fun ls hl => ?_)
          refine lv_iload_n hx hb dX6_listen_63 rfl (lv_at hl 1 rfl) ?_
          refine lv_if_ne (tgt := 138) hx hb dX6_listen_64 (by decide) (fun h9 => absurd h9 (by decide)) (fun _ => ?_)
          refine lv_aload_n hx hb dX6_listen_67 rfl (lv_at hl 2 rfl) ?_
          refine va_get (D := (dC, dI)) (ci := 6) (v := .ref (a 8)) (C := RX6) (T := TX6) (N := 20) hx hb htg inX6 hown hK hP 0 (wR_g0 a k _) rfl 19 (by decide) (htg _ q_600) (fun _ h9 => h9) rfl dX6_listen_68 ?_
          refine lv_iconst (v := 3) hx hb dX6_listen_71 (by decide) ?_
          refine lv_aload_n hx hb dX6_listen_72 rfl (lv_at hl 2 rfl) ?_
          refine va_get (D := (dC, dI)) (ci := 6) (v := .int (nI (cu_N u 3))) (C := RX6) (T := TX6) (N := 20) hx hb htg inX6 hown hK hP 0 (wR_g0 a k _) rfl 18 (by decide) (htg _ q_599) (fun _ h9 => h9) rfl dX6_listen_73 ?_
          refine wtopi (y := nI (cu_N u 3)) rfl ?_
          refine lv_sipush (v := 200) hx hb dX6_listen_76 (by decide) ?_
          refine lv_irem hx hb dX6_listen_79 (by decide) ?_
          refine wtopi (y := nI (cu_N u 3 % 200)) (irem200 (by omega)) ?_
          refine lv_imul hx hb dX6_listen_80 ?_
          refine wtopi (y := nI (3 * (cu_N u 3 % 200))) (pk_mul 3 (cu_N u 3 % 200)) ?_
          refine lv_iload_n hx hb dX6_listen_81 rfl (lv_at hl 3 rfl) ?_
          refine va_iast hx hb hK hP hD hS 8 0 (wR_g8 a k _) rfl (vp_in_nI (n := (3 * (cu_N u 3 % 200))) (N := 600) (show 3 * (cu_N u 3 % 200) < 600 by omega) (by decide)) dX6_listen_82 (fun H locs hP hD hS => ?_)
          have hP := w_pE (wR_s8 a k _ (3 * (cu_N u 3 % 200)) ps (Nat.lt_trans (m := 600) (show 3 * (cu_N u 3 % 200) < 600 by omega) (by decide))) hP
          have hD := w_dE (wR_s8 a k _ (3 * (cu_N u 3 % 200)) ps (Nat.lt_trans (m := 600) (show 3 * (cu_N u 3 % 200) < 600 by omega) (by decide))) hD
          refine lv_aload_n hx hb dX6_listen_83 rfl (lv_at hl 2 rfl) ?_
          refine va_get (D := (dC, dI)) (ci := 6) (v := .ref (a 8)) (C := RX6) (T := TX6) (N := 20) hx hb htg inX6 hown hK hP 0 (wR_g0 a k _) rfl 19 (by decide) (htg _ q_600) (fun _ h9 => h9) rfl dX6_listen_84 ?_
          refine lv_iconst (v := 3) hx hb dX6_listen_87 (by decide) ?_
          refine lv_aload_n hx hb dX6_listen_88 rfl (lv_at hl 2 rfl) ?_
          refine va_get (D := (dC, dI)) (ci := 6) (v := .int (nI (cu_N (cs_F u 7 (3 * (cu_N u 3 % 200)) ps) 3))) (C := RX6) (T := TX6) (N := 20) hx hb htg inX6 hown hK hP 0 (wR_g0 a k _) rfl 18 (by decide) (htg _ q_599) (fun _ h9 => h9) rfl dX6_listen_89 ?_
          refine wtopi (y := nI (cu_N u 3)) rfl ?_
          refine lv_sipush (v := 200) hx hb dX6_listen_92 (by decide) ?_
          refine lv_irem hx hb dX6_listen_95 (by decide) ?_
          refine wtopi (y := nI (cu_N u 3 % 200)) (irem200 (by omega)) ?_
          refine lv_imul hx hb dX6_listen_96 ?_
          refine wtopi (y := nI (3 * (cu_N u 3 % 200))) (pk_mul 3 (cu_N u 3 % 200)) ?_
          refine lv_iconst (v := 1) hx hb dX6_listen_97 (by decide) ?_
          refine lv_iadd hx hb dX6_listen_98 ?_
          refine wtopi (y := nI (3 * (cu_N u 3 % 200) + 1)) (nI_add _ 1) ?_
          refine lv_iload_n hx hb dX6_listen_99 rfl (lv_at hl 4 rfl) ?_
          refine va_iast hx hb hK hP hD hS 8 0 (wR_g8 a k _) rfl (vp_in_nI (n := (3 * (cu_N u 3 % 200) + 1)) (N := 600) (show 3 * (cu_N u 3 % 200) + 1 < 600 by omega) (by decide)) dX6_listen_100 (fun H locs hP hD hS => ?_)
          have hP := w_pE (wR_s8 a k _ (3 * (cu_N u 3 % 200) + 1) n (Nat.lt_trans (m := 600) (show 3 * (cu_N u 3 % 200) + 1 < 600 by omega) (by decide))) hP
          have hD := w_dE (wR_s8 a k _ (3 * (cu_N u 3 % 200) + 1) n (Nat.lt_trans (m := 600) (show 3 * (cu_N u 3 % 200) + 1 < 600 by omega) (by decide))) hD
          refine lv_aload_n hx hb dX6_listen_101 rfl (lv_at hl 2 rfl) ?_
          refine va_get (D := (dC, dI)) (ci := 6) (v := .ref (a 8)) (C := RX6) (T := TX6) (N := 20) hx hb htg inX6 hown hK hP 0 (wR_g0 a k _) rfl 19 (by decide) (htg _ q_600) (fun _ h9 => h9) rfl dX6_listen_102 ?_
          refine lv_iconst (v := 3) hx hb dX6_listen_105 (by decide) ?_
          refine lv_aload_n hx hb dX6_listen_106 rfl (lv_at hl 2 rfl) ?_
          refine va_get (D := (dC, dI)) (ci := 6) (v := .int (nI (cu_N (cs_F (cs_F u 7 (3 * (cu_N u 3 % 200)) ps) 7 (3 * (cu_N u 3 % 200) + 1) n) 3))) (C := RX6) (T := TX6) (N := 20) hx hb htg inX6 hown hK hP 0 (wR_g0 a k _) rfl 18 (by decide) (htg _ q_599) (fun _ h9 => h9) rfl dX6_listen_107 ?_
          refine wtopi (y := nI (cu_N u 3)) rfl ?_
          refine lv_sipush (v := 200) hx hb dX6_listen_110 (by decide) ?_
          refine lv_irem hx hb dX6_listen_113 (by decide) ?_
          refine wtopi (y := nI (cu_N u 3 % 200)) (irem200 (by omega)) ?_
          refine lv_imul hx hb dX6_listen_114 ?_
          refine wtopi (y := nI (3 * (cu_N u 3 % 200))) (pk_mul 3 (cu_N u 3 % 200)) ?_
          refine lv_iconst (v := 2) hx hb dX6_listen_115 (by decide) ?_
          refine lv_iadd hx hb dX6_listen_116 ?_
          refine wtopi (y := nI (3 * (cu_N u 3 % 200) + 2)) (nI_add _ 2) ?_
          refine lv_iload hx hb dX6_listen_117 (lv_at hl 0 rfl) ?_
          refine lv_if_eq (tgt := 126) hx hb dX6_listen_119 (by decide) (fun _ => ?_) (fun h9 => absurd h9 (by decide))
          refine lv_iconst (v := 0) hx hb dX6_listen_126 (by decide) ?_
          refine va_iast hx hb hK hP hD hS 8 0 (wR_g8 a k _) rfl (vp_in_nI (n := (3 * (cu_N u 3 % 200) + 2)) (N := 600) (show 3 * (cu_N u 3 % 200) + 2 < 600 by omega) (by decide)) dX6_listen_127 (fun H locs hP hD hS => ?_)
          have hP := w_pE (wR_s8 a k _ (3 * (cu_N u 3 % 200) + 2) 0 (Nat.lt_trans (m := 600) (show 3 * (cu_N u 3 % 200) + 2 < 600 by omega) (by decide))) hP
          have hD := w_dE (wR_s8 a k _ (3 * (cu_N u 3 % 200) + 2) 0 (Nat.lt_trans (m := 600) (show 3 * (cu_N u 3 % 200) + 2 < 600 by omega) (by decide))) hD
          refine lv_aload_n hx hb dX6_listen_128 rfl (lv_at hl 2 rfl) ?_
          refine lv_dup hx hb dX6_listen_129 rfl ?_
          refine va_get (D := (dC, dI)) (ci := 6) (v := .int (nI (cu_N (cs_F (cs_F (cs_F u 7 (3 * (cu_N u 3 % 200)) ps) 7 (3 * (cu_N u 3 % 200) + 1) n) 7 (3 * (cu_N u 3 % 200) + 2) 0) 3))) (C := RX6) (T := TX6) (N := 20) hx hb htg inX6 hown hK hP 0 (wR_g0 a k _) rfl 18 (by decide) (htg _ q_599) (fun _ h9 => h9) rfl dX6_listen_130 ?_
          refine lv_iconst (v := 1) hx hb dX6_listen_133 (by decide) ?_
          refine lv_iadd hx hb dX6_listen_134 ?_
          refine wtopi (y := nI (cu_N u 3 + 1)) (nI_1 (cu_N u 3)) ?_
          refine va_put (D := (dC, dI)) (ci := 6) (v := .int (nI (cu_N u 3 + 1))) (ty := .int) (C := RX6) (T := TX6) (N := 20) hx hb htg inX6 tyX6 tyX6_ok nmX6 hown hK hP hD hS 0 (wR_g0 a k _) rfl 18 (by decide) (htg _ q_599) (fun _ h9 => h9) rfl (by decide +kernel) rfl rfl (Nat.le_of_ble_eq_true rfl) dX6_listen_135 (fun H locs hP hD hS => ?_)
          have hP := w_pE (wR_n3 a k _ (cu_N u 3 + 1)) hP
          have hD := w_dE (wR_n3 a k _ (cu_N u 3 + 1)) hD
          refine lv_aload_n hx hb dX6_listen_138 rfl (lv_at hl 2 rfl) ?_
          refine lv_iload_n hx hb dX6_listen_139 rfl (lv_at hl 1 rfl) ?_
          refine lv_iload hx hb dX6_listen_140 (lv_at hl 0 rfl) ?_
          refine lv_if_ne (tgt := 149) hx hb dX6_listen_142 (by decide) (fun h9 => absurd h9 (by decide)) (fun _ => ?_)
          refine lv_iconst (v := 1) hx hb dX6_listen_145 (by decide) ?_
          refine lv_goto (tgt := 150) hx hb dX6_listen_146 (by decide) ?_
          refine lv_iconst (v := 0) hx hb dX6_listen_150 (by decide) ?_
          refine w_cali (w := wR a k) (va_runV (As := [.int 0, .int 1, .int 0]) (rest := []) ⟨hx, hb, hml, hown, hts⟩ (c_X6_throwing l dC dI a k (cs_N (cs_F (cs_F (cs_F u 7 (3 * (cu_N u 3 % 200)) ps) 7 (3 * (cu_N u 3 % 200) + 1) n) 7 (3 * (cu_N u 3 % 200) + 2) 0) 3 (cu_N u 3 + 1)) _ false true false) (cwV 3 hts (wG_V wG_c q_654 q_656 p_7 q_7 q_657) rfl rfl rfl (by decide +kernel) ⟨Nat.le_of_ble_eq_true rfl, Nat.le_of_ble_eq_true rfl⟩) (w_muV hK hP hD (ci := 6) (q0 := 0) rfl (wR_g0 a k _) rfl) rfl rfl hl.1 rfl (lv_room (Nat.le_of_ble_eq_true rfl)) dX6_listen_151 ⟨Nat.le_of_ble_eq_true rfl, Nat.le_of_ble_eq_true rfl⟩) hD hS hA (fun r_5 u_5 H locs hq_5 hP hD hS => ?_)
          obtain ⟨er9, eu9⟩ := hq_5
          subst er9 eu9
          refine wtopi (1) rfl ?_
          refine lv_if_eq (tgt := 159) hx hb dX6_listen_154 (by decide) (fun h9 => absurd h9 (by decide)) (fun _ => ?_)
          refine lv_iconst (v := 0) hx hb dX6_listen_157 (by decide) ?_
          exact W.iret (v := 0) hx hb hr (fun t9 ht9 hW9 => ⟨⟨_, cs_N (cs_N (cs_F (cs_F (cs_F u 7 (3 * (cu_N u 3 % 200)) ps) 7 (3 * (cu_N u 3 % 200) + 1) n) 7 (3 * (cu_N u 3 % 200) + 2) 0) 3 (cu_N u 3 + 1)) 4 (m_code false true false), rfl, ⟨fun h9 => absurd h9 (by rw [eb]; decide), fun _ => ⟨ps, n, h_ps, h_n, rfl, rfl, false, (by simp [c_34, c_53]), rfl, fun h9 => by cases h9⟩⟩, by rw [ht9]; exact hP, va_K.moved hW9.alike hK, hD⟩, hS.F ht9⟩) hS.2.2 dX6_listen_158
        · refine lv_iconst (v := 1) hx hb dX6_listen_56 (by decide) ?_
          refine lv_goto (tgt := 61) hx hb dX6_listen_57 (by decide) ?_
          refine lv_istore (lv' := [(4, .int 1), (3, .int 0), (0, .ref (a 0)), (1, .int (nI ps)), (2, .int (nI n))]) hx hb dX6_listen_61 hl (by decide) rfl (fun ls hl => ?_)
          refine lv_iload_n hx hb dX6_listen_63 rfl (lv_at hl 1 rfl) ?_
          refine lv_if_ne (tgt := 138) hx hb dX6_listen_64 (by decide) (fun h9 => absurd h9 (by decide)) (fun _ => ?_)
          refine lv_aload_n hx hb dX6_listen_67 rfl (lv_at hl 2 rfl) ?_
          refine va_get (D := (dC, dI)) (ci := 6) (v := .ref (a 8)) (C := RX6) (T := TX6) (N := 20) hx hb htg inX6 hown hK hP 0 (wR_g0 a k _) rfl 19 (by decide) (htg _ q_600) (fun _ h9 => h9) rfl dX6_listen_68 ?_
          refine lv_iconst (v := 3) hx hb dX6_listen_71 (by decide) ?_
          refine lv_aload_n hx hb dX6_listen_72 rfl (lv_at hl 2 rfl) ?_
          refine va_get (D := (dC, dI)) (ci := 6) (v := .int (nI (cu_N u 3))) (C := RX6) (T := TX6) (N := 20) hx hb htg inX6 hown hK hP 0 (wR_g0 a k _) rfl 18 (by decide) (htg _ q_599) (fun _ h9 => h9) rfl dX6_listen_73 ?_
          refine wtopi (y := nI (cu_N u 3)) rfl ?_
          refine lv_sipush (v := 200) hx hb dX6_listen_76 (by decide) ?_
          refine lv_irem hx hb dX6_listen_79 (by decide) ?_
          refine wtopi (y := nI (cu_N u 3 % 200)) (irem200 (by omega)) ?_
          refine lv_imul hx hb dX6_listen_80 ?_
          refine wtopi (y := nI (3 * (cu_N u 3 % 200))) (pk_mul 3 (cu_N u 3 % 200)) ?_
          refine lv_iload_n hx hb dX6_listen_81 rfl (lv_at hl 3 rfl) ?_
          refine va_iast hx hb hK hP hD hS 8 0 (wR_g8 a k _) rfl (vp_in_nI (n := (3 * (cu_N u 3 % 200))) (N := 600) (show 3 * (cu_N u 3 % 200) < 600 by omega) (by decide)) dX6_listen_82 (fun H locs hP hD hS => ?_)
          have hP := w_pE (wR_s8 a k _ (3 * (cu_N u 3 % 200)) ps (Nat.lt_trans (m := 600) (show 3 * (cu_N u 3 % 200) < 600 by omega) (by decide))) hP
          have hD := w_dE (wR_s8 a k _ (3 * (cu_N u 3 % 200)) ps (Nat.lt_trans (m := 600) (show 3 * (cu_N u 3 % 200) < 600 by omega) (by decide))) hD
          refine lv_aload_n hx hb dX6_listen_83 rfl (lv_at hl 2 rfl) ?_
          refine va_get (D := (dC, dI)) (ci := 6) (v := .ref (a 8)) (C := RX6) (T := TX6) (N := 20) hx hb htg inX6 hown hK hP 0 (wR_g0 a k _) rfl 19 (by decide) (htg _ q_600) (fun _ h9 => h9) rfl dX6_listen_84 ?_
          refine lv_iconst (v := 3) hx hb dX6_listen_87 (by decide) ?_
          refine lv_aload_n hx hb dX6_listen_88 rfl (lv_at hl 2 rfl) ?_
          refine va_get (D := (dC, dI)) (ci := 6) (v := .int (nI (cu_N (cs_F u 7 (3 * (cu_N u 3 % 200)) ps) 3))) (C := RX6) (T := TX6) (N := 20) hx hb htg inX6 hown hK hP 0 (wR_g0 a k _) rfl 18 (by decide) (htg _ q_599) (fun _ h9 => h9) rfl dX6_listen_89 ?_
          refine wtopi (y := nI (cu_N u 3)) rfl ?_
          refine lv_sipush (v := 200) hx hb dX6_listen_92 (by decide) ?_
          refine lv_irem hx hb dX6_listen_95 (by decide) ?_
          refine wtopi (y := nI (cu_N u 3 % 200)) (irem200 (by omega)) ?_
          refine lv_imul hx hb dX6_listen_96 ?_
          refine wtopi (y := nI (3 * (cu_N u 3 % 200))) (pk_mul 3 (cu_N u 3 % 200)) ?_
          refine lv_iconst (v := 1) hx hb dX6_listen_97 (by decide) ?_
          refine lv_iadd hx hb dX6_listen_98 ?_
          refine wtopi (y := nI (3 * (cu_N u 3 % 200) + 1)) (nI_add _ 1) ?_
          refine lv_iload_n hx hb dX6_listen_99 rfl (lv_at hl 4 rfl) ?_
          refine va_iast hx hb hK hP hD hS 8 0 (wR_g8 a k _) rfl (vp_in_nI (n := (3 * (cu_N u 3 % 200) + 1)) (N := 600) (show 3 * (cu_N u 3 % 200) + 1 < 600 by omega) (by decide)) dX6_listen_100 (fun H locs hP hD hS => ?_)
          have hP := w_pE (wR_s8 a k _ (3 * (cu_N u 3 % 200) + 1) n (Nat.lt_trans (m := 600) (show 3 * (cu_N u 3 % 200) + 1 < 600 by omega) (by decide))) hP
          have hD := w_dE (wR_s8 a k _ (3 * (cu_N u 3 % 200) + 1) n (Nat.lt_trans (m := 600) (show 3 * (cu_N u 3 % 200) + 1 < 600 by omega) (by decide))) hD
          refine lv_aload_n hx hb dX6_listen_101 rfl (lv_at hl 2 rfl) ?_
          refine va_get (D := (dC, dI)) (ci := 6) (v := .ref (a 8)) (C := RX6) (T := TX6) (N := 20) hx hb htg inX6 hown hK hP 0 (wR_g0 a k _) rfl 19 (by decide) (htg _ q_600) (fun _ h9 => h9) rfl dX6_listen_102 ?_
          refine lv_iconst (v := 3) hx hb dX6_listen_105 (by decide) ?_
          refine lv_aload_n hx hb dX6_listen_106 rfl (lv_at hl 2 rfl) ?_
          refine va_get (D := (dC, dI)) (ci := 6) (v := .int (nI (cu_N (cs_F (cs_F u 7 (3 * (cu_N u 3 % 200)) ps) 7 (3 * (cu_N u 3 % 200) + 1) n) 3))) (C := RX6) (T := TX6) (N := 20) hx hb htg inX6 hown hK hP 0 (wR_g0 a k _) rfl 18 (by decide) (htg _ q_599) (fun _ h9 => h9) rfl dX6_listen_107 ?_
          refine wtopi (y := nI (cu_N u 3)) rfl ?_
          refine lv_sipush (v := 200) hx hb dX6_listen_110 (by decide) ?_
          refine lv_irem hx hb dX6_listen_113 (by decide) ?_
          refine wtopi (y := nI (cu_N u 3 % 200)) (irem200 (by omega)) ?_
          refine lv_imul hx hb dX6_listen_114 ?_
          refine wtopi (y := nI (3 * (cu_N u 3 % 200))) (pk_mul 3 (cu_N u 3 % 200)) ?_
          refine lv_iconst (v := 2) hx hb dX6_listen_115 (by decide) ?_
          refine lv_iadd hx hb dX6_listen_116 ?_
          refine wtopi (y := nI (3 * (cu_N u 3 % 200) + 2)) (nI_add _ 2) ?_
          refine lv_iload hx hb dX6_listen_117 (lv_at hl 0 rfl) ?_
          refine lv_if_eq (tgt := 126) hx hb dX6_listen_119 (by decide) (fun h9 => absurd h9 (by decide)) (fun _ => ?_)
          refine lv_iconst (v := 1) hx hb dX6_listen_122 (by decide) ?_
          refine lv_goto (tgt := 127) hx hb dX6_listen_123 (by decide) ?_
          refine va_iast hx hb hK hP hD hS 8 0 (wR_g8 a k _) rfl (vp_in_nI (n := (3 * (cu_N u 3 % 200) + 2)) (N := 600) (show 3 * (cu_N u 3 % 200) + 2 < 600 by omega) (by decide)) dX6_listen_127 (fun H locs hP hD hS => ?_)
          have hP := w_pE (wR_s8 a k _ (3 * (cu_N u 3 % 200) + 2) 1 (Nat.lt_trans (m := 600) (show 3 * (cu_N u 3 % 200) + 2 < 600 by omega) (by decide))) hP
          have hD := w_dE (wR_s8 a k _ (3 * (cu_N u 3 % 200) + 2) 1 (Nat.lt_trans (m := 600) (show 3 * (cu_N u 3 % 200) + 2 < 600 by omega) (by decide))) hD
          refine lv_aload_n hx hb dX6_listen_128 rfl (lv_at hl 2 rfl) ?_
          refine lv_dup hx hb dX6_listen_129 rfl ?_
          refine va_get (D := (dC, dI)) (ci := 6) (v := .int (nI (cu_N (cs_F (cs_F (cs_F u 7 (3 * (cu_N u 3 % 200)) ps) 7 (3 * (cu_N u 3 % 200) + 1) n) 7 (3 * (cu_N u 3 % 200) + 2) 1) 3))) (C := RX6) (T := TX6) (N := 20) hx hb htg inX6 hown hK hP 0 (wR_g0 a k _) rfl 18 (by decide) (htg _ q_599) (fun _ h9 => h9) rfl dX6_listen_130 ?_
          refine lv_iconst (v := 1) hx hb dX6_listen_133 (by decide) ?_
          refine lv_iadd hx hb dX6_listen_134 ?_
          refine wtopi (y := nI (cu_N u 3 + 1)) (nI_1 (cu_N u 3)) ?_
          refine va_put (D := (dC, dI)) (ci := 6) (v := .int (nI (cu_N u 3 + 1))) (ty := .int) (C := RX6) (T := TX6) (N := 20) hx hb htg inX6 tyX6 tyX6_ok nmX6 hown hK hP hD hS 0 (wR_g0 a k _) rfl 18 (by decide) (htg _ q_599) (fun _ h9 => h9) rfl (by decide +kernel) rfl rfl (Nat.le_of_ble_eq_true rfl) dX6_listen_135 (fun H locs hP hD hS => ?_)
          have hP := w_pE (wR_n3 a k _ (cu_N u 3 + 1)) hP
          have hD := w_dE (wR_n3 a k _ (cu_N u 3 + 1)) hD
          refine lv_aload_n hx hb dX6_listen_138 rfl (lv_at hl 2 rfl) ?_
          refine lv_iload_n hx hb dX6_listen_139 rfl (lv_at hl 1 rfl) ?_
          refine lv_iload hx hb dX6_listen_140 (lv_at hl 0 rfl) ?_
          refine lv_if_ne (tgt := 149) hx hb dX6_listen_142 (by decide) (fun _ => ?_) (fun h9 => absurd h9 (by decide))
          refine lv_iconst (v := 0) hx hb dX6_listen_149 (by decide) ?_
          refine lv_iconst (v := 0) hx hb dX6_listen_150 (by decide) ?_
          refine w_cali (w := wR a k) (va_runV (As := [.int 0, .int 0, .int 0]) (rest := []) ⟨hx, hb, hml, hown, hts⟩ (c_X6_throwing l dC dI a k (cs_N (cs_F (cs_F (cs_F u 7 (3 * (cu_N u 3 % 200)) ps) 7 (3 * (cu_N u 3 % 200) + 1) n) 7 (3 * (cu_N u 3 % 200) + 2) 1) 3 (cu_N u 3 + 1)) _ false false false) (cwV 3 hts (wG_V wG_c q_654 q_656 p_7 q_7 q_657) rfl rfl rfl (by decide +kernel) ⟨Nat.le_of_ble_eq_true rfl, Nat.le_of_ble_eq_true rfl⟩) (w_muV hK hP hD (ci := 6) (q0 := 0) rfl (wR_g0 a k _) rfl) rfl rfl hl.1 rfl (lv_room (Nat.le_of_ble_eq_true rfl)) dX6_listen_151 ⟨Nat.le_of_ble_eq_true rfl, Nat.le_of_ble_eq_true rfl⟩) hD hS hA (fun r_6 u_6 H locs hq_6 hP hD hS => ?_)
          obtain ⟨er9, eu9⟩ := hq_6
          subst er9 eu9
          refine wtopi (0) rfl ?_
          refine lv_if_eq (tgt := 159) hx hb dX6_listen_154 (by decide) (fun _ => ?_) (fun h9 => absurd h9 (by decide))
          refine lv_aload_n hx hb dX6_listen_159 rfl (lv_at hl 2 rfl) ?_
          refine lv_iload_n hx hb dX6_listen_160 rfl (lv_at hl 4 rfl) ?_
          refine vp_callSi (W.runV (As := [.int (nI n)]) (rest := []) ⟨hx, hb, hml, hown, hts⟩ (c_X6_sumOf l dC dI a k (cs_N (cs_N (cs_F (cs_F (cs_F u 7 (3 * (cu_N u 3 % 200)) ps) 7 (3 * (cu_N u 3 % 200) + 1) n) 7 (3 * (cu_N u 3 % 200) + 2) 1) 3 (cu_N u 3 + 1)) 4 (m_code false false false)) n (by omega) hn2.2.2.2.1) (cwV 1 hts (wG_V wG_c q_658 q_660 p_8 q_7 q_661) rfl rfl rfl (by decide +kernel) ⟨Nat.le_of_ble_eq_true rfl, Nat.le_of_ble_eq_true rfl⟩) (w_roV hK hP (ci := 6) (q0 := 0) rfl (wR_g0 a k _) rfl) rfl rfl hl.1 rfl (lv_room (Nat.le_of_ble_eq_true rfl)) dX6_listen_161 ⟨Nat.le_of_ble_eq_true rfl, Nat.le_of_ble_eq_true rfl⟩) (fun r_7 hr_7 => ?_)
          subst hr_7
          exact W.iret (v := m_sm (fun i => cu_G u 2 (8 * n + i)) 0 (cu_F u 2 n)) hx hb hr (fun t9 ht9 hW9 => ⟨⟨_, cs_N (cs_N (cs_F (cs_F (cs_F u 7 (3 * (cu_N u 3 % 200)) ps) 7 (3 * (cu_N u 3 % 200) + 1) n) 7 (3 * (cu_N u 3 % 200) + 2) 1) 3 (cu_N u 3 + 1)) 4 (m_code false false false), rfl, ⟨fun h9 => absurd h9 (by rw [eb]; decide), fun _ => ⟨ps, n, h_ps, h_n, rfl, rfl, true, (by simp [c_34, c_53]), rfl, fun _ => rfl⟩⟩, by rw [ht9]; exact hP, va_K.moved hW9.alike hK, hD⟩, hS.F ht9⟩) hS.2.2 dX6_listen_164
    · refine lv_iconst (v := 1) hx hb dX6_listen_18 (by decide) ?_
      refine lv_goto (tgt := 23) hx hb dX6_listen_19 (by decide) ?_
      refine lv_istore_n (lv' := [(3, .int 1), (0, .ref (a 0)), (1, .int p0), (2, .int p1)]) hx hb dX6_listen_23 rfl hl (by decide) rfl (fun ls hl => ?_)
      refine lv_iload_n hx hb dX6_listen_24 rfl (lv_at hl 0 rfl) ?_
      refine lv_if_ne (tgt := 60) hx hb dX6_listen_25 (by decide) (fun _ => ?_) (fun h9 => absurd h9 (by decide))
      refine lv_iconst (v := 0) hx hb dX6_listen_60 (by decide) ?_
      refine lv_istore (lv' := [(4, .int 0), (3, .int 1), (0, .ref (a 0)), (1, .int p0), (2, .int p1)]) hx hb dX6_listen_61 hl (by decide) rfl (fun ls hl => ?_)
      refine lv_iload_n hx hb dX6_listen_63 rfl (lv_at hl 1 rfl) ?_
      refine lv_if_ne (tgt := 138) hx hb dX6_listen_64 (by decide) (fun _ => ?_) (fun h9 => absurd h9 (by decide))
      refine lv_aload_n hx hb dX6_listen_138 rfl (lv_at hl 2 rfl) ?_
      refine lv_iload_n hx hb dX6_listen_139 rfl (lv_at hl 1 rfl) ?_
      refine lv_iload hx hb dX6_listen_140 (lv_at hl 0 rfl) ?_
      refine lv_if_ne (tgt := 149) hx hb dX6_listen_142 (by decide) (fun h9 => absurd h9 (by decide)) (fun _ => ?_)
      refine lv_iconst (v := 1) hx hb dX6_listen_145 (by decide) ?_
      refine lv_goto (tgt := 150) hx hb dX6_listen_146 (by decide) ?_
      refine lv_iconst (v := 0) hx hb dX6_listen_150 (by decide) ?_
      refine w_cali (w := wR a k) (va_runV (As := [.int 1, .int 1, .int 0]) (rest := []) ⟨hx, hb, hml, hown, hts⟩ (c_X6_throwing l dC dI a k u _ true true false) (cwV 3 hts (wG_V wG_c q_654 q_656 p_7 q_7 q_657) rfl rfl rfl (by decide +kernel) ⟨Nat.le_of_ble_eq_true rfl, Nat.le_of_ble_eq_true rfl⟩) (w_muV hK hP hD (ci := 6) (q0 := 0) rfl (wR_g0 a k _) rfl) rfl rfl hl.1 rfl (lv_room (Nat.le_of_ble_eq_true rfl)) dX6_listen_151 ⟨Nat.le_of_ble_eq_true rfl, Nat.le_of_ble_eq_true rfl⟩) hD hS hA (fun r_8 u_8 H locs hq_8 hP hD hS => ?_)
      obtain ⟨er9, eu9⟩ := hq_8
      subst er9 eu9
      refine wtopi (1) rfl ?_
      refine lv_if_eq (tgt := 159) hx hb dX6_listen_154 (by decide) (fun h9 => absurd h9 (by decide)) (fun _ => ?_)
      refine lv_iconst (v := 0) hx hb dX6_listen_157 (by decide) ?_
      exact W.iret (v := 0) hx hb hr (fun t9 ht9 hW9 => ⟨⟨_, cs_N u 4 (m_code true true false), rfl, ⟨fun _ => rfl, fun h9 => absurd h9 (by simp [c_7, c_15])⟩, by rw [ht9]; exact hP, va_K.moved hW9.alike hK, hD⟩, hS.F ht9⟩) hS.2.2 dX6_listen_158
