theorem c_bbw_le (u : c_St) (n : Nat) (t1 t2 : Int32) : c_bb u n t2 - c_bb u n t1 ≤ cu_F u 2 n := by
  have := c_bb_le u n t2
  omega

def c_mk1 (u : c_St) (sc ck tr : Nat) : c_St := cs_N (cs_D (cs_F u 5 (cu_N u 1) sc) 0 (cu_N u 1) ((tr : Int) - (ck : Int))) 1 (cu_N u 1 + 1)
def c_mk2 (u : c_St) (sc ck tr : Nat) : c_St := cs_N (cs_D (cs_D (cs_F u 5 (cu_N u 1) sc) 0 (cu_N u 1) ((tr : Int) - (ck : Int))) 1 sc (cu_N u 1 : Int)) 1 (cu_N u 1 + 1)
theorem c_ok_mk2 {u : c_St} (h : c_ok u) (hN : cu_N u 1 < 60) {sc ck tr : Nat} (h1 : sc ≤ 9) (h2 : ck ≤ 9999999) (h3 : tr ≤ 9999999) : c_ok (c_mk2 u sc ck tr) := by
  have e1 : cu_N (c_mk2 u sc ck tr) 1 = cu_N u 1 + 1 := rfl
  refine ⟨h.1, by rw [e1]; omega, h.2.2.1, fun m hm => ?_, fun s hs => ?_⟩
  · rw [e1] at hm
    by_cases hk : m = cu_N u 1
    · subst hk
      simp [c_mk2, cx_NN, cx_NF, cx_NB, cx_NG, cx_ND, cx_NL, cx_FN, cx_FF, cx_FB, cx_FG, cx_FD, cx_FL, cx_BN, cx_BF, cx_BB, cx_BG, cx_BD, cx_BL, cx_GN, cx_GF, cx_GB, cx_GG, cx_GD, cx_GL, cx_DN, cx_DF, cx_DB, cx_DG, cx_DD, cx_DL, cx_LN, cx_LF, cx_LB, cx_LG, cx_LD, cx_LL]
      omega
    · have h9 := h.2.2.2.1 m (by omega)
      simp [c_mk2, hk, cx_NN, cx_NF, cx_NB, cx_NG, cx_ND, cx_NL, cx_FN, cx_FF, cx_FB, cx_FG, cx_FD, cx_FL, cx_BN, cx_BF, cx_BB, cx_BG, cx_BD, cx_BL, cx_GN, cx_GF, cx_GB, cx_GG, cx_GD, cx_GL, cx_DN, cx_DF, cx_DB, cx_DG, cx_DD, cx_DL, cx_LN, cx_LF, cx_LB, cx_LG, cx_LD, cx_LL]
      omega
  · by_cases hk : s = sc
    · subst hk
      exact Or.inr ⟨cu_N u 1, by rw [e1]; omega, by simp [c_mk2, cx_NN, cx_NF, cx_NB, cx_NG, cx_ND, cx_NL, cx_FN, cx_FF, cx_FB, cx_FG, cx_FD, cx_FL, cx_BN, cx_BF, cx_BB, cx_BG, cx_BD, cx_BL, cx_GN, cx_GF, cx_GB, cx_GG, cx_GD, cx_GL, cx_DN, cx_DF, cx_DB, cx_DG, cx_DD, cx_DL, cx_LN, cx_LF, cx_LB, cx_LG, cx_LD, cx_LL]⟩
    · rcases h.2.2.2.2 s hs with q | ⟨j, q1, q2⟩
      · exact Or.inl (by simp [c_mk2, hk, cx_NN, cx_NF, cx_NB, cx_NG, cx_ND, cx_NL, cx_FN, cx_FF, cx_FB, cx_FG, cx_FD, cx_FL, cx_BN, cx_BF, cx_BB, cx_BG, cx_BD, cx_BL, cx_GN, cx_GF, cx_GB, cx_GG, cx_GD, cx_GL, cx_DN, cx_DF, cx_DB, cx_DG, cx_DD, cx_DL, cx_LN, cx_LF, cx_LB, cx_LG, cx_LD, cx_LL]; exact q)
      · exact Or.inr ⟨j, by rw [e1]; omega, by simp [c_mk2, hk, cx_NN, cx_NF, cx_NB, cx_NG, cx_ND, cx_NL, cx_FN, cx_FF, cx_FB, cx_FG, cx_FD, cx_FL, cx_BN, cx_BF, cx_BB, cx_BG, cx_BD, cx_BL, cx_GN, cx_GF, cx_GB, cx_GG, cx_GD, cx_GL, cx_DN, cx_DF, cx_DB, cx_DG, cx_DD, cx_DL, cx_LN, cx_LF, cx_LB, cx_LG, cx_LD, cx_LL]; exact q2⟩
set_option maxHeartbeats 4000000 in
set_option maxRecDepth 100000 in
theorem c_X5_mark (l : Launch) (dC : Nat → ClassId) (dI : Nat → Nat → Nat) (a : Nat → Nat) (k : c_K) (u : c_St) (sz : Nat) (h : c_ok u) (hN : cu_N u 1 < 60) (hp : cu_N u 2 ≤ 200) (ho : ∀ j, j < cu_N u 2 → cu_F u 6 j < cu_N u 0) (hi : ∀ i j, i < cu_N u 2 → j < cu_N u 2 → cu_F u 6 i = cu_F u 6 j → i = j) (sc ck tr : Nat) (h1 : sc ≤ 9) (h2 : ck ≤ 9999999) (h3 : tr ≤ 9999999) : Met l yX5_mark wsX5_mark ({ frames := 5, cells := 0, slots := 0, locals := 111 }) (va_Pc [.ref (a 0), .int (nI sc), .int (nI ck), .int (nI tr)] (w_mu (dC, dI) vwCl (wC a k u) (tC k) sz)) (va_Qi (fun (r : Int32) (u1 : c_St) => r = nI (cu_N u 1) ∧ ((cu_D u 1 sc = -1 ∧ ∃ f : Nat → Nat, u1 = cs_O (c_mk2 u sc ck tr) f ∧ c_mix (c_mk2 u sc ck tr) f (cu_N u 2) (cu_N u 2)) ∨ (cu_D u 1 sc ≠ -1 ∧ u1 = c_mk1 u sc ck tr))) (w_at (dC, dI) vwCl (wC a k) (tC k) (va_A (wC a k u) sz)) (va_A (wC a k u) sz)) 0 0 (va_A (wC a k u) sz) := by
  refine Met.ofW (cc := cX5_mark) (maxL := 5) (ret := (some .int)) (by decide) rfl ?_
  intro p e s m args below meth c s₁ B hml hv
  obtain ⟨rfl, hsz, hP, hK, hD0⟩ := hv
  have hx := B.exec
  have hb := B.bytes
  have hr := B.returns
  have hts := atoms_spec (ws := wsX5_mark) B.pre
  have htg : ∀ w ∈ wG, w.before _ s = true := fun w h => hts w (List.mem_cons_of_mem _ h)
  have hown : s.vm.findClass RX5 = some m.cls := findClass_of_methodNamed B.named
  have hlocks := B.notSynchronized
  subst hsz
  have hD := hD0.self (sz := s.heap.size)
  generalize hAe : va_A (wC a k u) s.heap.size = A at hD ⊢
  have hA : ∀ q : Nat, s.heap.size ≤ q → A q := fun q h => by rw [← hAe]; exact Or.inr h
  have hS : va_S A s.heap s.heap [] := va_S.rf
  have hl := lv_entry ([.ref (a 0), .int (nI sc), .int (nI ck), .int (nI tr)]) (n := 5) (Nat.le_of_ble_eq_true rfl)
  rw [lg_entry_eq]
  generalize (lg_sl ([.ref (a 0), .int (nI sc), .int (nI ck), .int (nI tr)]) ++ List.replicate (5 - (lg_sl ([.ref (a 0), .int (nI sc), .int (nI ck), .int (nI tr)])).length) Slot.unset).toArray = ls at hl ⊢
  have hl : lv_has ls 5 [(0, .ref (a 0)), (1, .int (nI sc)), (2, .int (nI ck)), (3, .int (nI tr))] := hl
  have hd9 : cu_D u 1 sc = -1 ∨ ∃ j : Nat, j < 60 ∧ cu_D u 1 sc = (j : Int) := by
    rcases h.2.2.2.2 sc (by omega) with q | ⟨j, q1, q2⟩
    · exact Or.inl q
    · exact Or.inr ⟨j, by omega, q2⟩
  refine lv_iload_n hx hb dX5_mark_0 rfl (lv_at hl 1 rfl) ?_
  refine va_csv (W.runS (As := [.int (nI sc)]) (rest := []) ⟨hx, hb, hml, hown, hts⟩ (c_X5_checkSource l dC dI a k u sc h1) (cwS 1 hts (wG_S wG_c q_241 q_242 q_1 q_243) rfl rfl rfl (by decide +kernel) ⟨Nat.le_of_ble_eq_true rfl, Nat.le_of_ble_eq_true rfl⟩) (w_roS hK hP) rfl rfl hl.1 rfl (lv_room (Nat.le_of_ble_eq_true rfl)) dX5_mark_1 ⟨Nat.le_of_ble_eq_true rfl, Nat.le_of_ble_eq_true rfl⟩) (fun _ => ?_)
  refine lv_iload_n hx hb dX5_mark_4 rfl (lv_at hl 2 rfl) ?_
  refine va_csv (W.runS (As := [.int (nI ck)]) (rest := []) ⟨hx, hb, hml, hown, hts⟩ (c_X5_checkTime l dC dI a k u ck h2) (cwS 1 hts (wG_S wG_c q_321 q_322 q_1 q_323) rfl rfl rfl (by decide +kernel) ⟨Nat.le_of_ble_eq_true rfl, Nat.le_of_ble_eq_true rfl⟩) (w_roS hK hP) rfl rfl hl.1 rfl (lv_room (Nat.le_of_ble_eq_true rfl)) dX5_mark_5 ⟨Nat.le_of_ble_eq_true rfl, Nat.le_of_ble_eq_true rfl⟩) (fun _ => ?_)
  refine lv_iload_n hx hb dX5_mark_8 rfl (lv_at hl 3 rfl) ?_
  refine va_csv (W.runS (As := [.int (nI tr)]) (rest := []) ⟨hx, hb, hml, hown, hts⟩ (c_X5_checkTime l dC dI a k u tr h3) (cwS 1 hts (wG_S wG_c q_321 q_322 q_1 q_323) rfl rfl rfl (by decide +kernel) ⟨Nat.le_of_ble_eq_true rfl, Nat.le_of_ble_eq_true rfl⟩) (w_roS hK hP) rfl rfl hl.1 rfl (lv_room (Nat.le_of_ble_eq_true rfl)) dX5_mark_9 ⟨Nat.le_of_ble_eq_true rfl, Nat.le_of_ble_eq_true rfl⟩) (fun _ => ?_)
  refine lv_aload_n hx hb dX5_mark_12 rfl (lv_at hl 0 rfl) ?_
  refine va_get (D := (dC, dI)) (ci := 5) (v := .ref (a 2)) (C := RX5) (T := TX5) (N := 6) hx hb htg inX5 hown hK hP 0 (wC_g0 a k _) rfl 1 (by decide) (htg _ q_161) (fun _ h9 => h9) rfl dX5_mark_13 ?_
  refine va_get (D := (dC, dI)) (ci := 3) (v := .int (nI (cu_N u 1))) (C := RX3) (T := TX3) (N := 4) hx hb htg inX3 hown hK hP 2 (wC_g2 a k _) rfl 3 (by decide) (htg _ q_80) (fun _ h9 => h9) rfl dX5_mark_16 ?_
  refine lv_bipush (v := 60) hx hb dX5_mark_19 (by decide) ?_
  refine nb_lt (a := (cu_N u 1)) (b := 60) (tgt := 34) hx hb (by omega) (by omega) rfl rfl dX5_mark_21 (by decide) (fun c_21 => ?_) (fun c_21 => ?_)
  · refine lv_aload_n hx hb dX5_mark_34 rfl (lv_at hl 0 rfl) ?_
    refine va_get (D := (dC, dI)) (ci := 5) (v := .ref (a 2)) (C := RX5) (T := TX5) (N := 6) hx hb htg inX5 hown hK hP 0 (wC_g0 a k _) rfl 1 (by decide) (htg _ q_161) (fun _ h9 => h9) rfl dX5_mark_35 ?_
    refine lv_iload_n hx hb dX5_mark_38 rfl (lv_at hl 1 rfl) ?_
    refine lv_iload_n hx hb dX5_mark_39 rfl (lv_at hl 3 rfl) ?_
    refine lv_iload_n hx hb dX5_mark_40 rfl (lv_at hl 2 rfl) ?_
    refine lv_isub hx hb dX5_mark_41 ?_
    refine wtopi (y := iI ((tr : Int) - (ck : Int))) (by rw [nI_iI, nI_iI, iI_sub]) ?_
    refine w_cali (w := wC a k) (va_runV (As := [.int (nI sc), .int (iI ((tr : Int) - (ck : Int)))]) (rest := []) ⟨hx, hb, hml, hown, hts⟩ (c_X3_add l dC dI a k u _ sc ((tr : Int) - (ck : Int)) hN (by omega) hd9) (cwV 2 hts (wG_V wG_c q_383 q_384 q_385 q_3 q_386) rfl rfl rfl (by decide +kernel) ⟨Nat.le_of_ble_eq_true rfl, Nat.le_of_ble_eq_true rfl⟩) (w_muV hK hP hD (ci := 3) (q0 := 2) rfl (wC_g2 a k _) rfl) rfl rfl hl.1 rfl (lv_room (Nat.le_of_ble_eq_true rfl)) dX5_mark_42 ⟨Nat.le_of_ble_eq_true rfl, Nat.le_of_ble_eq_true rfl⟩) hD hS hA (fun r_1 u_1 H locs hq_1 hP hD hS => ?_)
    obtain ⟨er9, eu9⟩ := hq_1
    subst er9
    rcases eu9 with ⟨hD1, eu9⟩ | ⟨hD1, eu9⟩
    · subst eu9
      refine lv_istore (lv' := [(4, .int (nI (cu_N u 1))), (0, .ref (a 0)), (1, .int (nI sc)), (2, .int (nI ck)), (3, .int (nI tr))]) hx hb dX5_mark_45 hl (by decide) rfl (fun ls hl => ?_)
      refine lv_aload_n hx hb dX5_mark_47 rfl (lv_at hl 1 rfl) ?_
      refine va_get (D := (dC, dI)) (ci := 5) (v := .ref (a 2)) (C := RX5) (T := TX5) (N := 6) hx hb htg inX5 hown hK hP 0 (wC_g0 a k _) rfl 1 (by decide) (htg _ q_161) (fun _ h9 => h9) rfl dX5_mark_48 ?_
      refine va_get (D := (dC, dI)) (ci := 3) (v := .ref (a 17)) (C := RX3) (T := TX3) (N := 4) hx hb htg inX3 hown hK hP 2 (wC_g2 a k _) rfl 2 (by decide) (htg _ q_78) (fun _ h9 => h9) rfl dX5_mark_51 ?_
      refine lv_iload_n hx hb dX5_mark_54 rfl (lv_at hl 2 rfl) ?_
      refine va_iald hx hb hK hP 17 0 (wC_g17 a k _) rfl (vp_in_nI (n := sc) (N := 10) (show sc < 10 by omega) (by decide)) dX5_mark_55 ?_
      refine wtopi (iI (cu_D (c_mk2 u sc ck tr) 1 sc)) (congrArg (fun j9 => iI (cu_D (c_mk2 u sc ck tr) 1 j9)) (nI_clamp (n := sc) (Nat.lt_trans (m := 10) (show sc < 10 by omega) (by decide)))) ?_
      refine wtopi (y := nI (cu_N u 1)) (show iI (cu_D (c_mk2 u sc ck tr) 1 sc) = nI (cu_N u 1) from by rw [nI_iI]; simp [c_mk2, cx_NN, cx_NF, cx_NB, cx_NG, cx_ND, cx_NL, cx_FN, cx_FF, cx_FB, cx_FG, cx_FD, cx_FL, cx_BN, cx_BF, cx_BB, cx_BG, cx_BD, cx_BL, cx_GN, cx_GF, cx_GB, cx_GG, cx_GD, cx_GL, cx_DN, cx_DF, cx_DB, cx_DG, cx_DD, cx_DL, cx_LN, cx_LF, cx_LB, cx_LG, cx_LD, cx_LL]) ?_
      refine lv_iload hx hb dX5_mark_56 (lv_at hl 0 rfl) ?_
      refine nb_ne (a := (cu_N u 1)) (b := (cu_N u 1)) (tgt := 68) hx hb (by omega) (by omega) rfl rfl dX5_mark_58 (by decide) (fun c_58 => ?_) (fun c_58 => ?_)
      · exact absurd rfl c_58
      · refine lv_aload_n hx hb dX5_mark_61 rfl (lv_at hl 1 rfl) ?_
        refine va_get (D := (dC, dI)) (ci := 5) (v := .ref (a 3)) (C := RX5) (T := TX5) (N := 6) hx hb htg inX5 hown hK hP 0 (wC_g0 a k _) rfl 2 (by decide) (htg _ q_162) (fun _ h9 => h9) rfl dX5_mark_62 ?_
        refine w_calv (w := wC a k) (va_runV (As := []) (rest := []) ⟨hx, hb, hml, hown, hts⟩ (c_X1_sortAgain l dC dI a k (c_mk2 u sc ck tr) _ (c_ok_mk2 h hN h1 h2 h3) hp ho hi) (cwV 0 hts (wG_V wG_c q_387 q_388 q_389 q_4 q_390) rfl rfl rfl (by decide +kernel) ⟨Nat.le_of_ble_eq_true rfl, Nat.le_of_ble_eq_true rfl⟩) (w_muV hK hP hD (ci := 1) (q0 := 3) rfl (wC_g3 a k _) rfl) rfl rfl hl.1 rfl (lv_room (Nat.le_of_ble_eq_true rfl)) dX5_mark_65 ⟨Nat.le_of_ble_eq_true rfl, Nat.le_of_ble_eq_true rfl⟩) hD hS hA (fun u_2 H locs hq_2 hP hD hS => ?_)
        obtain ⟨f, eu9, hmx⟩ := hq_2
        subst eu9
        refine lv_iload hx hb dX5_mark_68 (lv_at hl 0 rfl) ?_
        exact W.iret (v := nI (cu_N u 1)) hx hb hr (fun t9 ht9 hW9 => ⟨⟨_, cs_O (c_mk2 u sc ck tr) f, rfl, ⟨rfl, Or.inl ⟨hD1, f, rfl, hmx⟩⟩, by rw [ht9]; exact hP, va_K.moved hW9.alike hK, hD⟩, hS.F ht9⟩) hS.2.2 dX5_mark_70
    · subst eu9
      obtain ⟨j, hj, ej⟩ : ∃ j : Nat, j < cu_N u 1 ∧ cu_D u 1 sc = (j : Int) := by
        rcases h.2.2.2.2 sc (by omega) with q | q
        · exact absurd q hD1
        · exact q
      refine lv_istore (lv' := [(4, .int (nI (cu_N u 1))), (0, .ref (a 0)), (1, .int (nI sc)), (2, .int (nI ck)), (3, .int (nI tr))]) hx hb dX5_mark_45 hl (by decide) rfl (fun ls hl => ?_)
      refine lv_aload_n hx hb dX5_mark_47 rfl (lv_at hl 1 rfl) ?_
      refine va_get (D := (dC, dI)) (ci := 5) (v := .ref (a 2)) (C := RX5) (T := TX5) (N := 6) hx hb htg inX5 hown hK hP 0 (wC_g0 a k _) rfl 1 (by decide) (htg _ q_161) (fun _ h9 => h9) rfl dX5_mark_48 ?_
      refine va_get (D := (dC, dI)) (ci := 3) (v := .ref (a 17)) (C := RX3) (T := TX3) (N := 4) hx hb htg inX3 hown hK hP 2 (wC_g2 a k _) rfl 2 (by decide) (htg _ q_78) (fun _ h9 => h9) rfl dX5_mark_51 ?_
      refine lv_iload_n hx hb dX5_mark_54 rfl (lv_at hl 2 rfl) ?_
      refine va_iald hx hb hK hP 17 0 (wC_g17 a k _) rfl (vp_in_nI (n := sc) (N := 10) (show sc < 10 by omega) (by decide)) dX5_mark_55 ?_
      refine wtopi (iI (cu_D (c_mk1 u sc ck tr) 1 sc)) (congrArg (fun j9 => iI (cu_D (c_mk1 u sc ck tr) 1 j9)) (nI_clamp (n := sc) (Nat.lt_trans (m := 10) (show sc < 10 by omega) (by decide)))) ?_
      refine wtopi (y := nI j) (show iI (cu_D u 1 sc) = nI j from by rw [ej, nI_iI]) ?_
      refine lv_iload hx hb dX5_mark_56 (lv_at hl 0 rfl) ?_
      refine nb_ne (a := j) (b := (cu_N u 1)) (tgt := 68) hx hb (by omega) (by omega) rfl rfl dX5_mark_58 (by decide) (fun c_58 => ?_) (fun c_58 => ?_)
      · refine lv_iload hx hb dX5_mark_68 (lv_at hl 0 rfl) ?_
        exact W.iret (v := nI (cu_N u 1)) hx hb hr (fun t9 ht9 hW9 => ⟨⟨_, (c_mk1 u sc ck tr), rfl, ⟨rfl, Or.inr ⟨hD1, rfl⟩⟩, by rw [ht9]; exact hP, va_K.moved hW9.alike hK, hD⟩, hS.F ht9⟩) hS.2.2 dX5_mark_70
      · exact absurd c_58 (by omega)
  · exact absurd c_21 (by omega)
set_option maxHeartbeats 4000000 in
set_option maxRecDepth 100000 in
theorem x_X5_mark_1 (l : Launch) (dC : Nat → ClassId) (dI : Nat → Nat → Nat) (a : Nat → Nat) (k : c_K) (u : c_St) (sz : Nat) (hst : l.stackTraces = false) (p0 p1 p2 : Int32) (hb9 : inR p0 0 9 = false) : XMet l yX5_mark wsX5_mark ({ frames := 7, cells := 1, slots := 6, locals := 102 }) (va_Pc [.ref (a 0), .int p0, .int p1, .int p2] (w_px (dC, dI) vwCl (wC a k u) (tC k) sz)) (x_C eIAE sz) 1 6 (va_A [] sz) := by
  refine XMet.ofW (cc := cX5_mark) (maxL := 5) (ret := (some .int)) (by decide) rfl ?_
  intro p e s m args below meth c s₁ B hml hv
  obtain ⟨rfl, hsz, hP, hK, hX⟩ := hv
  have hx := B.exec
  have hb := B.bytes
  have hts := atoms_spec (ws := wsX5_mark) B.pre
  have htg : ∀ w ∈ wG, w.before _ s = true := fun w h => hts w (List.mem_cons_of_mem _ h)
  have hown : s.vm.findClass RX5 = some m.cls := findClass_of_methodNamed B.named
  have hlocks := B.notSynchronized
  have hnoh : ∀ x ∈ c.exceptionTable.toList, False := fun x hx9 => by
    have h9 := B.noHandlers (hts _ List.mem_cons_self)
    rw [Array.isEmpty_iff.mp h9] at hx9
    cases hx9
  subst hsz
  have hl := lv_entry ([.ref (a 0), .int p0, .int p1, .int p2]) (n := 5) (Nat.le_of_ble_eq_true rfl)
  rw [lg_entry_eq]
  generalize (lg_sl ([.ref (a 0), .int p0, .int p1, .int p2]) ++ List.replicate (5 - (lg_sl ([.ref (a 0), .int p0, .int p1, .int p2])).length) Slot.unset).toArray = ls at hl ⊢
  have hl : lv_has ls 5 [(0, .ref (a 0)), (1, .int p0), (2, .int p1), (3, .int p2)] := hl
  refine lv_iload_n hx hb dX5_mark_0 rfl (lv_at hl 1 rfl) ?_
  refine XW.callS (As := [.int p0]) (rest := []) ⟨hx, hb, hml, hown, hts⟩ (x_X5_checkSource l dC dI a k u _ hst p0 hb9) (cwS 1 hts (wG_S wG_c q_241 q_242 q_1 q_243) rfl rfl rfl (by decide +kernel) ⟨Nat.le_of_ble_eq_true rfl, Nat.le_of_ble_eq_true rfl⟩) (w_pxS hK hP hX) rfl hl.1 rfl (Nat.le_of_ble_eq_true rfl) dX5_mark_1 ⟨Nat.le_of_ble_eq_true rfl, Nat.le_of_ble_eq_true rfl⟩ (fun q9 st9 t9 H9 L9 h0 hfc ht9 _ hxc hL9 => ?_)
  exact x_on (fun x h9 => (hnoh x h9).elim) hlocks h0 hfc ht9 hxc hL9 (Nat.le_refl _) (Nat.le_refl _)
set_option maxHeartbeats 4000000 in
set_option maxRecDepth 100000 in
theorem x_X5_mark_2 (l : Launch) (dC : Nat → ClassId) (dI : Nat → Nat → Nat) (a : Nat → Nat) (k : c_K) (u : c_St) (sz : Nat) (hst : l.stackTraces = false) (sc : Nat) (h1 : sc ≤ 9) (p1 p2 : Int32) (hb9 : inR p1 0 9999999 = false) : XMet l yX5_mark wsX5_mark ({ frames := 7, cells := 1, slots := 6, locals := 102 }) (va_Pc [.ref (a 0), .int (nI sc), .int p1, .int p2] (w_px (dC, dI) vwCl (wC a k u) (tC k) sz)) (x_C eIOE sz) 1 6 (va_A [] sz) := by
  refine XMet.ofW (cc := cX5_mark) (maxL := 5) (ret := (some .int)) (by decide) rfl ?_
  intro p e s m args below meth c s₁ B hml hv
  obtain ⟨rfl, hsz, hP, hK, hX⟩ := hv
  have hx := B.exec
  have hb := B.bytes
  have hts := atoms_spec (ws := wsX5_mark) B.pre
  have htg : ∀ w ∈ wG, w.before _ s = true := fun w h => hts w (List.mem_cons_of_mem _ h)
  have hown : s.vm.findClass RX5 = some m.cls := findClass_of_methodNamed B.named
  have hlocks := B.notSynchronized
  have hnoh : ∀ x ∈ c.exceptionTable.toList, False := fun x hx9 => by
    have h9 := B.noHandlers (hts _ List.mem_cons_self)
    rw [Array.isEmpty_iff.mp h9] at hx9
    cases hx9
  subst hsz
  have hl := lv_entry ([.ref (a 0), .int (nI sc), .int p1, .int p2]) (n := 5) (Nat.le_of_ble_eq_true rfl)
  rw [lg_entry_eq]
  generalize (lg_sl ([.ref (a 0), .int (nI sc), .int p1, .int p2]) ++ List.replicate (5 - (lg_sl ([.ref (a 0), .int (nI sc), .int p1, .int p2])).length) Slot.unset).toArray = ls at hl ⊢
  have hl : lv_has ls 5 [(0, .ref (a 0)), (1, .int (nI sc)), (2, .int p1), (3, .int p2)] := hl
  refine lv_iload_n hx hb dX5_mark_0 rfl (lv_at hl 1 rfl) ?_
  refine va_csv (W.runS (As := [.int (nI sc)]) (rest := []) ⟨hx, hb, hml, hown, hts⟩ (c_X5_checkSource l dC dI a k u sc h1) (cwS 1 hts (wG_S wG_c q_241 q_242 q_1 q_243) rfl rfl rfl (by decide +kernel) ⟨Nat.le_of_ble_eq_true rfl, Nat.le_of_ble_eq_true rfl⟩) (w_roS hK hP) rfl rfl hl.1 rfl (lv_room (Nat.le_of_ble_eq_true rfl)) dX5_mark_1 ⟨Nat.le_of_ble_eq_true rfl, Nat.le_of_ble_eq_true rfl⟩) (fun _ => ?_)
  refine lv_iload_n hx hb dX5_mark_4 rfl (lv_at hl 2 rfl) ?_
  refine XW.callS (As := [.int p1]) (rest := []) ⟨hx, hb, hml, hown, hts⟩ (x_X5_checkTime l dC dI a k u _ hst p1 hb9) (cwS 1 hts (wG_S wG_c q_321 q_322 q_1 q_323) rfl rfl rfl (by decide +kernel) ⟨Nat.le_of_ble_eq_true rfl, Nat.le_of_ble_eq_true rfl⟩) (w_pxS hK hP hX) rfl hl.1 rfl (Nat.le_of_ble_eq_true rfl) dX5_mark_5 ⟨Nat.le_of_ble_eq_true rfl, Nat.le_of_ble_eq_true rfl⟩ (fun q9 st9 t9 H9 L9 h0 hfc ht9 _ hxc hL9 => ?_)
  exact x_on (fun x h9 => (hnoh x h9).elim) hlocks h0 hfc ht9 hxc hL9 (Nat.le_refl _) (Nat.le_refl _)
set_option maxHeartbeats 4000000 in
set_option maxRecDepth 100000 in
theorem x_X5_mark_3 (l : Launch) (dC : Nat → ClassId) (dI : Nat → Nat → Nat) (a : Nat → Nat) (k : c_K) (u : c_St) (sz : Nat) (hst : l.stackTraces = false) (sc ck : Nat) (h1 : sc ≤ 9) (h2 : ck ≤ 9999999) (p2 : Int32) (hb9 : inR p2 0 9999999 = false) : XMet l yX5_mark wsX5_mark ({ frames := 7, cells := 1, slots := 6, locals := 102 }) (va_Pc [.ref (a 0), .int (nI sc), .int (nI ck), .int p2] (w_px (dC, dI) vwCl (wC a k u) (tC k) sz)) (x_C eIOE sz) 1 6 (va_A [] sz) := by
  refine XMet.ofW (cc := cX5_mark) (maxL := 5) (ret := (some .int)) (by decide) rfl ?_
  intro p e s m args below meth c s₁ B hml hv
  obtain ⟨rfl, hsz, hP, hK, hX⟩ := hv
  have hx := B.exec
  have hb := B.bytes
  have hts := atoms_spec (ws := wsX5_mark) B.pre
  have htg : ∀ w ∈ wG, w.before _ s = true := fun w h => hts w (List.mem_cons_of_mem _ h)
  have hown : s.vm.findClass RX5 = some m.cls := findClass_of_methodNamed B.named
  have hlocks := B.notSynchronized
  have hnoh : ∀ x ∈ c.exceptionTable.toList, False := fun x hx9 => by
    have h9 := B.noHandlers (hts _ List.mem_cons_self)
    rw [Array.isEmpty_iff.mp h9] at hx9
    cases hx9
  subst hsz
  have hl := lv_entry ([.ref (a 0), .int (nI sc), .int (nI ck), .int p2]) (n := 5) (Nat.le_of_ble_eq_true rfl)
  rw [lg_entry_eq]
  generalize (lg_sl ([.ref (a 0), .int (nI sc), .int (nI ck), .int p2]) ++ List.replicate (5 - (lg_sl ([.ref (a 0), .int (nI sc), .int (nI ck), .int p2])).length) Slot.unset).toArray = ls at hl ⊢
  have hl : lv_has ls 5 [(0, .ref (a 0)), (1, .int (nI sc)), (2, .int (nI ck)), (3, .int p2)] := hl
  refine lv_iload_n hx hb dX5_mark_0 rfl (lv_at hl 1 rfl) ?_
  refine va_csv (W.runS (As := [.int (nI sc)]) (rest := []) ⟨hx, hb, hml, hown, hts⟩ (c_X5_checkSource l dC dI a k u sc h1) (cwS 1 hts (wG_S wG_c q_241 q_242 q_1 q_243) rfl rfl rfl (by decide +kernel) ⟨Nat.le_of_ble_eq_true rfl, Nat.le_of_ble_eq_true rfl⟩) (w_roS hK hP) rfl rfl hl.1 rfl (lv_room (Nat.le_of_ble_eq_true rfl)) dX5_mark_1 ⟨Nat.le_of_ble_eq_true rfl, Nat.le_of_ble_eq_true rfl⟩) (fun _ => ?_)
  refine lv_iload_n hx hb dX5_mark_4 rfl (lv_at hl 2 rfl) ?_
  refine va_csv (W.runS (As := [.int (nI ck)]) (rest := []) ⟨hx, hb, hml, hown, hts⟩ (c_X5_checkTime l dC dI a k u ck h2) (cwS 1 hts (wG_S wG_c q_321 q_322 q_1 q_323) rfl rfl rfl (by decide +kernel) ⟨Nat.le_of_ble_eq_true rfl, Nat.le_of_ble_eq_true rfl⟩) (w_roS hK hP) rfl rfl hl.1 rfl (lv_room (Nat.le_of_ble_eq_true rfl)) dX5_mark_5 ⟨Nat.le_of_ble_eq_true rfl, Nat.le_of_ble_eq_true rfl⟩) (fun _ => ?_)
  refine lv_iload_n hx hb dX5_mark_8 rfl (lv_at hl 3 rfl) ?_
  refine XW.callS (As := [.int p2]) (rest := []) ⟨hx, hb, hml, hown, hts⟩ (x_X5_checkTime l dC dI a k u _ hst p2 hb9) (cwS 1 hts (wG_S wG_c q_321 q_322 q_1 q_323) rfl rfl rfl (by decide +kernel) ⟨Nat.le_of_ble_eq_true rfl, Nat.le_of_ble_eq_true rfl⟩) (w_pxS hK hP hX) rfl hl.1 rfl (Nat.le_of_ble_eq_true rfl) dX5_mark_9 ⟨Nat.le_of_ble_eq_true rfl, Nat.le_of_ble_eq_true rfl⟩ (fun q9 st9 t9 H9 L9 h0 hfc ht9 _ hxc hL9 => ?_)
  exact x_on (fun x h9 => (hnoh x h9).elim) hlocks h0 hfc ht9 hxc hL9 (Nat.le_refl _) (Nat.le_refl _)
set_option maxHeartbeats 4000000 in
set_option maxRecDepth 100000 in
theorem x_X5_mark_4 (l : Launch) (dC : Nat → ClassId) (dI : Nat → Nat → Nat) (a : Nat → Nat) (k : c_K) (u : c_St) (sz : Nat) (hst : l.stackTraces = false) (sc ck tr : Nat) (h1 : sc ≤ 9) (h2 : ck ≤ 9999999) (h3 : tr ≤ 9999999) (hN : cu_N u 1 = 60) : XMet l yX5_mark wsX5_mark ({ frames := 6, cells := 1, slots := 6, locals := 82 }) (va_Pc [.ref (a 0), .int (nI sc), .int (nI ck), .int (nI tr)] (w_px (dC, dI) vwCl (wC a k u) (tC k) sz)) (x_C eUOE sz) 1 6 (va_A [] sz) := by
  refine XMet.ofW (cc := cX5_mark) (maxL := 5) (ret := (some .int)) (by decide) rfl ?_
  intro p e s m args below meth c s₁ B hml hv
  obtain ⟨rfl, hsz, hP, hK, hX⟩ := hv
  have hx := B.exec
  have hb := B.bytes
  have hts := atoms_spec (ws := wsX5_mark) B.pre
  have htg : ∀ w ∈ wG, w.before _ s = true := fun w h => hts w (List.mem_cons_of_mem _ h)
  have hown : s.vm.findClass RX5 = some m.cls := findClass_of_methodNamed B.named
  have hlocks := B.notSynchronized
  have hnoh : ∀ x ∈ c.exceptionTable.toList, False := fun x hx9 => by
    have h9 := B.noHandlers (hts _ List.mem_cons_self)
    rw [Array.isEmpty_iff.mp h9] at hx9
    cases hx9
  subst hsz
  have hl := lv_entry ([.ref (a 0), .int (nI sc), .int (nI ck), .int (nI tr)]) (n := 5) (Nat.le_of_ble_eq_true rfl)
  rw [lg_entry_eq]
  generalize (lg_sl ([.ref (a 0), .int (nI sc), .int (nI ck), .int (nI tr)]) ++ List.replicate (5 - (lg_sl ([.ref (a 0), .int (nI sc), .int (nI ck), .int (nI tr)])).length) Slot.unset).toArray = ls at hl ⊢
  have hl : lv_has ls 5 [(0, .ref (a 0)), (1, .int (nI sc)), (2, .int (nI ck)), (3, .int (nI tr))] := hl
  refine lv_iload_n hx hb dX5_mark_0 rfl (lv_at hl 1 rfl) ?_
  refine va_csv (W.runS (As := [.int (nI sc)]) (rest := []) ⟨hx, hb, hml, hown, hts⟩ (c_X5_checkSource l dC dI a k u sc h1) (cwS 1 hts (wG_S wG_c q_241 q_242 q_1 q_243) rfl rfl rfl (by decide +kernel) ⟨Nat.le_of_ble_eq_true rfl, Nat.le_of_ble_eq_true rfl⟩) (w_roS hK hP) rfl rfl hl.1 rfl (lv_room (Nat.le_of_ble_eq_true rfl)) dX5_mark_1 ⟨Nat.le_of_ble_eq_true rfl, Nat.le_of_ble_eq_true rfl⟩) (fun _ => ?_)
  refine lv_iload_n hx hb dX5_mark_4 rfl (lv_at hl 2 rfl) ?_
  refine va_csv (W.runS (As := [.int (nI ck)]) (rest := []) ⟨hx, hb, hml, hown, hts⟩ (c_X5_checkTime l dC dI a k u ck h2) (cwS 1 hts (wG_S wG_c q_321 q_322 q_1 q_323) rfl rfl rfl (by decide +kernel) ⟨Nat.le_of_ble_eq_true rfl, Nat.le_of_ble_eq_true rfl⟩) (w_roS hK hP) rfl rfl hl.1 rfl (lv_room (Nat.le_of_ble_eq_true rfl)) dX5_mark_5 ⟨Nat.le_of_ble_eq_true rfl, Nat.le_of_ble_eq_true rfl⟩) (fun _ => ?_)
  refine lv_iload_n hx hb dX5_mark_8 rfl (lv_at hl 3 rfl) ?_
  refine va_csv (W.runS (As := [.int (nI tr)]) (rest := []) ⟨hx, hb, hml, hown, hts⟩ (c_X5_checkTime l dC dI a k u tr h3) (cwS 1 hts (wG_S wG_c q_321 q_322 q_1 q_323) rfl rfl rfl (by decide +kernel) ⟨Nat.le_of_ble_eq_true rfl, Nat.le_of_ble_eq_true rfl⟩) (w_roS hK hP) rfl rfl hl.1 rfl (lv_room (Nat.le_of_ble_eq_true rfl)) dX5_mark_9 ⟨Nat.le_of_ble_eq_true rfl, Nat.le_of_ble_eq_true rfl⟩) (fun _ => ?_)
  refine lv_aload_n hx hb dX5_mark_12 rfl (lv_at hl 0 rfl) ?_
  refine va_get (D := (dC, dI)) (ci := 5) (v := .ref (a 2)) (C := RX5) (T := TX5) (N := 6) hx hb htg inX5 hown hK hP 0 (wC_g0 a k _) rfl 1 (by decide) (htg _ q_161) (fun _ h9 => h9) rfl dX5_mark_13 ?_
  refine va_get (D := (dC, dI)) (ci := 3) (v := .int (nI (cu_N u 1))) (C := RX3) (T := TX3) (N := 4) hx hb htg inX3 hown hK hP 2 (wC_g2 a k _) rfl 3 (by decide) (htg _ q_80) (fun _ h9 => h9) rfl dX5_mark_16 ?_
  refine lv_bipush (v := 60) hx hb dX5_mark_19 (by decide) ?_
  refine nb_lt (a := (cu_N u 1)) (b := 60) (tgt := 34) hx hb (by omega) (by omega) rfl rfl dX5_mark_21 (by decide) (fun c_21 => ?_) (fun c_21 => ?_)
  · exact absurd c_21 (by omega)
  · exact x_throw (E := eUOE) (text := "there are 60 marks") (A := va_A [] s.heap.size) hx hb hst hown (by decide +kernel) htg hX own_UOE q_342 q_343 q_13 (by decide +kernel) va_S.rf (hl.1.trans hml.symm) dX5_mark_24 dX5_mark_27 dX5_mark_28 dX5_mark_30 dX5_mark_33 (fun x h9 => (hnoh x h9).elim) (Nat.le_of_ble_eq_true rfl) (Nat.le_of_ble_eq_true rfl) (Nat.le_of_ble_eq_true rfl) (Nat.le_of_ble_eq_true rfl) hlocks (fun q9 t9 ce9 _ z1 z2 z3 z4 z5 => ⟨⟨ce9, z3, z4, z5⟩, z1, fun z z6 _ => z2 z z6⟩) (fun _ h9 => by cases h9) (Nat.le_refl _) (Nat.le_refl _)
set_option maxHeartbeats 4000000 in
set_option maxRecDepth 100000 in
theorem c_X5_find (l : Launch) (dC : Nat → ClassId) (dI : Nat → Nat → Nat) (a : Nat → Nat) (k : c_K) (u : c_St) (h : c_ok u) (hL : cu_N u 2 ≤ 200) (ho : ∀ j, j < cu_N u 2 → cu_F u 6 j < cu_N u 0) (t1 t2 pu pi : Int32) (q : Nat) (hq : q < 2147483648) (hpu : pu = -1 ∨ ∃ j : Nat, j ≤ 99 ∧ pu = nI j) (hpi : pi = -1 ∨ ∃ j : Nat, j ≤ 49 ∧ pi = nI j) : Met l yX5_find wsX5_find ({ frames := 4, cells := 0, slots := 0, locals := 90 }) (va_Pc [.ref (a 0), .int t1, .int t2, .int pu, .int pi, .int (nI q)] (w_ro (dC, dI) vwCl (wC a k u) (tC k))) (vp_Si (fun r => r = iI (c_fd u t1 t2 pu pi q (cu_N u 2)))) 0 0 (fun _ => False) := by
  refine Met.ofW (cc := cX5_find) (maxL := 9) (ret := (some .int)) (by decide) rfl ?_
  intro p e s m args below meth c s₁ B hml hv
  obtain ⟨rfl, hP, hK⟩ := hv
  have hx := B.exec
  have hb := B.bytes
  have hr := B.returns
  have hts := atoms_spec (ws := wsX5_find) B.pre
  have htg : ∀ w ∈ wG, w.before _ s = true := fun w h => hts w (List.mem_cons_of_mem _ h)
  have hown : s.vm.findClass RX5 = some m.cls := findClass_of_methodNamed B.named
  have hlocks := B.notSynchronized
  have hl := lv_entry ([.ref (a 0), .int t1, .int t2, .int pu, .int pi, .int (nI q)]) (n := 9) (Nat.le_of_ble_eq_true rfl)
  rw [lg_entry_eq]
  generalize (lg_sl ([.ref (a 0), .int t1, .int t2, .int pu, .int pi, .int (nI q)]) ++ List.replicate (9 - (lg_sl ([.ref (a 0), .int t1, .int t2, .int pu, .int pi, .int (nI q)])).length) Slot.unset).toArray = ls at hl ⊢
  have hl : lv_has ls 9 [(0, .ref (a 0)), (1, .int t1), (2, .int t2), (3, .int pu), (4, .int pi), (5, .int (nI q))] := hl
  have h20 := h.1
  have key : ∀ ls : Array Slot, lv_has ls 9 [(0, .ref (a 0)), (1, .int t1), (2, .int t2), (3, .int pu), (4, .int pi), (5, .int (nI q))] → W p l e (headSpec wsX5_find ({ frames := 4, cells := 0, slots := 0, locals := 90 })).room s m #[Value.ref (a 0), Value.int t1, Value.int t2, Value.int pu, Value.int pi, Value.int (nI q)] below meth c s.heap [] 0 0 (MQ below (vp_Si (fun r => r = iI (c_fd u t1 t2 pu pi q (cu_N u 2)))) #[Value.ref (a 0), Value.int t1, Value.int t2, Value.int pu, Value.int pi, Value.int (nI q)] s 0 0 (fun _ => False)) (F0 m 20 ls []) := by
    clear hl
    intro ls hl
    refine lv_iload hx hb dX5_find_20 (lv_at hl 5 rfl) ?_
    refine va_csv (W.runS (As := [.int (nI q)]) (rest := []) ⟨hx, hb, hml, hown, hts⟩ (c_X5_checkPlace l dC dI a k u q hq) (cwS 1 hts (wG_S wG_c q_406 q_407 q_1 q_408) rfl rfl rfl (by decide +kernel) ⟨Nat.le_of_ble_eq_true rfl, Nat.le_of_ble_eq_true rfl⟩) (w_roS hK hP) rfl rfl hl.1 rfl (lv_room (Nat.le_of_ble_eq_true rfl)) dX5_find_22 ⟨Nat.le_of_ble_eq_true rfl, Nat.le_of_ble_eq_true rfl⟩) (fun _ => ?_)
    refine lv_iconst (v := 0) hx hb dX5_find_25 (by decide) ?_
    refine lv_istore (lv' := [(6, .int 0), (0, .ref (a 0)), (1, .int t1), (2, .int t2), (3, .int pu), (4, .int pi), (5, .int (nI q))]) hx hb dX5_find_26 hl (by decide) rfl (fun ls hl => ?_)
    refine lv_iconst (v := 0) hx hb dX5_find_28 (by decide) ?_
    refine lv_istore (lv' := [(7, .int 0), (6, .int 0), (0, .ref (a 0)), (1, .int t1), (2, .int t2), (3, .int pu), (4, .int pi), (5, .int (nI q))]) hx hb dX5_find_29 hl (by decide) rfl (fun ls hl => ?_)
    refine w_loop (fun k9 : Nat => cu_N u 2 - k9) (fun k9 ls => (k9 ≤ cu_N u 2 ∧ c_fd u t1 t2 pu pi q k9 = -1) ∧ lv_has ls 9 [(0, .ref (a 0)), (1, .int t1), (2, .int t2), (3, .int pu), (4, .int pi), (5, .int (nI q)), (6, .int (nI (c_fc u t1 t2 pu pi k9))), (7, .int (nI k9))]) ?_ (0) ls ⟨⟨Nat.zero_le _, rfl⟩, lv_sub hl [2, 3, 4, 5, 6, 7, 1, 0] rfl⟩
    clear hl
    intro k9 ls hI ih
    obtain ⟨hI, hl⟩ := hI
    refine lv_iload hx hb dX5_find_31 (lv_at hl 7 rfl) ?_
    refine lv_aload_n hx hb dX5_find_33 rfl (lv_at hl 0 rfl) ?_
    refine va_get (D := (dC, dI)) (ci := 5) (v := .ref (a 3)) (C := RX5) (T := TX5) (N := 6) hx hb htg inX5 hown hK hP 0 (wC_g0 a k _) rfl 2 (by decide) (htg _ q_162) (fun _ h9 => h9) rfl dX5_find_34 ?_
    refine va_get (D := (dC, dI)) (ci := 1) (v := .int (nI (cu_N u 2))) (C := RX1) (T := TX1) (N := 4) hx hb htg inX1 hown hK hP 3 (wC_g3 a k _) rfl 1 (by decide) (htg _ q_99) (fun _ h9 => h9) rfl dX5_find_37 ?_
    refine nb_ge (a := k9) (b := (cu_N u 2)) (tgt := 103) hx hb (by omega) (by omega) rfl rfl dX5_find_40 (by decide) (fun c_40 => ?_) (fun c_40 => ?_)
    · refine lv_iconst (v := (-1)) hx hb dX5_find_103 (by decide) ?_
      exact W.iret (v := (-1)) hx hb hr (fun t9 ht9 hW9 => ⟨_, rfl, (show (-1 : Int32) = iI (c_fd u t1 t2 pu pi q (cu_N u 2)) from by rw [show cu_N u 2 = k9 by omega, hI.2]; rfl), ht9⟩) (fun _ h => by cases h) dX5_find_104
    · have hok := ho k9 c_40
      have hcl := c_fc_le u t1 t2 pu pi k9
      have hbl := c_bbw_le u (cu_F u 6 k9) t1 t2
      have hn2 := h.2.2.1 _ hok
      refine lv_aload_n hx hb dX5_find_43 rfl (lv_at hl 0 rfl) ?_
      refine va_get (D := (dC, dI)) (ci := 5) (v := .ref (a 3)) (C := RX5) (T := TX5) (N := 6) hx hb htg inX5 hown hK hP 0 (wC_g0 a k _) rfl 2 (by decide) (htg _ q_162) (fun _ h9 => h9) rfl dX5_find_44 ?_
      refine va_get (D := (dC, dI)) (ci := 1) (v := .ref (a 18)) (C := RX1) (T := TX1) (N := 4) hx hb htg inX1 hown hK hP 3 (wC_g3 a k _) rfl 0 (by decide) (htg _ q_97) (fun _ h9 => h9) rfl dX5_find_47 ?_
      refine lv_iload hx hb dX5_find_50 (lv_at hl 7 rfl) ?_
      refine va_iald hx hb hK hP 18 0 (wC_g18 a k _) rfl (vp_in_nI (n := k9) (N := 200) (by omega) (by decide)) dX5_find_52 ?_
      refine wtopi (nI (cu_F u 6 k9)) (congrArg (fun j9 => nI (cu_F u 6 j9)) (nI_clamp (n := k9) (Nat.lt_trans (m := 200) (by omega) (by decide)))) ?_
      refine lv_istore (lv' := [(8, .int (nI (cu_F u 6 k9))), (0, .ref (a 0)), (1, .int t1), (2, .int t2), (3, .int pu), (4, .int pi), (5, .int (nI q)), (6, .int (nI (c_fc u t1 t2 pu pi k9))), (7, .int (nI k9))]) hx hb dX5_find_53 hl (by decide) rfl (fun ls hl => ?_)
      refine lv_aload_n hx hb dX5_find_55 rfl (lv_at hl 1 rfl) ?_
      refine va_get (D := (dC, dI)) (ci := 5) (v := .ref (a 1)) (C := RX5) (T := TX5) (N := 6) hx hb htg inX5 hown hK hP 0 (wC_g0 a k _) rfl 0 (by decide) (htg _ q_160) (fun _ h9 => h9) rfl dX5_find_56 ?_
      refine lv_iload hx hb dX5_find_59 (lv_at hl 0 rfl) ?_
      refine lv_iload_n hx hb dX5_find_61 rfl (lv_at hl 4 rfl) ?_
      refine lv_iload hx hb dX5_find_62 (lv_at hl 5 rfl) ?_
      refine vp_callSi (W.runV (As := [.int (nI (cu_F u 6 k9)), .int pu, .int pi]) (rest := []) ⟨hx, hb, hml, hown, hts⟩ (c_X4_isOf l dC dI a k u (cu_F u 6 k9) (by omega) pu pi) (cwV 3 hts (wG_V wG_c q_422 q_423 q_424 q_2 q_425) rfl rfl rfl (by decide +kernel) ⟨Nat.le_of_ble_eq_true rfl, Nat.le_of_ble_eq_true rfl⟩) (w_roV hK hP (ci := 4) (q0 := 1) rfl (wC_g1 a k _) rfl) rfl rfl hl.1 rfl (lv_room (Nat.le_of_ble_eq_true rfl)) dX5_find_64 ⟨Nat.le_of_ble_eq_true rfl, Nat.le_of_ble_eq_true rfl⟩) (fun r_1 hr_1 => ?_)
      subst hr_1
      refine bz_eq (a := (c_of u (cu_F u 6 k9) pu pi)) (tgt := 97) hx hb dX5_find_67 (by decide) (fun c_67 => ?_) (fun c_67 => ?_)
      · refine lv_iinc (v := nI (k9 + 1)) (lv' := [(7, .int (nI (k9 + 1))), (8, .int (nI (cu_F u 6 k9))), (0, .ref (a 0)), (1, .int t1), (2, .int t2), (3, .int pu), (4, .int pi), (5, .int (nI q)), (6, .int (nI (c_fc u t1 t2 pu pi k9)))]) hx hb dX5_find_97 hl (k := 8) rfl (nI_1 k9) (by decide) rfl (fun ls hl => ?_)
        refine lv_goto (tgt := 31) hx hb dX5_find_100 (by decide) ?_
        have hmt : c_mt u t1 t2 pu pi k9 = false := by unfold c_mt; simp [c_67]
        exact ih (k9 + 1) ls (by omega) ⟨⟨by omega, c_fd_n hI.2 (fun z => by rw [hmt] at z; cases z.1)⟩, lv_sub hl [2, 3, 4, 5, 6, 7, 8, 0] (by rw [c_fc_f hmt]; rfl)⟩
      · refine lv_aload_n hx hb dX5_find_70 rfl (lv_at hl 1 rfl) ?_
        refine va_get (D := (dC, dI)) (ci := 5) (v := .ref (a 3)) (C := RX5) (T := TX5) (N := 6) hx hb htg inX5 hown hK hP 0 (wC_g0 a k _) rfl 2 (by decide) (htg _ q_162) (fun _ h9 => h9) rfl dX5_find_71 ?_
        refine lv_iload hx hb dX5_find_74 (lv_at hl 0 rfl) ?_
        refine lv_iload_n hx hb dX5_find_76 rfl (lv_at hl 2 rfl) ?_
        refine lv_iload_n hx hb dX5_find_77 rfl (lv_at hl 3 rfl) ?_
        refine vp_callSi (W.runV (As := [.int (nI (cu_F u 6 k9)), .int t1, .int t2]) (rest := []) ⟨hx, hb, hml, hown, hts⟩ (c_X1_bytesWithin l dC dI a k u h (cu_F u 6 k9) hok t1 t2) (cwV 3 hts (wG_V wG_c q_183 q_184 q_185 q_4 q_186) rfl rfl rfl (by decide +kernel) ⟨Nat.le_of_ble_eq_true rfl, Nat.le_of_ble_eq_true rfl⟩) (w_roV hK hP (ci := 1) (q0 := 3) rfl (wC_g3 a k _) rfl) rfl rfl hl.1 rfl (lv_room (Nat.le_of_ble_eq_true rfl)) dX5_find_78 ⟨Nat.le_of_ble_eq_true rfl, Nat.le_of_ble_eq_true rfl⟩) (fun r_2 hr_2 => ?_)
        subst hr_2
        refine iz_le (a := (((c_bb u (cu_F u 6 k9) t2 - c_bb u (cu_F u 6 k9) t1) : Nat) : Int)) (tgt := 97) hx hb (by omega) (by omega) (nI_iI _) dX5_find_81 (by decide) (fun c_81 => ?_) (fun c_81 => ?_)
        · have c_81 : ¬ 0 < c_bb u (cu_F u 6 k9) t2 - c_bb u (cu_F u 6 k9) t1 := by omega
          refine lv_iinc (v := nI (k9 + 1)) (lv' := [(7, .int (nI (k9 + 1))), (8, .int (nI (cu_F u 6 k9))), (0, .ref (a 0)), (1, .int t1), (2, .int t2), (3, .int pu), (4, .int pi), (5, .int (nI q)), (6, .int (nI (c_fc u t1 t2 pu pi k9)))]) hx hb dX5_find_97 hl (k := 8) rfl (nI_1 k9) (by decide) rfl (fun ls hl => ?_)
          refine lv_goto (tgt := 31) hx hb dX5_find_100 (by decide) ?_
          have hmt : c_mt u t1 t2 pu pi k9 = false := by unfold c_mt; simp [c_67, c_81]
          exact ih (k9 + 1) ls (by omega) ⟨⟨by omega, c_fd_n hI.2 (fun z => by rw [hmt] at z; cases z.1)⟩, lv_sub hl [2, 3, 4, 5, 6, 7, 8, 0] (by rw [c_fc_f hmt]; rfl)⟩
        · have c_81 : 0 < c_bb u (cu_F u 6 k9) t2 - c_bb u (cu_F u 6 k9) t1 := by omega
          have hmt : c_mt u t1 t2 pu pi k9 = true := by unfold c_mt; simp [c_67, c_81]
          refine lv_iload hx hb dX5_find_84 (lv_at hl 7 rfl) ?_
          refine lv_iload hx hb dX5_find_86 (lv_at hl 6 rfl) ?_
          refine nb_ne (a := (c_fc u t1 t2 pu pi k9)) (b := q) (tgt := 94) hx hb (by omega) (by omega) rfl rfl dX5_find_88 (by decide) (fun c_88 => ?_) (fun c_88 => ?_)
          · refine lv_iinc (v := nI ((c_fc u t1 t2 pu pi k9) + 1)) (lv' := [(6, .int (nI ((c_fc u t1 t2 pu pi k9) + 1))), (8, .int (nI (cu_F u 6 k9))), (0, .ref (a 0)), (1, .int t1), (2, .int t2), (3, .int pu), (4, .int pi), (5, .int (nI q)), (7, .int (nI k9))]) hx hb dX5_find_94 hl (k := 7) rfl (nI_1 (c_fc u t1 t2 pu pi k9)) (by decide) rfl (fun ls hl => ?_)
            refine lv_iinc (v := nI (k9 + 1)) (lv' := [(7, .int (nI (k9 + 1))), (6, .int (nI ((c_fc u t1 t2 pu pi k9) + 1))), (8, .int (nI (cu_F u 6 k9))), (0, .ref (a 0)), (1, .int t1), (2, .int t2), (3, .int pu), (4, .int pi), (5, .int (nI q))]) hx hb dX5_find_97 hl (k := 8) rfl (nI_1 k9) (by decide) rfl (fun ls hl => ?_)
            refine lv_goto (tgt := 31) hx hb dX5_find_100 (by decide) ?_
            exact ih (k9 + 1) ls (by omega) ⟨⟨by omega, c_fd_n hI.2 (fun z => c_88 z.2)⟩, lv_sub hl [3, 4, 5, 6, 7, 8, 1, 0] (by rw [c_fc_t hmt]; rfl)⟩
          · refine lv_iload hx hb dX5_find_91 (lv_at hl 0 rfl) ?_
            exact W.iret (v := nI (cu_F u 6 k9)) hx hb hr (fun t9 ht9 hW9 => ⟨_, rfl, (by rw [nI_iI, ← c_fd_y hI.2 ⟨hmt, c_88⟩ (cu_N u 2 - k9 - 1), show k9 + 1 + (cu_N u 2 - k9 - 1) = cu_N u 2 by omega]), ht9⟩) (fun _ h => by cases h) dX5_find_93
  refine lv_iload_n hx hb dX5_find_0 rfl (lv_at hl 3 rfl) ?_
  refine lv_iconst (v := (-1)) hx hb dX5_find_1 (by decide) ?_
  refine lv_icmp_eq (tgt := 9) hx hb dX5_find_2 (by decide) (fun c_2 => ?_) (fun c_2 => ?_)
  · refine lv_iload hx hb dX5_find_9 (lv_at hl 4 rfl) ?_
    refine lv_iconst (v := (-1)) hx hb dX5_find_11 (by decide) ?_
    refine lv_icmp_eq (tgt := 20) hx hb dX5_find_12 (by decide) (fun c_12 => ?_) (fun c_12 => ?_)
    · exact key ls (lv_sub hl [0, 1, 2, 3, 4, 5] rfl)
    · refine lv_iload hx hb dX5_find_15 (lv_at hl 4 rfl) ?_
      obtain ⟨j2, hj_j2, e_j2⟩ : ∃ j : Nat, j ≤ 49 ∧ pi = nI j := by
        rcases hpi with z | z
        · exact absurd z c_12
        · exact z
      refine wtopi (nI j2) e_j2 ?_
      refine va_csv (W.runS (As := [.int (nI j2)]) (rest := []) ⟨hx, hb, hml, hown, hts⟩ (c_X5_checkIncident l dC dI a k u j2 hj_j2) (cwS 1 hts (wG_S wG_c q_317 q_318 q_1 q_319) rfl rfl rfl (by decide +kernel) ⟨Nat.le_of_ble_eq_true rfl, Nat.le_of_ble_eq_true rfl⟩) (w_roS hK hP) rfl rfl hl.1 rfl (lv_room (Nat.le_of_ble_eq_true rfl)) dX5_find_17 ⟨Nat.le_of_ble_eq_true rfl, Nat.le_of_ble_eq_true rfl⟩) (fun _ => ?_)
      exact key ls (lv_sub hl [0, 1, 2, 3, 4, 5] rfl)
  · refine lv_iload_n hx hb dX5_find_5 rfl (lv_at hl 3 rfl) ?_
    obtain ⟨j1, hj_j1, e_j1⟩ : ∃ j : Nat, j ≤ 99 ∧ pu = nI j := by
      rcases hpu with z | z
      · exact absurd z c_2
      · exact z
    refine wtopi (nI j1) e_j1 ?_
    refine va_csv (W.runS (As := [.int (nI j1)]) (rest := []) ⟨hx, hb, hml, hown, hts⟩ (c_X5_checkUnit l dC dI a k u j1 hj_j1) (cwS 1 hts (wG_S wG_c q_313 q_314 q_1 q_315) rfl rfl rfl (by decide +kernel) ⟨Nat.le_of_ble_eq_true rfl, Nat.le_of_ble_eq_true rfl⟩) (w_roS hK hP) rfl rfl hl.1 rfl (lv_room (Nat.le_of_ble_eq_true rfl)) dX5_find_6 ⟨Nat.le_of_ble_eq_true rfl, Nat.le_of_ble_eq_true rfl⟩) (fun _ => ?_)
    refine lv_iload hx hb dX5_find_9 (lv_at hl 4 rfl) ?_
    refine lv_iconst (v := (-1)) hx hb dX5_find_11 (by decide) ?_
    refine lv_icmp_eq (tgt := 20) hx hb dX5_find_12 (by decide) (fun c_12 => ?_) (fun c_12 => ?_)
    · exact key ls (lv_sub hl [0, 1, 2, 3, 4, 5] rfl)
    · refine lv_iload hx hb dX5_find_15 (lv_at hl 4 rfl) ?_
      obtain ⟨j2, hj_j2, e_j2⟩ : ∃ j : Nat, j ≤ 49 ∧ pi = nI j := by
        rcases hpi with z | z
        · exact absurd z c_12
        · exact z
      refine wtopi (nI j2) e_j2 ?_
      refine va_csv (W.runS (As := [.int (nI j2)]) (rest := []) ⟨hx, hb, hml, hown, hts⟩ (c_X5_checkIncident l dC dI a k u j2 hj_j2) (cwS 1 hts (wG_S wG_c q_317 q_318 q_1 q_319) rfl rfl rfl (by decide +kernel) ⟨Nat.le_of_ble_eq_true rfl, Nat.le_of_ble_eq_true rfl⟩) (w_roS hK hP) rfl rfl hl.1 rfl (lv_room (Nat.le_of_ble_eq_true rfl)) dX5_find_17 ⟨Nat.le_of_ble_eq_true rfl, Nat.le_of_ble_eq_true rfl⟩) (fun _ => ?_)
      exact key ls (lv_sub hl [0, 1, 2, 3, 4, 5] rfl)
set_option maxHeartbeats 4000000 in
set_option maxRecDepth 100000 in
theorem x_X5_find_1 (l : Launch) (dC : Nat → ClassId) (dI : Nat → Nat → Nat) (a : Nat → Nat) (k : c_K) (u : c_St) (sz : Nat) (hst : l.stackTraces = false) (t1 t2 pu pi p4 : Int32) (hne : pu ≠ -1) (hb9 : inR pu 0 99 = false) : XMet l yX5_find wsX5_find ({ frames := 7, cells := 1, slots := 6, locals := 102 }) (va_Pc [.ref (a 0), .int t1, .int t2, .int pu, .int pi, .int p4] (w_px (dC, dI) vwCl (wC a k u) (tC k) sz)) (x_C eIAE sz) 1 6 (va_A [] sz) := by
  refine XMet.ofW (cc := cX5_find) (maxL := 9) (ret := (some .int)) (by decide) rfl ?_
  intro p e s m args below meth c s₁ B hml hv
  obtain ⟨rfl, hsz, hP, hK, hX⟩ := hv
  have hx := B.exec
  have hb := B.bytes
  have hts := atoms_spec (ws := wsX5_find) B.pre
  have htg : ∀ w ∈ wG, w.before _ s = true := fun w h => hts w (List.mem_cons_of_mem _ h)
  have hown : s.vm.findClass RX5 = some m.cls := findClass_of_methodNamed B.named
  have hlocks := B.notSynchronized
  have hnoh : ∀ x ∈ c.exceptionTable.toList, False := fun x hx9 => by
    have h9 := B.noHandlers (hts _ List.mem_cons_self)
    rw [Array.isEmpty_iff.mp h9] at hx9
    cases hx9
  subst hsz
  have hl := lv_entry ([.ref (a 0), .int t1, .int t2, .int pu, .int pi, .int p4]) (n := 9) (Nat.le_of_ble_eq_true rfl)
  rw [lg_entry_eq]
  generalize (lg_sl ([.ref (a 0), .int t1, .int t2, .int pu, .int pi, .int p4]) ++ List.replicate (9 - (lg_sl ([.ref (a 0), .int t1, .int t2, .int pu, .int pi, .int p4])).length) Slot.unset).toArray = ls at hl ⊢
  have hl : lv_has ls 9 [(0, .ref (a 0)), (1, .int t1), (2, .int t2), (3, .int pu), (4, .int pi), (5, .int p4)] := hl
  refine lv_iload_n hx hb dX5_find_0 rfl (lv_at hl 3 rfl) ?_
  refine lv_iconst (v := (-1)) hx hb dX5_find_1 (by decide) ?_
  refine lv_icmp_eq (tgt := 9) hx hb dX5_find_2 (by decide) (fun c_2 => ?_) (fun c_2 => ?_)
  · exact absurd c_2 hne
  · refine lv_iload_n hx hb dX5_find_5 rfl (lv_at hl 3 rfl) ?_
    refine XW.callS (As := [.int pu]) (rest := []) ⟨hx, hb, hml, hown, hts⟩ (x_X5_checkUnit l dC dI a k u _ hst pu hb9) (cwS 1 hts (wG_S wG_c q_313 q_314 q_1 q_315) rfl rfl rfl (by decide +kernel) ⟨Nat.le_of_ble_eq_true rfl, Nat.le_of_ble_eq_true rfl⟩) (w_pxS hK hP hX) rfl hl.1 rfl (Nat.le_of_ble_eq_true rfl) dX5_find_6 ⟨Nat.le_of_ble_eq_true rfl, Nat.le_of_ble_eq_true rfl⟩ (fun q9 st9 t9 H9 L9 h0 hfc ht9 _ hxc hL9 => ?_)
    exact x_on (fun x h9 => (hnoh x h9).elim) hlocks h0 hfc ht9 hxc hL9 (Nat.le_refl _) (Nat.le_refl _)
set_option maxHeartbeats 4000000 in
set_option maxRecDepth 100000 in
theorem x_X5_find_2 (l : Launch) (dC : Nat → ClassId) (dI : Nat → Nat → Nat) (a : Nat → Nat) (k : c_K) (u : c_St) (sz : Nat) (hst : l.stackTraces = false) (t1 t2 pu pi p4 : Int32) (hpu : pu = -1 ∨ ∃ j : Nat, j ≤ 99 ∧ pu = nI j) (hne : pi ≠ -1) (hb9 : inR pi 0 49 = false) : XMet l yX5_find wsX5_find ({ frames := 7, cells := 1, slots := 6, locals := 102 }) (va_Pc [.ref (a 0), .int t1, .int t2, .int pu, .int pi, .int p4] (w_px (dC, dI) vwCl (wC a k u) (tC k) sz)) (x_C eIAE sz) 1 6 (va_A [] sz) := by
  refine XMet.ofW (cc := cX5_find) (maxL := 9) (ret := (some .int)) (by decide) rfl ?_
  intro p e s m args below meth c s₁ B hml hv
  obtain ⟨rfl, hsz, hP, hK, hX⟩ := hv
  have hx := B.exec
  have hb := B.bytes
  have hts := atoms_spec (ws := wsX5_find) B.pre
  have htg : ∀ w ∈ wG, w.before _ s = true := fun w h => hts w (List.mem_cons_of_mem _ h)
  have hown : s.vm.findClass RX5 = some m.cls := findClass_of_methodNamed B.named
  have hlocks := B.notSynchronized
  have hnoh : ∀ x ∈ c.exceptionTable.toList, False := fun x hx9 => by
    have h9 := B.noHandlers (hts _ List.mem_cons_self)
    rw [Array.isEmpty_iff.mp h9] at hx9
    cases hx9
  subst hsz
  have hl := lv_entry ([.ref (a 0), .int t1, .int t2, .int pu, .int pi, .int p4]) (n := 9) (Nat.le_of_ble_eq_true rfl)
  rw [lg_entry_eq]
  generalize (lg_sl ([.ref (a 0), .int t1, .int t2, .int pu, .int pi, .int p4]) ++ List.replicate (9 - (lg_sl ([.ref (a 0), .int t1, .int t2, .int pu, .int pi, .int p4])).length) Slot.unset).toArray = ls at hl ⊢
  have hl : lv_has ls 9 [(0, .ref (a 0)), (1, .int t1), (2, .int t2), (3, .int pu), (4, .int pi), (5, .int p4)] := hl
  refine lv_iload_n hx hb dX5_find_0 rfl (lv_at hl 3 rfl) ?_
  refine lv_iconst (v := (-1)) hx hb dX5_find_1 (by decide) ?_
  refine lv_icmp_eq (tgt := 9) hx hb dX5_find_2 (by decide) (fun c_2 => ?_) (fun c_2 => ?_)
  · refine lv_iload hx hb dX5_find_9 (lv_at hl 4 rfl) ?_
    refine lv_iconst (v := (-1)) hx hb dX5_find_11 (by decide) ?_
    refine lv_icmp_eq (tgt := 20) hx hb dX5_find_12 (by decide) (fun c_12 => ?_) (fun c_12 => ?_)
    · exact absurd c_12 hne
    · refine lv_iload hx hb dX5_find_15 (lv_at hl 4 rfl) ?_
      refine XW.callS (As := [.int pi]) (rest := []) ⟨hx, hb, hml, hown, hts⟩ (x_X5_checkIncident l dC dI a k u _ hst pi hb9) (cwS 1 hts (wG_S wG_c q_317 q_318 q_1 q_319) rfl rfl rfl (by decide +kernel) ⟨Nat.le_of_ble_eq_true rfl, Nat.le_of_ble_eq_true rfl⟩) (w_pxS hK hP hX) rfl hl.1 rfl (Nat.le_of_ble_eq_true rfl) dX5_find_17 ⟨Nat.le_of_ble_eq_true rfl, Nat.le_of_ble_eq_true rfl⟩ (fun q9 st9 t9 H9 L9 h0 hfc ht9 _ hxc hL9 => ?_)
      exact x_on (fun x h9 => (hnoh x h9).elim) hlocks h0 hfc ht9 hxc hL9 (Nat.le_refl _) (Nat.le_refl _)
  · refine lv_iload_n hx hb dX5_find_5 rfl (lv_at hl 3 rfl) ?_
    obtain ⟨j1, hj_j1, e_j1⟩ : ∃ j : Nat, j ≤ 99 ∧ pu = nI j := by
      rcases hpu with z | z
      · exact absurd z c_2
      · exact z
    refine wtopi (nI j1) e_j1 ?_
    refine va_csv (W.runS (As := [.int (nI j1)]) (rest := []) ⟨hx, hb, hml, hown, hts⟩ (c_X5_checkUnit l dC dI a k u j1 hj_j1) (cwS 1 hts (wG_S wG_c q_313 q_314 q_1 q_315) rfl rfl rfl (by decide +kernel) ⟨Nat.le_of_ble_eq_true rfl, Nat.le_of_ble_eq_true rfl⟩) (w_roS hK hP) rfl rfl hl.1 rfl (lv_room (Nat.le_of_ble_eq_true rfl)) dX5_find_6 ⟨Nat.le_of_ble_eq_true rfl, Nat.le_of_ble_eq_true rfl⟩) (fun _ => ?_)
    refine lv_iload hx hb dX5_find_9 (lv_at hl 4 rfl) ?_
    refine lv_iconst (v := (-1)) hx hb dX5_find_11 (by decide) ?_
    refine lv_icmp_eq (tgt := 20) hx hb dX5_find_12 (by decide) (fun c_12 => ?_) (fun c_12 => ?_)
    · exact absurd c_12 hne
    · refine lv_iload hx hb dX5_find_15 (lv_at hl 4 rfl) ?_
      refine XW.callS (As := [.int pi]) (rest := []) ⟨hx, hb, hml, hown, hts⟩ (x_X5_checkIncident l dC dI a k u _ hst pi hb9) (cwS 1 hts (wG_S wG_c q_317 q_318 q_1 q_319) rfl rfl rfl (by decide +kernel) ⟨Nat.le_of_ble_eq_true rfl, Nat.le_of_ble_eq_true rfl⟩) (w_pxS hK hP hX) rfl hl.1 rfl (Nat.le_of_ble_eq_true rfl) dX5_find_17 ⟨Nat.le_of_ble_eq_true rfl, Nat.le_of_ble_eq_true rfl⟩ (fun q9 st9 t9 H9 L9 h0 hfc ht9 _ hxc hL9 => ?_)
      exact x_on (fun x h9 => (hnoh x h9).elim) hlocks h0 hfc ht9 hxc hL9 (Nat.le_refl _) (Nat.le_refl _)
set_option maxHeartbeats 4000000 in
set_option maxRecDepth 100000 in
theorem x_X5_find_3 (l : Launch) (dC : Nat → ClassId) (dI : Nat → Nat → Nat) (a : Nat → Nat) (k : c_K) (u : c_St) (sz : Nat) (hst : l.stackTraces = false) (t1 t2 pu pi p4 : Int32) (hpu : pu = -1 ∨ ∃ j : Nat, j ≤ 99 ∧ pu = nI j) (hpi : pi = -1 ∨ ∃ j : Nat, j ≤ 49 ∧ pi = nI j) (hb9 : p4 < 0) : XMet l yX5_find wsX5_find ({ frames := 7, cells := 1, slots := 6, locals := 102 }) (va_Pc [.ref (a 0), .int t1, .int t2, .int pu, .int pi, .int p4] (w_px (dC, dI) vwCl (wC a k u) (tC k) sz)) (x_C eIOE sz) 1 6 (va_A [] sz) := by
  refine XMet.ofW (cc := cX5_find) (maxL := 9) (ret := (some .int)) (by decide) rfl ?_
  intro p e s m args below meth c s₁ B hml hv
  obtain ⟨rfl, hsz, hP, hK, hX⟩ := hv
  have hx := B.exec
  have hb := B.bytes
  have hts := atoms_spec (ws := wsX5_find) B.pre
  have htg : ∀ w ∈ wG, w.before _ s = true := fun w h => hts w (List.mem_cons_of_mem _ h)
  have hown : s.vm.findClass RX5 = some m.cls := findClass_of_methodNamed B.named
  have hlocks := B.notSynchronized
  have hnoh : ∀ x ∈ c.exceptionTable.toList, False := fun x hx9 => by
    have h9 := B.noHandlers (hts _ List.mem_cons_self)
    rw [Array.isEmpty_iff.mp h9] at hx9
    cases hx9
  subst hsz
  have hl := lv_entry ([.ref (a 0), .int t1, .int t2, .int pu, .int pi, .int p4]) (n := 9) (Nat.le_of_ble_eq_true rfl)
  rw [lg_entry_eq]
  generalize (lg_sl ([.ref (a 0), .int t1, .int t2, .int pu, .int pi, .int p4]) ++ List.replicate (9 - (lg_sl ([.ref (a 0), .int t1, .int t2, .int pu, .int pi, .int p4])).length) Slot.unset).toArray = ls at hl ⊢
  have hl : lv_has ls 9 [(0, .ref (a 0)), (1, .int t1), (2, .int t2), (3, .int pu), (4, .int pi), (5, .int p4)] := hl
  refine lv_iload_n hx hb dX5_find_0 rfl (lv_at hl 3 rfl) ?_
  refine lv_iconst (v := (-1)) hx hb dX5_find_1 (by decide) ?_
  refine lv_icmp_eq (tgt := 9) hx hb dX5_find_2 (by decide) (fun c_2 => ?_) (fun c_2 => ?_)
  · refine lv_iload hx hb dX5_find_9 (lv_at hl 4 rfl) ?_
    refine lv_iconst (v := (-1)) hx hb dX5_find_11 (by decide) ?_
    refine lv_icmp_eq (tgt := 20) hx hb dX5_find_12 (by decide) (fun c_12 => ?_) (fun c_12 => ?_)
    · refine lv_iload hx hb dX5_find_20 (lv_at hl 5 rfl) ?_
      refine XW.callS (As := [.int p4]) (rest := []) ⟨hx, hb, hml, hown, hts⟩ (x_X5_checkPlace l dC dI a k u _ hst p4 hb9) (cwS 1 hts (wG_S wG_c q_406 q_407 q_1 q_408) rfl rfl rfl (by decide +kernel) ⟨Nat.le_of_ble_eq_true rfl, Nat.le_of_ble_eq_true rfl⟩) (w_pxS hK hP hX) rfl hl.1 rfl (Nat.le_of_ble_eq_true rfl) dX5_find_22 ⟨Nat.le_of_ble_eq_true rfl, Nat.le_of_ble_eq_true rfl⟩ (fun q9 st9 t9 H9 L9 h0 hfc ht9 _ hxc hL9 => ?_)
      exact x_on (fun x h9 => (hnoh x h9).elim) hlocks h0 hfc ht9 hxc hL9 (Nat.le_refl _) (Nat.le_refl _)
    · refine lv_iload hx hb dX5_find_15 (lv_at hl 4 rfl) ?_
      obtain ⟨j2, hj_j2, e_j2⟩ : ∃ j : Nat, j ≤ 49 ∧ pi = nI j := by
        rcases hpi with z | z
        · exact absurd z c_12
        · exact z
      refine wtopi (nI j2) e_j2 ?_
      refine va_csv (W.runS (As := [.int (nI j2)]) (rest := []) ⟨hx, hb, hml, hown, hts⟩ (c_X5_checkIncident l dC dI a k u j2 hj_j2) (cwS 1 hts (wG_S wG_c q_317 q_318 q_1 q_319) rfl rfl rfl (by decide +kernel) ⟨Nat.le_of_ble_eq_true rfl, Nat.le_of_ble_eq_true rfl⟩) (w_roS hK hP) rfl rfl hl.1 rfl (lv_room (Nat.le_of_ble_eq_true rfl)) dX5_find_17 ⟨Nat.le_of_ble_eq_true rfl, Nat.le_of_ble_eq_true rfl⟩) (fun _ => ?_)
      refine lv_iload hx hb dX5_find_20 (lv_at hl 5 rfl) ?_
      refine XW.callS (As := [.int p4]) (rest := []) ⟨hx, hb, hml, hown, hts⟩ (x_X5_checkPlace l dC dI a k u _ hst p4 hb9) (cwS 1 hts (wG_S wG_c q_406 q_407 q_1 q_408) rfl rfl rfl (by decide +kernel) ⟨Nat.le_of_ble_eq_true rfl, Nat.le_of_ble_eq_true rfl⟩) (w_pxS hK hP hX) rfl hl.1 rfl (Nat.le_of_ble_eq_true rfl) dX5_find_22 ⟨Nat.le_of_ble_eq_true rfl, Nat.le_of_ble_eq_true rfl⟩ (fun q9 st9 t9 H9 L9 h0 hfc ht9 _ hxc hL9 => ?_)
      exact x_on (fun x h9 => (hnoh x h9).elim) hlocks h0 hfc ht9 hxc hL9 (Nat.le_refl _) (Nat.le_refl _)
  · refine lv_iload_n hx hb dX5_find_5 rfl (lv_at hl 3 rfl) ?_
    obtain ⟨j1, hj_j1, e_j1⟩ : ∃ j : Nat, j ≤ 99 ∧ pu = nI j := by
      rcases hpu with z | z
      · exact absurd z c_2
      · exact z
    refine wtopi (nI j1) e_j1 ?_
    refine va_csv (W.runS (As := [.int (nI j1)]) (rest := []) ⟨hx, hb, hml, hown, hts⟩ (c_X5_checkUnit l dC dI a k u j1 hj_j1) (cwS 1 hts (wG_S wG_c q_313 q_314 q_1 q_315) rfl rfl rfl (by decide +kernel) ⟨Nat.le_of_ble_eq_true rfl, Nat.le_of_ble_eq_true rfl⟩) (w_roS hK hP) rfl rfl hl.1 rfl (lv_room (Nat.le_of_ble_eq_true rfl)) dX5_find_6 ⟨Nat.le_of_ble_eq_true rfl, Nat.le_of_ble_eq_true rfl⟩) (fun _ => ?_)
    refine lv_iload hx hb dX5_find_9 (lv_at hl 4 rfl) ?_
    refine lv_iconst (v := (-1)) hx hb dX5_find_11 (by decide) ?_
    refine lv_icmp_eq (tgt := 20) hx hb dX5_find_12 (by decide) (fun c_12 => ?_) (fun c_12 => ?_)
    · refine lv_iload hx hb dX5_find_20 (lv_at hl 5 rfl) ?_
      refine XW.callS (As := [.int p4]) (rest := []) ⟨hx, hb, hml, hown, hts⟩ (x_X5_checkPlace l dC dI a k u _ hst p4 hb9) (cwS 1 hts (wG_S wG_c q_406 q_407 q_1 q_408) rfl rfl rfl (by decide +kernel) ⟨Nat.le_of_ble_eq_true rfl, Nat.le_of_ble_eq_true rfl⟩) (w_pxS hK hP hX) rfl hl.1 rfl (Nat.le_of_ble_eq_true rfl) dX5_find_22 ⟨Nat.le_of_ble_eq_true rfl, Nat.le_of_ble_eq_true rfl⟩ (fun q9 st9 t9 H9 L9 h0 hfc ht9 _ hxc hL9 => ?_)
      exact x_on (fun x h9 => (hnoh x h9).elim) hlocks h0 hfc ht9 hxc hL9 (Nat.le_refl _) (Nat.le_refl _)
    · refine lv_iload hx hb dX5_find_15 (lv_at hl 4 rfl) ?_
      obtain ⟨j2, hj_j2, e_j2⟩ : ∃ j : Nat, j ≤ 49 ∧ pi = nI j := by
        rcases hpi with z | z
        · exact absurd z c_12
        · exact z
      refine wtopi (nI j2) e_j2 ?_
      refine va_csv (W.runS (As := [.int (nI j2)]) (rest := []) ⟨hx, hb, hml, hown, hts⟩ (c_X5_checkIncident l dC dI a k u j2 hj_j2) (cwS 1 hts (wG_S wG_c q_317 q_318 q_1 q_319) rfl rfl rfl (by decide +kernel) ⟨Nat.le_of_ble_eq_true rfl, Nat.le_of_ble_eq_true rfl⟩) (w_roS hK hP) rfl rfl hl.1 rfl (lv_room (Nat.le_of_ble_eq_true rfl)) dX5_find_17 ⟨Nat.le_of_ble_eq_true rfl, Nat.le_of_ble_eq_true rfl⟩) (fun _ => ?_)
      refine lv_iload hx hb dX5_find_20 (lv_at hl 5 rfl) ?_
      refine XW.callS (As := [.int p4]) (rest := []) ⟨hx, hb, hml, hown, hts⟩ (x_X5_checkPlace l dC dI a k u _ hst p4 hb9) (cwS 1 hts (wG_S wG_c q_406 q_407 q_1 q_408) rfl rfl rfl (by decide +kernel) ⟨Nat.le_of_ble_eq_true rfl, Nat.le_of_ble_eq_true rfl⟩) (w_pxS hK hP hX) rfl hl.1 rfl (Nat.le_of_ble_eq_true rfl) dX5_find_22 ⟨Nat.le_of_ble_eq_true rfl, Nat.le_of_ble_eq_true rfl⟩ (fun q9 st9 t9 H9 L9 h0 hfc ht9 _ hxc hL9 => ?_)
      exact x_on (fun x h9 => (hnoh x h9).elim) hlocks h0 hfc ht9 hxc hL9 (Nat.le_refl _) (Nat.le_refl _)
set_option maxHeartbeats 4000000 in
set_option maxRecDepth 100000 in
theorem c_X5_drop (l : Launch) (dC : Nat → ClassId) (dI : Nat → Nat → Nat) (a : Nat → Nat) (k : c_K) (u : c_St) (sz : Nat) (h : c_ok u) (hC : cu_N u 3 < 200) (n t : Nat) (hn : n < cu_N u 0) (hth : cu_B u 0 n = true) (hh : cu_B u 3 (cu_F u 4 n) = false) (hp : cu_N u 2 ≤ 200) (ho : ∀ j, j < cu_N u 2 → cu_F u 6 j < 200) (ht : t < cu_N u 2) (he : cu_F u 6 t = n) (hu : ∀ j, j < cu_N u 2 → j ≠ t → cu_F u 6 j ≠ n) : Met l yX5_drop wsX5_drop ({ frames := 3, cells := 0, slots := 0, locals := 71 }) (va_Pc [.ref (a 0), .int (nI n)] (w_mu (dC, dI) vwCl (wC a k u) (tC k) sz)) (va_Qi (fun (r : Int32) (u1 : c_St) => r = nI (cu_N u 3) ∧ u1 = cs_N (cs_G (cs_G (cs_F (cs_N (c_cut (cs_B u 0 n false) t (cu_N u 2)) 2 (cu_N u 2 - 1)) 7 (cu_N u 3) n) 1 (cu_N u 3) (cu_G u 0 n)) 2 (cu_N u 3) (c_now u n)) 3 (cu_N u 3 + 1)) (w_at (dC, dI) vwCl (wC a k) (tC k) (va_A (wC a k u) sz)) (va_A (wC a k u) sz)) 0 0 (va_A (wC a k u) sz) := by
  refine Met.ofW (cc := cX5_drop) (maxL := 2) (ret := (some .int)) (by decide) rfl ?_
  intro p e s m args below meth c s₁ B hml hv
  obtain ⟨rfl, hsz, hP, hK, hD0⟩ := hv
  have hx := B.exec
  have hb := B.bytes
  have hr := B.returns
  have hts := atoms_spec (ws := wsX5_drop) B.pre
  have htg : ∀ w ∈ wG, w.before _ s = true := fun w h => hts w (List.mem_cons_of_mem _ h)
  have hown : s.vm.findClass RX5 = some m.cls := findClass_of_methodNamed B.named
  have hlocks := B.notSynchronized
  subst hsz
  have hD := hD0.self (sz := s.heap.size)
  generalize hAe : va_A (wC a k u) s.heap.size = A at hD ⊢
  have hA : ∀ q : Nat, s.heap.size ≤ q → A q := fun q h => by rw [← hAe]; exact Or.inr h
  have hS : va_S A s.heap s.heap [] := va_S.rf
  have hl := lv_entry ([.ref (a 0), .int (nI n)]) (n := 2) (Nat.le_of_ble_eq_true rfl)
  rw [lg_entry_eq]
  generalize (lg_sl ([.ref (a 0), .int (nI n)]) ++ List.replicate (2 - (lg_sl ([.ref (a 0), .int (nI n)])).length) Slot.unset).toArray = ls at hl ⊢
  have hl : lv_has ls 2 [(0, .ref (a 0)), (1, .int (nI n))] := hl
  have h20 := h.1
  have hn2 := h.2.2.1 n hn
  refine lv_aload_n hx hb dX5_drop_0 rfl (lv_at hl 0 rfl) ?_
  refine lv_iload_n hx hb dX5_drop_1 rfl (lv_at hl 1 rfl) ?_
  refine va_csv (W.runV (As := [.int (nI n)]) (rest := []) ⟨hx, hb, hml, hown, hts⟩ (c_X5_checkSlot l dC dI a k u h20 n hn) (cwV 1 hts (wG_V wG_c q_434 q_436 p_5 q_1 q_437) rfl rfl rfl (by decide +kernel) ⟨Nat.le_of_ble_eq_true rfl, Nat.le_of_ble_eq_true rfl⟩) (w_roV hK hP (ci := 5) (q0 := 0) rfl (wC_g0 a k _) rfl) rfl rfl hl.1 rfl (lv_room (Nat.le_of_ble_eq_true rfl)) dX5_drop_2 ⟨Nat.le_of_ble_eq_true rfl, Nat.le_of_ble_eq_true rfl⟩) (fun _ => ?_)
  refine lv_aload_n hx hb dX5_drop_5 rfl (lv_at hl 0 rfl) ?_
  refine lv_iload_n hx hb dX5_drop_6 rfl (lv_at hl 1 rfl) ?_
  refine va_csv (W.runV (As := [.int (nI n)]) (rest := []) ⟨hx, hb, hml, hown, hts⟩ (c_X5_checkThere l dC dI a k u n (by omega) hth) (cwV 1 hts (wG_V wG_c q_439 q_441 p_6 q_1 q_442) rfl rfl rfl (by decide +kernel) ⟨Nat.le_of_ble_eq_true rfl, Nat.le_of_ble_eq_true rfl⟩) (w_roV hK hP (ci := 5) (q0 := 0) rfl (wC_g0 a k _) rfl) rfl rfl hl.1 rfl (lv_room (Nat.le_of_ble_eq_true rfl)) dX5_drop_7 ⟨Nat.le_of_ble_eq_true rfl, Nat.le_of_ble_eq_true rfl⟩) (fun _ => ?_)
  refine lv_aload_n hx hb dX5_drop_10 rfl (lv_at hl 0 rfl) ?_
  refine va_get (D := (dC, dI)) (ci := 5) (v := .ref (a 6)) (C := RX5) (T := TX5) (N := 6) hx hb htg inX5 hown hK hP 0 (wC_g0 a k _) rfl 5 (by decide) (htg _ q_165) (fun _ h9 => h9) rfl dX5_drop_11 ?_
  refine lv_aload_n hx hb dX5_drop_14 rfl (lv_at hl 0 rfl) ?_
  refine va_get (D := (dC, dI)) (ci := 5) (v := .ref (a 1)) (C := RX5) (T := TX5) (N := 6) hx hb htg inX5 hown hK hP 0 (wC_g0 a k _) rfl 0 (by decide) (htg _ q_160) (fun _ h9 => h9) rfl dX5_drop_15 ?_
  refine va_get (D := (dC, dI)) (ci := 4) (v := .ref (a 12)) (C := RX4) (T := TX4) (N := 9) hx hb htg inX4 hown hK hP 1 (wC_g1 a k _) rfl 5 (by decide) (htg _ q_40) (fun _ h9 => h9) rfl dX5_drop_18 ?_
  refine lv_iload_n hx hb dX5_drop_21 rfl (lv_at hl 1 rfl) ?_
  refine va_iald hx hb hK hP 12 0 (wC_g12 a k _) rfl (vp_in_nI (n := n) (N := 200) (show n < 200 by omega) (by decide)) dX5_drop_22 ?_
  refine wtopi (nI (cu_F u 4 n)) (congrArg (fun j9 => nI (cu_F u 4 j9)) (nI_clamp (n := n) (Nat.lt_trans (m := 200) (show n < 200 by omega) (by decide)))) ?_
  refine va_zald hx hb hK hP 6 2 (wC_g6 a k _) rfl (vp_in_nI (n := (cu_F u 4 n)) (N := 50) hn2.2.2.2.2.2 (by decide)) dX5_drop_23 ?_
  refine wtopi (bI (cu_B u 3 (cu_F u 4 n))) (congrArg (fun j9 => bI (cu_B u 3 j9)) (nI_clamp (n := (cu_F u 4 n)) (Nat.lt_trans (m := 50) hn2.2.2.2.2.2 (by decide)))) ?_
  refine bz_eq (a := (cu_B u 3 (cu_F u 4 n))) (tgt := 37) hx hb dX5_drop_24 (by decide) (fun c_24 => ?_) (fun c_24 => ?_)
  · refine lv_aload_n hx hb dX5_drop_37 rfl (lv_at hl 0 rfl) ?_
    refine va_get (D := (dC, dI)) (ci := 5) (v := .ref (a 1)) (C := RX5) (T := TX5) (N := 6) hx hb htg inX5 hown hK hP 0 (wC_g0 a k _) rfl 0 (by decide) (htg _ q_160) (fun _ h9 => h9) rfl dX5_drop_38 ?_
    refine va_get (D := (dC, dI)) (ci := 4) (v := .ref (a 14)) (C := RX4) (T := TX4) (N := 9) hx hb htg inX4 hown hK hP 1 (wC_g1 a k _) rfl 7 (by decide) (htg _ q_44) (fun _ h9 => h9) rfl dX5_drop_41 ?_
    refine lv_iload_n hx hb dX5_drop_44 rfl (lv_at hl 1 rfl) ?_
    refine lv_iconst (v := 0) hx hb dX5_drop_45 (by decide) ?_
    refine va_zast hx hb hK hP hD hS 14 2 (wC_g14 a k _) rfl (vp_in_nI (n := n) (N := 200) (show n < 200 by omega) (by decide)) dX5_drop_46 (fun H locs hP hD hS => ?_)
    have hP := w_pE (wC_s14 a k _ n false (Nat.lt_trans (m := 200) (show n < 200 by omega) (by decide))) hP
    have hD := w_dE (wC_s14 a k _ n false (Nat.lt_trans (m := 200) (show n < 200 by omega) (by decide))) hD
    refine lv_aload_n hx hb dX5_drop_47 rfl (lv_at hl 0 rfl) ?_
    refine va_get (D := (dC, dI)) (ci := 5) (v := .ref (a 3)) (C := RX5) (T := TX5) (N := 6) hx hb htg inX5 hown hK hP 0 (wC_g0 a k _) rfl 2 (by decide) (htg _ q_162) (fun _ h9 => h9) rfl dX5_drop_48 ?_
    refine lv_iload_n hx hb dX5_drop_51 rfl (lv_at hl 1 rfl) ?_
    refine w_calv (w := wC a k) (va_runV (As := [.int (nI n)]) (rest := []) ⟨hx, hb, hml, hown, hts⟩ (c_X1_remove l dC dI a k (cs_B u 0 n false) _ n t (by omega) hp ho ht he hu) (cwV 1 hts (wG_V wG_c q_490 q_491 q_492 q_4 q_493) rfl rfl rfl (by decide +kernel) ⟨Nat.le_of_ble_eq_true rfl, Nat.le_of_ble_eq_true rfl⟩) (w_muV hK hP hD (ci := 1) (q0 := 3) rfl (wC_g3 a k _) rfl) rfl rfl hl.1 rfl (lv_room (Nat.le_of_ble_eq_true rfl)) dX5_drop_52 ⟨Nat.le_of_ble_eq_true rfl, Nat.le_of_ble_eq_true rfl⟩) hD hS hA (fun u_1 H locs hq_1 hP hD hS => ?_)
    subst hq_1
    refine lv_aload_n hx hb dX5_drop_55 rfl (lv_at hl 0 rfl) ?_
    refine va_get (D := (dC, dI)) (ci := 5) (v := .ref (a 4)) (C := RX5) (T := TX5) (N := 6) hx hb htg inX5 hown hK hP 0 (wC_g0 a k _) rfl 3 (by decide) (htg _ q_163) (fun _ h9 => h9) rfl dX5_drop_56 ?_
    refine lv_iload_n hx hb dX5_drop_59 rfl (lv_at hl 1 rfl) ?_
    refine lv_aload_n hx hb dX5_drop_60 rfl (lv_at hl 0 rfl) ?_
    refine va_get (D := (dC, dI)) (ci := 5) (v := .ref (a 1)) (C := RX5) (T := TX5) (N := 6) hx hb htg inX5 hown hK hP 0 (wC_g0 a k _) rfl 0 (by decide) (htg _ q_160) (fun _ h9 => h9) rfl dX5_drop_61 ?_
    refine va_get (D := (dC, dI)) (ci := 4) (v := .ref (a 13)) (C := RX4) (T := TX4) (N := 9) hx hb htg inX4 hown hK hP 1 (wC_g1 a k _) rfl 6 (by decide) (htg _ q_42) (fun _ h9 => h9) rfl dX5_drop_64 ?_
    refine lv_iload_n hx hb dX5_drop_67 rfl (lv_at hl 1 rfl) ?_
    refine va_iald hx hb hK hP 13 0 (wC_g13 a k _) rfl (vp_in_nI (n := n) (N := 200) (show n < 200 by omega) (by decide)) dX5_drop_68 ?_
    refine wtopi (cu_G (cs_N (c_cut (cs_B u 0 n false) t (cu_N u 2)) 2 (cu_N u 2 - 1)) 0 n) (congrArg (fun j9 => cu_G (cs_N (c_cut (cs_B u 0 n false) t (cu_N u 2)) 2 (cu_N u 2 - 1)) 0 j9) (nI_clamp (n := n) (Nat.lt_trans (m := 200) (show n < 200 by omega) (by decide)))) ?_
    refine wtopi (y := cu_G u 0 n) rfl ?_
    refine lv_aload_n hx hb dX5_drop_69 rfl (lv_at hl 0 rfl) ?_
    refine va_get (D := (dC, dI)) (ci := 5) (v := .ref (a 1)) (C := RX5) (T := TX5) (N := 6) hx hb htg inX5 hown hK hP 0 (wC_g0 a k _) rfl 0 (by decide) (htg _ q_160) (fun _ h9 => h9) rfl dX5_drop_70 ?_
    refine lv_iload_n hx hb dX5_drop_73 rfl (lv_at hl 1 rfl) ?_
    refine vp_callSi (W.runV (As := [.int (nI n)]) (rest := [.int (cu_G u 0 n), .int (nI n), .ref (a 4)]) ⟨hx, hb, hml, hown, hts⟩ (c_X4_sumNow l dC dI a k (cs_N (c_cut (cs_B u 0 n false) t (cu_N u 2)) 2 (cu_N u 2 - 1)) n (by omega) hn2.2.2.2.1) (cwV 1 hts (wG_V wG_c q_226 q_227 q_228 q_2 q_229) rfl rfl rfl (by decide +kernel) ⟨Nat.le_of_ble_eq_true rfl, Nat.le_of_ble_eq_true rfl⟩) (w_roV hK hP (ci := 4) (q0 := 1) rfl (wC_g1 a k _) rfl) rfl rfl hl.1 rfl (lv_room (Nat.le_of_ble_eq_true rfl)) dX5_drop_74 ⟨Nat.le_of_ble_eq_true rfl, Nat.le_of_ble_eq_true rfl⟩) (fun r_2 hr_2 => ?_)
    subst hr_2
    refine w_cali (w := wC a k) (va_runV (As := [.int (nI n), .int (cu_G u 0 n), .int (c_now u n)]) (rest := []) ⟨hx, hb, hml, hown, hts⟩ (c_X0_add l dC dI a k (cs_N (c_cut (cs_B u 0 n false) t (cu_N u 2)) 2 (cu_N u 2 - 1)) _ n (cu_G u 0 n) (c_now u n) hC) (cwV 3 hts (wG_V wG_c q_494 q_495 q_496 q_5 q_497) rfl rfl rfl (by decide +kernel) ⟨Nat.le_of_ble_eq_true rfl, Nat.le_of_ble_eq_true rfl⟩) (w_muV hK hP hD (ci := 0) (q0 := 4) rfl (wC_g4 a k _) rfl) rfl rfl hl.1 rfl (lv_room (Nat.le_of_ble_eq_true rfl)) dX5_drop_77 ⟨Nat.le_of_ble_eq_true rfl, Nat.le_of_ble_eq_true rfl⟩) hD hS hA (fun r_3 u_3 H locs hq_3 hP hD hS => ?_)
    obtain ⟨er9, eu9⟩ := hq_3
    subst er9 eu9
    exact W.iret (v := nI (cu_N u 3)) hx hb hr (fun t9 ht9 hW9 => ⟨⟨_, cs_N (cs_G (cs_G (cs_F (cs_N (c_cut (cs_B u 0 n false) t (cu_N u 2)) 2 (cu_N u 2 - 1)) 7 (cu_N u 3) n) 1 (cu_N u 3) (cu_G u 0 n)) 2 (cu_N u 3) (c_now u n)) 3 (cu_N u 3 + 1), rfl, ⟨rfl, rfl⟩, by rw [ht9]; exact hP, va_K.moved hW9.alike hK, hD⟩, hS.F ht9⟩) hS.2.2 dX5_drop_80
  · exact absurd c_24 (by rw [hh]; decide)
set_option maxHeartbeats 4000000 in
set_option maxRecDepth 100000 in
theorem x_X5_drop_1 (l : Launch) (dC : Nat → ClassId) (dI : Nat → Nat → Nat) (a : Nat → Nat) (k : c_K) (u : c_St) (sz : Nat) (hst : l.stackTraces = false) (h20 : cu_N u 0 ≤ 200) (p0 : Int32) (hb9 : isS (cu_N u 0) p0 = false) : XMet l yX5_drop wsX5_drop ({ frames := 7, cells := 1, slots := 6, locals := 103 }) (va_Pc [.ref (a 0), .int p0] (w_px (dC, dI) vwCl (wC a k u) (tC k) sz)) (x_C eIAE sz) 1 6 (va_A [] sz) := by
  refine XMet.ofW (cc := cX5_drop) (maxL := 2) (ret := (some .int)) (by decide) rfl ?_
  intro p e s m args below meth c s₁ B hml hv
  obtain ⟨rfl, hsz, hP, hK, hX⟩ := hv
  have hx := B.exec
  have hb := B.bytes
  have hts := atoms_spec (ws := wsX5_drop) B.pre
  have htg : ∀ w ∈ wG, w.before _ s = true := fun w h => hts w (List.mem_cons_of_mem _ h)
  have hown : s.vm.findClass RX5 = some m.cls := findClass_of_methodNamed B.named
  have hlocks := B.notSynchronized
  have hnoh : ∀ x ∈ c.exceptionTable.toList, False := fun x hx9 => by
    have h9 := B.noHandlers (hts _ List.mem_cons_self)
    rw [Array.isEmpty_iff.mp h9] at hx9
    cases hx9
  subst hsz
  have hl := lv_entry ([.ref (a 0), .int p0]) (n := 2) (Nat.le_of_ble_eq_true rfl)
  rw [lg_entry_eq]
  generalize (lg_sl ([.ref (a 0), .int p0]) ++ List.replicate (2 - (lg_sl ([.ref (a 0), .int p0])).length) Slot.unset).toArray = ls at hl ⊢
  have hl : lv_has ls 2 [(0, .ref (a 0)), (1, .int p0)] := hl
  refine lv_aload_n hx hb dX5_drop_0 rfl (lv_at hl 0 rfl) ?_
  refine lv_iload_n hx hb dX5_drop_1 rfl (lv_at hl 1 rfl) ?_
  refine XW.callV (As := [.int p0]) (rest := []) ⟨hx, hb, hml, hown, hts⟩ (x_X5_checkSlot l dC dI a k u _ hst h20 p0 hb9) (cwV 1 hts (wG_V wG_c q_434 q_436 p_5 q_1 q_437) rfl rfl rfl (by decide +kernel) ⟨Nat.le_of_ble_eq_true rfl, Nat.le_of_ble_eq_true rfl⟩) (w_pxV hK hP hX (ci := 5) (q0 := 0) rfl (wC_g0 a k _) rfl) rfl hl.1 rfl (Nat.le_of_ble_eq_true rfl) dX5_drop_2 ⟨Nat.le_of_ble_eq_true rfl, Nat.le_of_ble_eq_true rfl⟩ (fun q9 st9 t9 H9 L9 h0 hfc ht9 _ hxc hL9 => ?_)
  exact x_on (fun x h9 => (hnoh x h9).elim) hlocks h0 hfc ht9 hxc hL9 (Nat.le_refl _) (Nat.le_refl _)
set_option maxHeartbeats 4000000 in
set_option maxRecDepth 100000 in
theorem x_X5_drop_2 (l : Launch) (dC : Nat → ClassId) (dI : Nat → Nat → Nat) (a : Nat → Nat) (k : c_K) (u : c_St) (sz : Nat) (hst : l.stackTraces = false) (h20 : cu_N u 0 ≤ 200) (n : Nat) (hn : n < cu_N u 0) (ht : cu_B u 0 n = false) : XMet l yX5_drop wsX5_drop ({ frames := 7, cells := 1, slots := 6, locals := 103 }) (va_Pc [.ref (a 0), .int (nI n)] (w_px (dC, dI) vwCl (wC a k u) (tC k) sz)) (x_C eISE sz) 1 6 (va_A [] sz) := by
  refine XMet.ofW (cc := cX5_drop) (maxL := 2) (ret := (some .int)) (by decide) rfl ?_
  intro p e s m args below meth c s₁ B hml hv
  obtain ⟨rfl, hsz, hP, hK, hX⟩ := hv
  have hx := B.exec
  have hb := B.bytes
  have hts := atoms_spec (ws := wsX5_drop) B.pre
  have htg : ∀ w ∈ wG, w.before _ s = true := fun w h => hts w (List.mem_cons_of_mem _ h)
  have hown : s.vm.findClass RX5 = some m.cls := findClass_of_methodNamed B.named
  have hlocks := B.notSynchronized
  have hnoh : ∀ x ∈ c.exceptionTable.toList, False := fun x hx9 => by
    have h9 := B.noHandlers (hts _ List.mem_cons_self)
    rw [Array.isEmpty_iff.mp h9] at hx9
    cases hx9
  subst hsz
  have hl := lv_entry ([.ref (a 0), .int (nI n)]) (n := 2) (Nat.le_of_ble_eq_true rfl)
  rw [lg_entry_eq]
  generalize (lg_sl ([.ref (a 0), .int (nI n)]) ++ List.replicate (2 - (lg_sl ([.ref (a 0), .int (nI n)])).length) Slot.unset).toArray = ls at hl ⊢
  have hl : lv_has ls 2 [(0, .ref (a 0)), (1, .int (nI n))] := hl
  refine lv_aload_n hx hb dX5_drop_0 rfl (lv_at hl 0 rfl) ?_
  refine lv_iload_n hx hb dX5_drop_1 rfl (lv_at hl 1 rfl) ?_
  refine va_csv (W.runV (As := [.int (nI n)]) (rest := []) ⟨hx, hb, hml, hown, hts⟩ (c_X5_checkSlot l dC dI a k u h20 n hn) (cwV 1 hts (wG_V wG_c q_434 q_436 p_5 q_1 q_437) rfl rfl rfl (by decide +kernel) ⟨Nat.le_of_ble_eq_true rfl, Nat.le_of_ble_eq_true rfl⟩) (w_roV hK hP (ci := 5) (q0 := 0) rfl (wC_g0 a k _) rfl) rfl rfl hl.1 rfl (lv_room (Nat.le_of_ble_eq_true rfl)) dX5_drop_2 ⟨Nat.le_of_ble_eq_true rfl, Nat.le_of_ble_eq_true rfl⟩) (fun _ => ?_)
  refine lv_aload_n hx hb dX5_drop_5 rfl (lv_at hl 0 rfl) ?_
  refine lv_iload_n hx hb dX5_drop_6 rfl (lv_at hl 1 rfl) ?_
  refine XW.callV (As := [.int (nI n)]) (rest := []) ⟨hx, hb, hml, hown, hts⟩ (x_X5_checkThere l dC dI a k u _ hst n (by omega) ht) (cwV 1 hts (wG_V wG_c q_439 q_441 p_6 q_1 q_442) rfl rfl rfl (by decide +kernel) ⟨Nat.le_of_ble_eq_true rfl, Nat.le_of_ble_eq_true rfl⟩) (w_pxV hK hP hX (ci := 5) (q0 := 0) rfl (wC_g0 a k _) rfl) rfl hl.1 rfl (Nat.le_of_ble_eq_true rfl) dX5_drop_7 ⟨Nat.le_of_ble_eq_true rfl, Nat.le_of_ble_eq_true rfl⟩ (fun q9 st9 t9 H9 L9 h0 hfc ht9 _ hxc hL9 => ?_)
  exact x_on (fun x h9 => (hnoh x h9).elim) hlocks h0 hfc ht9 hxc hL9 (Nat.le_refl _) (Nat.le_refl _)
set_option maxHeartbeats 4000000 in
set_option maxRecDepth 100000 in
theorem x_X5_drop_3 (l : Launch) (dC : Nat → ClassId) (dI : Nat → Nat → Nat) (a : Nat → Nat) (k : c_K) (u : c_St) (sz : Nat) (hst : l.stackTraces = false) (h : c_ok u) (n : Nat) (hn : n < cu_N u 0) (ht : cu_B u 0 n = true) (hh : cu_B u 3 (cu_F u 4 n) = true) : XMet l yX5_drop wsX5_drop ({ frames := 6, cells := 1, slots := 6, locals := 82 }) (va_Pc [.ref (a 0), .int (nI n)] (w_px (dC, dI) vwCl (wC a k u) (tC k) sz)) (x_C eISE sz) 1 6 (va_A [] sz) := by
  have h20 := h.1
  have hn2 := h.2.2.1 n hn
  refine XMet.ofW (cc := cX5_drop) (maxL := 2) (ret := (some .int)) (by decide) rfl ?_
  intro p e s m args below meth c s₁ B hml hv
  obtain ⟨rfl, hsz, hP, hK, hX⟩ := hv
  have hx := B.exec
  have hb := B.bytes
  have hts := atoms_spec (ws := wsX5_drop) B.pre
  have htg : ∀ w ∈ wG, w.before _ s = true := fun w h => hts w (List.mem_cons_of_mem _ h)
  have hown : s.vm.findClass RX5 = some m.cls := findClass_of_methodNamed B.named
  have hlocks := B.notSynchronized
  have hnoh : ∀ x ∈ c.exceptionTable.toList, False := fun x hx9 => by
    have h9 := B.noHandlers (hts _ List.mem_cons_self)
    rw [Array.isEmpty_iff.mp h9] at hx9
    cases hx9
  subst hsz
  have hl := lv_entry ([.ref (a 0), .int (nI n)]) (n := 2) (Nat.le_of_ble_eq_true rfl)
  rw [lg_entry_eq]
  generalize (lg_sl ([.ref (a 0), .int (nI n)]) ++ List.replicate (2 - (lg_sl ([.ref (a 0), .int (nI n)])).length) Slot.unset).toArray = ls at hl ⊢
  have hl : lv_has ls 2 [(0, .ref (a 0)), (1, .int (nI n))] := hl
  refine lv_aload_n hx hb dX5_drop_0 rfl (lv_at hl 0 rfl) ?_
  refine lv_iload_n hx hb dX5_drop_1 rfl (lv_at hl 1 rfl) ?_
  refine va_csv (W.runV (As := [.int (nI n)]) (rest := []) ⟨hx, hb, hml, hown, hts⟩ (c_X5_checkSlot l dC dI a k u h20 n hn) (cwV 1 hts (wG_V wG_c q_434 q_436 p_5 q_1 q_437) rfl rfl rfl (by decide +kernel) ⟨Nat.le_of_ble_eq_true rfl, Nat.le_of_ble_eq_true rfl⟩) (w_roV hK hP (ci := 5) (q0 := 0) rfl (wC_g0 a k _) rfl) rfl rfl hl.1 rfl (lv_room (Nat.le_of_ble_eq_true rfl)) dX5_drop_2 ⟨Nat.le_of_ble_eq_true rfl, Nat.le_of_ble_eq_true rfl⟩) (fun _ => ?_)
  refine lv_aload_n hx hb dX5_drop_5 rfl (lv_at hl 0 rfl) ?_
  refine lv_iload_n hx hb dX5_drop_6 rfl (lv_at hl 1 rfl) ?_
  refine va_csv (W.runV (As := [.int (nI n)]) (rest := []) ⟨hx, hb, hml, hown, hts⟩ (c_X5_checkThere l dC dI a k u n (by omega) ht) (cwV 1 hts (wG_V wG_c q_439 q_441 p_6 q_1 q_442) rfl rfl rfl (by decide +kernel) ⟨Nat.le_of_ble_eq_true rfl, Nat.le_of_ble_eq_true rfl⟩) (w_roV hK hP (ci := 5) (q0 := 0) rfl (wC_g0 a k _) rfl) rfl rfl hl.1 rfl (lv_room (Nat.le_of_ble_eq_true rfl)) dX5_drop_7 ⟨Nat.le_of_ble_eq_true rfl, Nat.le_of_ble_eq_true rfl⟩) (fun _ => ?_)
  refine lv_aload_n hx hb dX5_drop_10 rfl (lv_at hl 0 rfl) ?_
  refine va_get (D := (dC, dI)) (ci := 5) (v := .ref (a 6)) (C := RX5) (T := TX5) (N := 6) hx hb htg inX5 hown hK hP 0 (wC_g0 a k _) rfl 5 (by decide) (htg _ q_165) (fun _ h9 => h9) rfl dX5_drop_11 ?_
  refine lv_aload_n hx hb dX5_drop_14 rfl (lv_at hl 0 rfl) ?_
  refine va_get (D := (dC, dI)) (ci := 5) (v := .ref (a 1)) (C := RX5) (T := TX5) (N := 6) hx hb htg inX5 hown hK hP 0 (wC_g0 a k _) rfl 0 (by decide) (htg _ q_160) (fun _ h9 => h9) rfl dX5_drop_15 ?_
  refine va_get (D := (dC, dI)) (ci := 4) (v := .ref (a 12)) (C := RX4) (T := TX4) (N := 9) hx hb htg inX4 hown hK hP 1 (wC_g1 a k _) rfl 5 (by decide) (htg _ q_40) (fun _ h9 => h9) rfl dX5_drop_18 ?_
  refine lv_iload_n hx hb dX5_drop_21 rfl (lv_at hl 1 rfl) ?_
  refine va_iald hx hb hK hP 12 0 (wC_g12 a k _) rfl (vp_in_nI (n := n) (N := 200) (show n < 200 by omega) (by decide)) dX5_drop_22 ?_
  refine wtopi (nI (cu_F u 4 n)) (congrArg (fun j9 => nI (cu_F u 4 j9)) (nI_clamp (n := n) (Nat.lt_trans (m := 200) (show n < 200 by omega) (by decide)))) ?_
  refine va_zald hx hb hK hP 6 2 (wC_g6 a k _) rfl (vp_in_nI (n := (cu_F u 4 n)) (N := 50) hn2.2.2.2.2.2 (by decide)) dX5_drop_23 ?_
  refine wtopi (bI (cu_B u 3 (cu_F u 4 n))) (congrArg (fun j9 => bI (cu_B u 3 j9)) (nI_clamp (n := (cu_F u 4 n)) (Nat.lt_trans (m := 50) hn2.2.2.2.2.2 (by decide)))) ?_
  refine bz_eq (a := (cu_B u 3 (cu_F u 4 n))) (tgt := 37) hx hb dX5_drop_24 (by decide) (fun c_24 => ?_) (fun c_24 => ?_)
  · exact absurd c_24 (by rw [hh]; decide)
  · exact x_throw (E := eISE) (text := "the incident is under a hold") (A := va_A [] s.heap.size) hx hb hst hown (by decide +kernel) htg hX own_ISE q_443 q_444 q_15 (by decide +kernel) va_S.rf (hl.1.trans hml.symm) dX5_drop_27 dX5_drop_30 dX5_drop_31 dX5_drop_33 dX5_drop_36 (fun x h9 => (hnoh x h9).elim) (Nat.le_of_ble_eq_true rfl) (Nat.le_of_ble_eq_true rfl) (Nat.le_of_ble_eq_true rfl) (Nat.le_of_ble_eq_true rfl) hlocks (fun q9 t9 ce9 _ z1 z2 z3 z4 z5 => ⟨⟨ce9, z3, z4, z5⟩, z1, fun z z6 _ => z2 z z6⟩) (fun _ h9 => by cases h9) (Nat.le_refl _) (Nat.le_refl _)
set_option maxHeartbeats 4000000 in
set_option maxRecDepth 100000 in
theorem c_X5_listen (l : Launch) (dC : Nat → ClassId) (dI : Nat → Nat → Nat) (a : Nat → Nat) (k : c_K) (u : c_St) (sz : Nat) (h : c_ok u) (hR : cu_N u 4 ≤ 600) (ps n : Nat) (hp : ps ≤ 19) (hn : n < cu_N u 0) (ht : cu_B u 0 n = true) (hm : cu_B u 2 (ps * 50 + cu_F u 4 n) = true) : Met l yX5_listen wsX5_listen ({ frames := 3, cells := 0, slots := 0, locals := 71 }) (va_Pc [.ref (a 0), .int (nI ps), .int (nI n)] (w_mu (dC, dI) vwCl (wC a k u) (tC k) sz)) (va_Qi (fun (r : Int32) (u1 : c_St) => r = c_now u n ∧ u1 = cs_N (cs_B (cs_F (cs_F u 8 (cu_N u 4 % 200) ps) 9 (cu_N u 4 % 200) n) 1 (cu_N u 4 % 200) true) 4 (cu_N u 4 + 1)) (w_at (dC, dI) vwCl (wC a k) (tC k) (va_A (wC a k u) sz)) (va_A (wC a k u) sz)) 0 0 (va_A (wC a k u) sz) := by
  refine Met.ofW (cc := cX5_listen) (maxL := 4) (ret := (some .int)) (by decide) rfl ?_
  intro p e s m args below meth c s₁ B hml hv
  obtain ⟨rfl, hsz, hP, hK, hD0⟩ := hv
  have hx := B.exec
  have hb := B.bytes
  have hr := B.returns
  have hts := atoms_spec (ws := wsX5_listen) B.pre
  have htg : ∀ w ∈ wG, w.before _ s = true := fun w h => hts w (List.mem_cons_of_mem _ h)
  have hown : s.vm.findClass RX5 = some m.cls := findClass_of_methodNamed B.named
  have hlocks := B.notSynchronized
  subst hsz
  have hD := hD0.self (sz := s.heap.size)
  generalize hAe : va_A (wC a k u) s.heap.size = A at hD ⊢
  have hA : ∀ q : Nat, s.heap.size ≤ q → A q := fun q h => by rw [← hAe]; exact Or.inr h
  have hS : va_S A s.heap s.heap [] := va_S.rf
  have hl := lv_entry ([.ref (a 0), .int (nI ps), .int (nI n)]) (n := 4) (Nat.le_of_ble_eq_true rfl)
  rw [lg_entry_eq]
  generalize (lg_sl ([.ref (a 0), .int (nI ps), .int (nI n)]) ++ List.replicate (4 - (lg_sl ([.ref (a 0), .int (nI ps), .int (nI n)])).length) Slot.unset).toArray = ls at hl ⊢
  have hl : lv_has ls 4 [(0, .ref (a 0)), (1, .int (nI ps)), (2, .int (nI n))] := hl
  have h20 := h.1
  have hn2 := h.2.2.1 n hn
  refine lv_iload_n hx hb dX5_listen_0 rfl (lv_at hl 1 rfl) ?_
  refine va_csv (W.runS (As := [.int (nI ps)]) (rest := []) ⟨hx, hb, hml, hown, hts⟩ (c_X5_checkPerson l dC dI a k u ps hp) (cwS 1 hts (wG_S wG_c q_514 q_515 q_1 q_516) rfl rfl rfl (by decide +kernel) ⟨Nat.le_of_ble_eq_true rfl, Nat.le_of_ble_eq_true rfl⟩) (w_roS hK hP) rfl rfl hl.1 rfl (lv_room (Nat.le_of_ble_eq_true rfl)) dX5_listen_1 ⟨Nat.le_of_ble_eq_true rfl, Nat.le_of_ble_eq_true rfl⟩) (fun _ => ?_)
  refine lv_aload_n hx hb dX5_listen_4 rfl (lv_at hl 0 rfl) ?_
  refine lv_iload_n hx hb dX5_listen_5 rfl (lv_at hl 2 rfl) ?_
  refine va_csv (W.runV (As := [.int (nI n)]) (rest := []) ⟨hx, hb, hml, hown, hts⟩ (c_X5_checkSlot l dC dI a k u h20 n hn) (cwV 1 hts (wG_V wG_c q_434 q_436 p_5 q_1 q_437) rfl rfl rfl (by decide +kernel) ⟨Nat.le_of_ble_eq_true rfl, Nat.le_of_ble_eq_true rfl⟩) (w_roV hK hP (ci := 5) (q0 := 0) rfl (wC_g0 a k _) rfl) rfl rfl hl.1 rfl (lv_room (Nat.le_of_ble_eq_true rfl)) dX5_listen_6 ⟨Nat.le_of_ble_eq_true rfl, Nat.le_of_ble_eq_true rfl⟩) (fun _ => ?_)
  refine lv_aload_n hx hb dX5_listen_9 rfl (lv_at hl 0 rfl) ?_
  refine va_get (D := (dC, dI)) (ci := 5) (v := .ref (a 1)) (C := RX5) (T := TX5) (N := 6) hx hb htg inX5 hown hK hP 0 (wC_g0 a k _) rfl 0 (by decide) (htg _ q_160) (fun _ h9 => h9) rfl dX5_listen_10 ?_
  refine va_get (D := (dC, dI)) (ci := 4) (v := .ref (a 14)) (C := RX4) (T := TX4) (N := 9) hx hb htg inX4 hown hK hP 1 (wC_g1 a k _) rfl 7 (by decide) (htg _ q_44) (fun _ h9 => h9) rfl dX5_listen_13 ?_
  refine lv_iload_n hx hb dX5_listen_16 rfl (lv_at hl 2 rfl) ?_
  refine va_zald hx hb hK hP 14 2 (wC_g14 a k _) rfl (vp_in_nI (n := n) (N := 200) (show n < 200 by omega) (by decide)) dX5_listen_17 ?_
  refine wtopi (bI (cu_B u 0 n)) (congrArg (fun j9 => bI (cu_B u 0 j9)) (nI_clamp (n := n) (Nat.lt_trans (m := 200) (show n < 200 by omega) (by decide)))) ?_
  refine bz_eq (a := (cu_B u 0 n)) (tgt := 45) hx hb dX5_listen_18 (by decide) (fun c_18 => ?_) (fun c_18 => ?_)
  · exact absurd c_18 (by rw [ht]; decide)
  · refine lv_aload_n hx hb dX5_listen_21 rfl (lv_at hl 0 rfl) ?_
    refine va_get (D := (dC, dI)) (ci := 5) (v := .ref (a 5)) (C := RX5) (T := TX5) (N := 6) hx hb htg inX5 hown hK hP 0 (wC_g0 a k _) rfl 4 (by decide) (htg _ q_164) (fun _ h9 => h9) rfl dX5_listen_22 ?_
    refine lv_iload_n hx hb dX5_listen_25 rfl (lv_at hl 1 rfl) ?_
    refine lv_aload_n hx hb dX5_listen_26 rfl (lv_at hl 0 rfl) ?_
    refine va_get (D := (dC, dI)) (ci := 5) (v := .ref (a 1)) (C := RX5) (T := TX5) (N := 6) hx hb htg inX5 hown hK hP 0 (wC_g0 a k _) rfl 0 (by decide) (htg _ q_160) (fun _ h9 => h9) rfl dX5_listen_27 ?_
    refine va_get (D := (dC, dI)) (ci := 4) (v := .ref (a 12)) (C := RX4) (T := TX4) (N := 9) hx hb htg inX4 hown hK hP 1 (wC_g1 a k _) rfl 5 (by decide) (htg _ q_40) (fun _ h9 => h9) rfl dX5_listen_30 ?_
    refine lv_iload_n hx hb dX5_listen_33 rfl (lv_at hl 2 rfl) ?_
    refine va_iald hx hb hK hP 12 0 (wC_g12 a k _) rfl (vp_in_nI (n := n) (N := 200) (show n < 200 by omega) (by decide)) dX5_listen_34 ?_
    refine wtopi (nI (cu_F u 4 n)) (congrArg (fun j9 => nI (cu_F u 4 j9)) (nI_clamp (n := n) (Nat.lt_trans (m := 200) (show n < 200 by omega) (by decide)))) ?_
    refine vp_callSi (W.runV (As := [.int (nI ps), .int (nI (cu_F u 4 n))]) (rest := []) ⟨hx, hb, hml, hown, hts⟩ (c_X2_mayHear l dC dI a k u ps (cu_F u 4 n) (by omega) hn2.2.2.2.2.2) (cwV 2 hts (wG_V wG_c q_529 q_530 q_531 q_6 q_532) rfl rfl rfl (by decide +kernel) ⟨Nat.le_of_ble_eq_true rfl, Nat.le_of_ble_eq_true rfl⟩) (w_roV hK hP (ci := 2) (q0 := 5) rfl (wC_g5 a k _) rfl) rfl rfl hl.1 rfl (lv_room (Nat.le_of_ble_eq_true rfl)) dX5_listen_35 ⟨Nat.le_of_ble_eq_true rfl, Nat.le_of_ble_eq_true rfl⟩) (fun r_1 hr_1 => ?_)
    subst hr_1
    refine bz_eq (a := (cu_B u 2 (ps * 50 + cu_F u 4 n))) (tgt := 45) hx hb dX5_listen_38 (by decide) (fun c_38 => ?_) (fun c_38 => ?_)
    · exact absurd c_38 (by rw [hm]; decide)
    · refine lv_iconst (v := 1) hx hb dX5_listen_41 (by decide) ?_
      refine lv_goto (tgt := 46) hx hb dX5_listen_42 (by decide) ?_
      refine lv_istore_n (lv' := [(3, .int 1), (0, .ref (a 0)), (1, .int (nI ps)), (2, .int (nI n))]) hx hb dX5_listen_46 rfl hl (by decide) rfl (fun ls hl => ?_)
      refine lv_aload_n hx hb dX5_listen_47 rfl (lv_at hl 1 rfl) ?_
      refine va_get (D := (dC, dI)) (ci := 5) (v := .ref (a 5)) (C := RX5) (T := TX5) (N := 6) hx hb htg inX5 hown hK hP 0 (wC_g0 a k _) rfl 4 (by decide) (htg _ q_164) (fun _ h9 => h9) rfl dX5_listen_48 ?_
      refine lv_iload_n hx hb dX5_listen_51 rfl (lv_at hl 2 rfl) ?_
      refine lv_iload_n hx hb dX5_listen_52 rfl (lv_at hl 3 rfl) ?_
      refine lv_iload_n hx hb dX5_listen_53 rfl (lv_at hl 0 rfl) ?_
      refine w_calv (w := wC a k) (va_runV (As := [.int (nI ps), .int (nI n), .int 1]) (rest := []) ⟨hx, hb, hml, hown, hts⟩ (c_X2_keepRow l dC dI a k u _ hR ps n true) (cwV 3 hts (wG_V wG_c q_533 q_534 q_535 q_6 q_536) rfl rfl rfl (by decide +kernel) ⟨Nat.le_of_ble_eq_true rfl, Nat.le_of_ble_eq_true rfl⟩) (w_muV hK hP hD (ci := 2) (q0 := 5) rfl (wC_g5 a k _) rfl) rfl rfl hl.1 rfl (lv_room (Nat.le_of_ble_eq_true rfl)) dX5_listen_54 ⟨Nat.le_of_ble_eq_true rfl, Nat.le_of_ble_eq_true rfl⟩) hD hS hA (fun u_2 H locs hq_2 hP hD hS => ?_)
      subst hq_2
      refine lv_iload_n hx hb dX5_listen_57 rfl (lv_at hl 0 rfl) ?_
      refine lv_if_ne (tgt := 71) hx hb dX5_listen_58 (by decide) (fun _ => ?_) (fun h9 => absurd h9 (by decide))
      refine lv_aload_n hx hb dX5_listen_71 rfl (lv_at hl 1 rfl) ?_
      refine va_get (D := (dC, dI)) (ci := 5) (v := .ref (a 1)) (C := RX5) (T := TX5) (N := 6) hx hb htg inX5 hown hK hP 0 (wC_g0 a k _) rfl 0 (by decide) (htg _ q_160) (fun _ h9 => h9) rfl dX5_listen_72 ?_
      refine lv_iload_n hx hb dX5_listen_75 rfl (lv_at hl 3 rfl) ?_
      refine vp_callSi (W.runV (As := [.int (nI n)]) (rest := []) ⟨hx, hb, hml, hown, hts⟩ (c_X4_sumNow l dC dI a k (cs_N (cs_B (cs_F (cs_F u 8 (cu_N u 4 % 200) ps) 9 (cu_N u 4 % 200) n) 1 (cu_N u 4 % 200) true) 4 (cu_N u 4 + 1)) n (by omega) hn2.2.2.2.1) (cwV 1 hts (wG_V wG_c q_226 q_227 q_228 q_2 q_229) rfl rfl rfl (by decide +kernel) ⟨Nat.le_of_ble_eq_true rfl, Nat.le_of_ble_eq_true rfl⟩) (w_roV hK hP (ci := 4) (q0 := 1) rfl (wC_g1 a k _) rfl) rfl rfl hl.1 rfl (lv_room (Nat.le_of_ble_eq_true rfl)) dX5_listen_76 ⟨Nat.le_of_ble_eq_true rfl, Nat.le_of_ble_eq_true rfl⟩) (fun r_3 hr_3 => ?_)
      subst hr_3
      exact W.iret (v := c_now u n) hx hb hr (fun t9 ht9 hW9 => ⟨⟨_, cs_N (cs_B (cs_F (cs_F u 8 (cu_N u 4 % 200) ps) 9 (cu_N u 4 % 200) n) 1 (cu_N u 4 % 200) true) 4 (cu_N u 4 + 1), rfl, ⟨rfl, rfl⟩, by rw [ht9]; exact hP, va_K.moved hW9.alike hK, hD⟩, hS.F ht9⟩) hS.2.2 dX5_listen_79
set_option maxHeartbeats 4000000 in
set_option maxRecDepth 100000 in
theorem x_X5_listen_1 (l : Launch) (dC : Nat → ClassId) (dI : Nat → Nat → Nat) (a : Nat → Nat) (k : c_K) (u : c_St) (sz : Nat) (hst : l.stackTraces = false) (p0 p1 : Int32) (hb9 : inR p0 0 19 = false) : XMet l yX5_listen wsX5_listen ({ frames := 7, cells := 1, slots := 6, locals := 102 }) (va_Pc [.ref (a 0), .int p0, .int p1] (w_px (dC, dI) vwCl (wC a k u) (tC k) sz)) (x_C eIAE sz) 1 6 (va_A [] sz) := by
  refine XMet.ofW (cc := cX5_listen) (maxL := 4) (ret := (some .int)) (by decide) rfl ?_
  intro p e s m args below meth c s₁ B hml hv
  obtain ⟨rfl, hsz, hP, hK, hX⟩ := hv
  have hx := B.exec
  have hb := B.bytes
  have hts := atoms_spec (ws := wsX5_listen) B.pre
  have htg : ∀ w ∈ wG, w.before _ s = true := fun w h => hts w (List.mem_cons_of_mem _ h)
  have hown : s.vm.findClass RX5 = some m.cls := findClass_of_methodNamed B.named
  have hlocks := B.notSynchronized
  have hnoh : ∀ x ∈ c.exceptionTable.toList, False := fun x hx9 => by
    have h9 := B.noHandlers (hts _ List.mem_cons_self)
    rw [Array.isEmpty_iff.mp h9] at hx9
    cases hx9
  subst hsz
  have hl := lv_entry ([.ref (a 0), .int p0, .int p1]) (n := 4) (Nat.le_of_ble_eq_true rfl)
  rw [lg_entry_eq]
  generalize (lg_sl ([.ref (a 0), .int p0, .int p1]) ++ List.replicate (4 - (lg_sl ([.ref (a 0), .int p0, .int p1])).length) Slot.unset).toArray = ls at hl ⊢
  have hl : lv_has ls 4 [(0, .ref (a 0)), (1, .int p0), (2, .int p1)] := hl
  refine lv_iload_n hx hb dX5_listen_0 rfl (lv_at hl 1 rfl) ?_
  refine XW.callS (As := [.int p0]) (rest := []) ⟨hx, hb, hml, hown, hts⟩ (x_X5_checkPerson l dC dI a k u _ hst p0 hb9) (cwS 1 hts (wG_S wG_c q_514 q_515 q_1 q_516) rfl rfl rfl (by decide +kernel) ⟨Nat.le_of_ble_eq_true rfl, Nat.le_of_ble_eq_true rfl⟩) (w_pxS hK hP hX) rfl hl.1 rfl (Nat.le_of_ble_eq_true rfl) dX5_listen_1 ⟨Nat.le_of_ble_eq_true rfl, Nat.le_of_ble_eq_true rfl⟩ (fun q9 st9 t9 H9 L9 h0 hfc ht9 _ hxc hL9 => ?_)
  exact x_on (fun x h9 => (hnoh x h9).elim) hlocks h0 hfc ht9 hxc hL9 (Nat.le_refl _) (Nat.le_refl _)
set_option maxHeartbeats 4000000 in
set_option maxRecDepth 100000 in
theorem x_X5_listen_2 (l : Launch) (dC : Nat → ClassId) (dI : Nat → Nat → Nat) (a : Nat → Nat) (k : c_K) (u : c_St) (sz : Nat) (hst : l.stackTraces = false) (h20 : cu_N u 0 ≤ 200) (ps : Nat) (hp : ps ≤ 19) (p1 : Int32) (hb9 : isS (cu_N u 0) p1 = false) : XMet l yX5_listen wsX5_listen ({ frames := 7, cells := 1, slots := 6, locals := 103 }) (va_Pc [.ref (a 0), .int (nI ps), .int p1] (w_px (dC, dI) vwCl (wC a k u) (tC k) sz)) (x_C eIAE sz) 1 6 (va_A [] sz) := by
  refine XMet.ofW (cc := cX5_listen) (maxL := 4) (ret := (some .int)) (by decide) rfl ?_
  intro p e s m args below meth c s₁ B hml hv
  obtain ⟨rfl, hsz, hP, hK, hX⟩ := hv
  have hx := B.exec
  have hb := B.bytes
  have hts := atoms_spec (ws := wsX5_listen) B.pre
  have htg : ∀ w ∈ wG, w.before _ s = true := fun w h => hts w (List.mem_cons_of_mem _ h)
  have hown : s.vm.findClass RX5 = some m.cls := findClass_of_methodNamed B.named
  have hlocks := B.notSynchronized
  have hnoh : ∀ x ∈ c.exceptionTable.toList, False := fun x hx9 => by
    have h9 := B.noHandlers (hts _ List.mem_cons_self)
    rw [Array.isEmpty_iff.mp h9] at hx9
    cases hx9
  subst hsz
  have hl := lv_entry ([.ref (a 0), .int (nI ps), .int p1]) (n := 4) (Nat.le_of_ble_eq_true rfl)
  rw [lg_entry_eq]
  generalize (lg_sl ([.ref (a 0), .int (nI ps), .int p1]) ++ List.replicate (4 - (lg_sl ([.ref (a 0), .int (nI ps), .int p1])).length) Slot.unset).toArray = ls at hl ⊢
  have hl : lv_has ls 4 [(0, .ref (a 0)), (1, .int (nI ps)), (2, .int p1)] := hl
  refine lv_iload_n hx hb dX5_listen_0 rfl (lv_at hl 1 rfl) ?_
  refine va_csv (W.runS (As := [.int (nI ps)]) (rest := []) ⟨hx, hb, hml, hown, hts⟩ (c_X5_checkPerson l dC dI a k u ps hp) (cwS 1 hts (wG_S wG_c q_514 q_515 q_1 q_516) rfl rfl rfl (by decide +kernel) ⟨Nat.le_of_ble_eq_true rfl, Nat.le_of_ble_eq_true rfl⟩) (w_roS hK hP) rfl rfl hl.1 rfl (lv_room (Nat.le_of_ble_eq_true rfl)) dX5_listen_1 ⟨Nat.le_of_ble_eq_true rfl, Nat.le_of_ble_eq_true rfl⟩) (fun _ => ?_)
  refine lv_aload_n hx hb dX5_listen_4 rfl (lv_at hl 0 rfl) ?_
  refine lv_iload_n hx hb dX5_listen_5 rfl (lv_at hl 2 rfl) ?_
  refine XW.callV (As := [.int p1]) (rest := []) ⟨hx, hb, hml, hown, hts⟩ (x_X5_checkSlot l dC dI a k u _ hst h20 p1 hb9) (cwV 1 hts (wG_V wG_c q_434 q_436 p_5 q_1 q_437) rfl rfl rfl (by decide +kernel) ⟨Nat.le_of_ble_eq_true rfl, Nat.le_of_ble_eq_true rfl⟩) (w_pxV hK hP hX (ci := 5) (q0 := 0) rfl (wC_g0 a k _) rfl) rfl hl.1 rfl (Nat.le_of_ble_eq_true rfl) dX5_listen_6 ⟨Nat.le_of_ble_eq_true rfl, Nat.le_of_ble_eq_true rfl⟩ (fun q9 st9 t9 H9 L9 h0 hfc ht9 _ hxc hL9 => ?_)
  exact x_on (fun x h9 => (hnoh x h9).elim) hlocks h0 hfc ht9 hxc hL9 (Nat.le_refl _) (Nat.le_refl _)
