theorem c_ok_add {u : c_St} (h : c_ok u) (hN : cu_N u 0 < 200) {sc tm n : Nat} {bt : Int64} {un ic : Nat} (h1 : sc ≤ 9) (h2 : tm ≤ 9999999) (h3 : 1 ≤ n) (h4 : n ≤ 8) (h5 : un ≤ 99) (h6 : ic ≤ 49) : c_ok (c_add u sc tm n bt un ic) := by
  have e0 : cu_N (c_add u sc tm n bt un ic) 0 = cu_N u 0 + 1 := rfl
  refine ⟨by rw [e0]; omega, h.2.1, fun m hm => ?_, h.2.2.2.1, h.2.2.2.2⟩
  rw [e0] at hm
  by_cases hk : m = cu_N u 0
  · subst hk
    simp [c_add, cx_NN, cx_NF, cx_NB, cx_NG, cx_ND, cx_NL, cx_FN, cx_FF, cx_FB, cx_FG, cx_FD, cx_FL, cx_BN, cx_BF, cx_BB, cx_BG, cx_BD, cx_BL, cx_GN, cx_GF, cx_GB, cx_GG, cx_GD, cx_GL, cx_DN, cx_DF, cx_DB, cx_DG, cx_DD, cx_DL, cx_LN, cx_LF, cx_LB, cx_LG, cx_LD, cx_LL]
    omega
  · have h9 := h.2.2.1 m (by omega)
    simp [c_add, hk, cx_NN, cx_NF, cx_NB, cx_NG, cx_ND, cx_NL, cx_FN, cx_FF, cx_FB, cx_FG, cx_FD, cx_FL, cx_BN, cx_BF, cx_BB, cx_BG, cx_BD, cx_BL, cx_GN, cx_GF, cx_GB, cx_GG, cx_GD, cx_GL, cx_DN, cx_DF, cx_DB, cx_DG, cx_DD, cx_DL, cx_LN, cx_LF, cx_LB, cx_LG, cx_LD, cx_LL]
    omega
/-- the k-th of the line is asked for -/
def c_mt (u : c_St) (t1 t2 pu pi : Int32) (k : Nat) : Bool := c_of u (cu_F u 6 k) pu pi && decide (0 < c_bb u (cu_F u 6 k) t2 - c_bb u (cu_F u 6 k) t1)
def c_fc (u : c_St) (t1 t2 pu pi : Int32) : Nat → Nat
  | 0 => 0
  | k + 1 => c_fc u t1 t2 pu pi k + (if c_mt u t1 t2 pu pi k = true then 1 else 0)
def c_fd (u : c_St) (t1 t2 pu pi : Int32) (q : Nat) : Nat → Int
  | 0 => -1
  | k + 1 => if c_fd u t1 t2 pu pi q k = -1 then (if c_mt u t1 t2 pu pi k = true ∧ c_fc u t1 t2 pu pi k = q then (cu_F u 6 k : Int) else -1) else c_fd u t1 t2 pu pi q k
theorem c_fc_f {u : c_St} {t1 t2 pu pi : Int32} {k : Nat} (h : c_mt u t1 t2 pu pi k = false) : c_fc u t1 t2 pu pi (k + 1) = c_fc u t1 t2 pu pi k := by
  show c_fc u t1 t2 pu pi k + _ = _
  rw [if_neg (by rw [h]; decide)]; rfl
theorem c_fc_t {u : c_St} {t1 t2 pu pi : Int32} {k : Nat} (h : c_mt u t1 t2 pu pi k = true) : c_fc u t1 t2 pu pi (k + 1) = c_fc u t1 t2 pu pi k + 1 := by
  show c_fc u t1 t2 pu pi k + _ = _
  rw [if_pos h]
theorem c_fc_le (u : c_St) (t1 t2 pu pi : Int32) : ∀ k, c_fc u t1 t2 pu pi k ≤ k
  | 0 => Nat.le_refl _
  | k + 1 => by
    have := c_fc_le u t1 t2 pu pi k
    show c_fc u t1 t2 pu pi k + _ ≤ _
    split <;> omega
theorem c_fd_n {u : c_St} {t1 t2 pu pi : Int32} {q k : Nat} (h : c_fd u t1 t2 pu pi q k = -1) (h2 : ¬ (c_mt u t1 t2 pu pi k = true ∧ c_fc u t1 t2 pu pi k = q)) : c_fd u t1 t2 pu pi q (k + 1) = -1 := by
  unfold c_fd
  rw [if_pos h, if_neg h2]
theorem c_fd_y {u : c_St} {t1 t2 pu pi : Int32} {q k : Nat} (h : c_fd u t1 t2 pu pi q k = -1) (h2 : c_mt u t1 t2 pu pi k = true ∧ c_fc u t1 t2 pu pi k = q) : ∀ d, c_fd u t1 t2 pu pi q (k + 1 + d) = (cu_F u 6 k : Int)
  | 0 => by
    show c_fd u t1 t2 pu pi q (k + 1) = _
    unfold c_fd
    rw [if_pos h, if_pos h2]
  | d + 1 => by
    have h3 := c_fd_y h h2 d
    show (if c_fd u t1 t2 pu pi q (k + 1 + d) = -1 then _ else c_fd u t1 t2 pu pi q (k + 1 + d)) = _
    rw [h3, if_neg (by omega)]

set_option maxHeartbeats 4000000 in
set_option maxRecDepth 100000 in
theorem c_X5_certificate (l : Launch) (dC : Nat → ClassId) (dI : Nat → Nat → Nat) (a : Nat → Nat) (k : c_K) (u : c_St) (hC : cu_N u 3 ≤ 200) (c9 w9 : Nat) (hc : c9 < cu_N u 3) (hw : w9 ≤ 2) : Met l yX5_certificate wsX5_certificate ({ frames := 0, cells := 0, slots := 0, locals := 0 }) (va_Pc [.ref (a 0), .int (nI c9), .int (nI w9)] (w_ro (dC, dI) vwCl (wC a k u) (tC k))) (vp_Si (fun r => r = (if w9 = 0 then nI (cu_F u 7 c9) else if w9 = 1 then cu_G u 1 c9 else cu_G u 2 c9))) 0 0 (fun _ => False) := by
  refine Met.ofW (cc := cX5_certificate) (maxL := 3) (ret := (some .int)) (by decide) rfl ?_
  intro p e s m args below meth c s₁ B hml hv
  obtain ⟨rfl, hP, hK⟩ := hv
  have hx := B.exec
  have hb := B.bytes
  have hr := B.returns
  have hts := atoms_spec (ws := wsX5_certificate) B.pre
  have htg : ∀ w ∈ wG, w.before _ s = true := fun w h => hts w (List.mem_cons_of_mem _ h)
  have hown : s.vm.findClass RX5 = some m.cls := findClass_of_methodNamed B.named
  have hlocks := B.notSynchronized
  have hl := lv_entry ([.ref (a 0), .int (nI c9), .int (nI w9)]) (n := 3) (Nat.le_of_ble_eq_true rfl)
  rw [lg_entry_eq]
  generalize (lg_sl ([.ref (a 0), .int (nI c9), .int (nI w9)]) ++ List.replicate (3 - (lg_sl ([.ref (a 0), .int (nI c9), .int (nI w9)])).length) Slot.unset).toArray = ls at hl ⊢
  have hl : lv_has ls 3 [(0, .ref (a 0)), (1, .int (nI c9)), (2, .int (nI w9))] := hl
  refine lv_iload_n hx hb dX5_certificate_0 rfl (lv_at hl 1 rfl) ?_
  refine iz_lt (a := ((c9 : Nat) : Int)) (tgt := 15) hx hb (by omega) (by omega) (nI_iI _) dX5_certificate_1 (by decide) (fun c_1 => ?_) (fun c_1 => ?_)
  · exact absurd c_1 (by omega)
  · refine lv_iload_n hx hb dX5_certificate_4 rfl (lv_at hl 1 rfl) ?_
    refine lv_aload_n hx hb dX5_certificate_5 rfl (lv_at hl 0 rfl) ?_
    refine va_get (D := (dC, dI)) (ci := 5) (v := .ref (a 4)) (C := RX5) (T := TX5) (N := 6) hx hb htg inX5 hown hK hP 0 (wC_g0 a k _) rfl 3 (by decide) (htg _ q_163) (fun _ h9 => h9) rfl dX5_certificate_6 ?_
    refine va_get (D := (dC, dI)) (ci := 0) (v := .int (nI (cu_N u 3))) (C := RX0) (T := TX0) (N := 4) hx hb htg inX0 hown hK hP 4 (wC_g4 a k _) rfl 3 (by decide) (htg _ q_124) (fun _ h9 => h9) rfl dX5_certificate_9 ?_
    refine nb_lt (a := c9) (b := (cu_N u 3)) (tgt := 25) hx hb (by omega) (by omega) rfl rfl dX5_certificate_12 (by decide) (fun c_12 => ?_) (fun c_12 => ?_)
    · refine lv_iload_n hx hb dX5_certificate_25 rfl (lv_at hl 2 rfl) ?_
      rcases (show w9 = 0 ∨ w9 = 1 ∨ w9 = 2 by omega) with e9 | e9 | e9
      · subst e9
        refine lv_tableIn (x := nI 0) (tgt := 52) hx hb dX5_certificate_26 (by decide) (by decide) (off := 26) (by decide) (by decide) ?_
        refine lv_aload_n hx hb dX5_certificate_52 rfl (lv_at hl 0 rfl) ?_
        refine va_get (D := (dC, dI)) (ci := 5) (v := .ref (a 4)) (C := RX5) (T := TX5) (N := 6) hx hb htg inX5 hown hK hP 0 (wC_g0 a k _) rfl 3 (by decide) (htg _ q_163) (fun _ h9 => h9) rfl dX5_certificate_53 ?_
        refine va_get (D := (dC, dI)) (ci := 0) (v := .ref (a 19)) (C := RX0) (T := TX0) (N := 4) hx hb htg inX0 hown hK hP 4 (wC_g4 a k _) rfl 0 (by decide) (htg _ q_118) (fun _ h9 => h9) rfl dX5_certificate_56 ?_
        refine lv_iload_n hx hb dX5_certificate_59 rfl (lv_at hl 1 rfl) ?_
        refine va_iald hx hb hK hP 19 0 (wC_g19 a k _) rfl (vp_in_nI (n := c9) (N := 200) (show c9 < 200 by omega) (by decide)) dX5_certificate_60 ?_
        refine wtopi (nI (cu_F u 7 c9)) (congrArg (fun j9 => nI (cu_F u 7 j9)) (nI_clamp (n := c9) (Nat.lt_trans (m := 200) (show c9 < 200 by omega) (by decide)))) ?_
        exact W.iret (v := nI (cu_F u 7 c9)) hx hb hr (fun t9 ht9 hW9 => ⟨_, rfl, rfl, ht9⟩) (fun _ h => by cases h) dX5_certificate_61
      · subst e9
        refine lv_tableIn (x := nI 1) (tgt := 62) hx hb dX5_certificate_26 (by decide) (by decide) (off := 36) (by decide) (by decide) ?_
        refine lv_aload_n hx hb dX5_certificate_62 rfl (lv_at hl 0 rfl) ?_
        refine va_get (D := (dC, dI)) (ci := 5) (v := .ref (a 4)) (C := RX5) (T := TX5) (N := 6) hx hb htg inX5 hown hK hP 0 (wC_g0 a k _) rfl 3 (by decide) (htg _ q_163) (fun _ h9 => h9) rfl dX5_certificate_63 ?_
        refine va_get (D := (dC, dI)) (ci := 0) (v := .ref (a 20)) (C := RX0) (T := TX0) (N := 4) hx hb htg inX0 hown hK hP 4 (wC_g4 a k _) rfl 1 (by decide) (htg _ q_120) (fun _ h9 => h9) rfl dX5_certificate_66 ?_
        refine lv_iload_n hx hb dX5_certificate_69 rfl (lv_at hl 1 rfl) ?_
        refine va_iald hx hb hK hP 20 0 (wC_g20 a k _) rfl (vp_in_nI (n := c9) (N := 200) (show c9 < 200 by omega) (by decide)) dX5_certificate_70 ?_
        refine wtopi (cu_G u 1 c9) (congrArg (fun j9 => cu_G u 1 j9) (nI_clamp (n := c9) (Nat.lt_trans (m := 200) (show c9 < 200 by omega) (by decide)))) ?_
        exact W.iret (v := cu_G u 1 c9) hx hb hr (fun t9 ht9 hW9 => ⟨_, rfl, rfl, ht9⟩) (fun _ h => by cases h) dX5_certificate_71
      · subst e9
        refine lv_tableIn (x := nI 2) (tgt := 72) hx hb dX5_certificate_26 (by decide) (by decide) (off := 46) (by decide) (by decide) ?_
        refine lv_aload_n hx hb dX5_certificate_72 rfl (lv_at hl 0 rfl) ?_
        refine va_get (D := (dC, dI)) (ci := 5) (v := .ref (a 4)) (C := RX5) (T := TX5) (N := 6) hx hb htg inX5 hown hK hP 0 (wC_g0 a k _) rfl 3 (by decide) (htg _ q_163) (fun _ h9 => h9) rfl dX5_certificate_73 ?_
        refine va_get (D := (dC, dI)) (ci := 0) (v := .ref (a 21)) (C := RX0) (T := TX0) (N := 4) hx hb htg inX0 hown hK hP 4 (wC_g4 a k _) rfl 2 (by decide) (htg _ q_122) (fun _ h9 => h9) rfl dX5_certificate_76 ?_
        refine lv_iload_n hx hb dX5_certificate_79 rfl (lv_at hl 1 rfl) ?_
        refine va_iald hx hb hK hP 21 0 (wC_g21 a k _) rfl (vp_in_nI (n := c9) (N := 200) (show c9 < 200 by omega) (by decide)) dX5_certificate_80 ?_
        refine wtopi (cu_G u 2 c9) (congrArg (fun j9 => cu_G u 2 j9) (nI_clamp (n := c9) (Nat.lt_trans (m := 200) (show c9 < 200 by omega) (by decide)))) ?_
        exact W.iret (v := cu_G u 2 c9) hx hb hr (fun t9 ht9 hW9 => ⟨_, rfl, rfl, ht9⟩) (fun _ h => by cases h) dX5_certificate_81
    · exact absurd c_12 (by omega)
set_option maxHeartbeats 4000000 in
set_option maxRecDepth 100000 in
theorem x_X5_certificate_1 (l : Launch) (dC : Nat → ClassId) (dI : Nat → Nat → Nat) (a : Nat → Nat) (k : c_K) (u : c_St) (sz : Nat) (hst : l.stackTraces = false) (hC : cu_N u 3 ≤ 200) (p0 p1 : Int32) (hb9 : isS (cu_N u 3) p0 = false) : XMet l yX5_certificate wsX5_certificate ({ frames := 6, cells := 1, slots := 6, locals := 82 }) (va_Pc [.ref (a 0), .int p0, .int p1] (w_px (dC, dI) vwCl (wC a k u) (tC k) sz)) (x_C eIAE sz) 1 6 (va_A [] sz) := by
  have hp9 := i32_b p0
  have hb8 : ¬ (0 ≤ p0.toInt ∧ p0.toInt < (cu_N u 3 : Int)) := of_decide_eq_false hb9
  refine XMet.ofW (cc := cX5_certificate) (maxL := 3) (ret := (some .int)) (by decide) rfl ?_
  intro p e s m args below meth c s₁ B hml hv
  obtain ⟨rfl, hsz, hP, hK, hX⟩ := hv
  have hx := B.exec
  have hb := B.bytes
  have hts := atoms_spec (ws := wsX5_certificate) B.pre
  have htg : ∀ w ∈ wG, w.before _ s = true := fun w h => hts w (List.mem_cons_of_mem _ h)
  have hown : s.vm.findClass RX5 = some m.cls := findClass_of_methodNamed B.named
  have hlocks := B.notSynchronized
  have hnoh : ∀ x ∈ c.exceptionTable.toList, False := fun x hx9 => by
    have h9 := B.noHandlers (hts _ List.mem_cons_self)
    rw [Array.isEmpty_iff.mp h9] at hx9
    cases hx9
  subst hsz
  have hl := lv_entry ([.ref (a 0), .int p0, .int p1]) (n := 3) (Nat.le_of_ble_eq_true rfl)
  rw [lg_entry_eq]
  generalize (lg_sl ([.ref (a 0), .int p0, .int p1]) ++ List.replicate (3 - (lg_sl ([.ref (a 0), .int p0, .int p1])).length) Slot.unset).toArray = ls at hl ⊢
  have hl : lv_has ls 3 [(0, .ref (a 0)), (1, .int p0), (2, .int p1)] := hl
  refine lv_iload_n hx hb dX5_certificate_0 rfl (lv_at hl 1 rfl) ?_
  refine wtopi (y := iI p0.toInt) (iI_self p0) ?_
  refine iz_lt (a := p0.toInt) (tgt := 15) hx hb (by omega) (by omega) rfl dX5_certificate_1 (by decide) (fun c_1 => ?_) (fun c_1 => ?_)
  · exact x_throw (E := eIAE) (text := "no such certificate") (A := va_A [] s.heap.size) hx hb hst hown (by decide +kernel) htg hX own_IAE q_244 q_245 q_11 (by decide +kernel) va_S.rf (hl.1.trans hml.symm) dX5_certificate_15 dX5_certificate_18 dX5_certificate_19 dX5_certificate_21 dX5_certificate_24 (fun x h9 => (hnoh x h9).elim) (Nat.le_of_ble_eq_true rfl) (Nat.le_of_ble_eq_true rfl) (Nat.le_of_ble_eq_true rfl) (Nat.le_of_ble_eq_true rfl) hlocks (fun q9 t9 ce9 _ z1 z2 z3 z4 z5 => ⟨⟨ce9, z3, z4, z5⟩, z1, fun z z6 _ => z2 z z6⟩) (fun _ h9 => by cases h9) (Nat.le_refl _) (Nat.le_refl _)
  · refine lv_iload_n hx hb dX5_certificate_4 rfl (lv_at hl 1 rfl) ?_
    refine wtopi (y := iI p0.toInt) (iI_self p0) ?_
    refine lv_aload_n hx hb dX5_certificate_5 rfl (lv_at hl 0 rfl) ?_
    refine va_get (D := (dC, dI)) (ci := 5) (v := .ref (a 4)) (C := RX5) (T := TX5) (N := 6) hx hb htg inX5 hown hK hP 0 (wC_g0 a k _) rfl 3 (by decide) (htg _ q_163) (fun _ h9 => h9) rfl dX5_certificate_6 ?_
    refine va_get (D := (dC, dI)) (ci := 0) (v := .int (nI (cu_N u 3))) (C := RX0) (T := TX0) (N := 4) hx hb htg inX0 hown hK hP 4 (wC_g4 a k _) rfl 3 (by decide) (htg _ q_124) (fun _ h9 => h9) rfl dX5_certificate_9 ?_
    refine wtopi (y := iI (cu_N u 3 : Int)) (nI_iI _) ?_
    refine ib_lt (a := p0.toInt) (b := (cu_N u 3 : Int)) (tgt := 25) hx hb (by omega) (by omega) (by omega) (by omega) rfl rfl dX5_certificate_12 (by decide) (fun c_12 => ?_) (fun c_12 => ?_)
    · exact absurd ⟨c_1, c_12⟩ hb8
    · exact x_throw (E := eIAE) (text := "no such certificate") (A := va_A [] s.heap.size) hx hb hst hown (by decide +kernel) htg hX own_IAE q_244 q_245 q_11 (by decide +kernel) va_S.rf (hl.1.trans hml.symm) dX5_certificate_15 dX5_certificate_18 dX5_certificate_19 dX5_certificate_21 dX5_certificate_24 (fun x h9 => (hnoh x h9).elim) (Nat.le_of_ble_eq_true rfl) (Nat.le_of_ble_eq_true rfl) (Nat.le_of_ble_eq_true rfl) (Nat.le_of_ble_eq_true rfl) hlocks (fun q9 t9 ce9 _ z1 z2 z3 z4 z5 => ⟨⟨ce9, z3, z4, z5⟩, z1, fun z z6 _ => z2 z z6⟩) (fun _ h9 => by cases h9) (Nat.le_refl _) (Nat.le_refl _)
set_option maxHeartbeats 4000000 in
set_option maxRecDepth 100000 in
theorem x_X5_certificate_2 (l : Launch) (dC : Nat → ClassId) (dI : Nat → Nat → Nat) (a : Nat → Nat) (k : c_K) (u : c_St) (sz : Nat) (hst : l.stackTraces = false) (hC : cu_N u 3 ≤ 200) (c9 : Nat) (hc : c9 < cu_N u 3) (p1 : Int32) (hb9 : inR p1 0 2 = false) : XMet l yX5_certificate wsX5_certificate ({ frames := 6, cells := 1, slots := 6, locals := 82 }) (va_Pc [.ref (a 0), .int (nI c9), .int p1] (w_px (dC, dI) vwCl (wC a k u) (tC k) sz)) (x_C eIAE sz) 1 6 (va_A [] sz) := by
  refine XMet.ofW (cc := cX5_certificate) (maxL := 3) (ret := (some .int)) (by decide) rfl ?_
  intro p e s m args below meth c s₁ B hml hv
  obtain ⟨rfl, hsz, hP, hK, hX⟩ := hv
  have hx := B.exec
  have hb := B.bytes
  have hts := atoms_spec (ws := wsX5_certificate) B.pre
  have htg : ∀ w ∈ wG, w.before _ s = true := fun w h => hts w (List.mem_cons_of_mem _ h)
  have hown : s.vm.findClass RX5 = some m.cls := findClass_of_methodNamed B.named
  have hlocks := B.notSynchronized
  have hnoh : ∀ x ∈ c.exceptionTable.toList, False := fun x hx9 => by
    have h9 := B.noHandlers (hts _ List.mem_cons_self)
    rw [Array.isEmpty_iff.mp h9] at hx9
    cases hx9
  subst hsz
  have hl := lv_entry ([.ref (a 0), .int (nI c9), .int p1]) (n := 3) (Nat.le_of_ble_eq_true rfl)
  rw [lg_entry_eq]
  generalize (lg_sl ([.ref (a 0), .int (nI c9), .int p1]) ++ List.replicate (3 - (lg_sl ([.ref (a 0), .int (nI c9), .int p1])).length) Slot.unset).toArray = ls at hl ⊢
  have hl : lv_has ls 3 [(0, .ref (a 0)), (1, .int (nI c9)), (2, .int p1)] := hl
  refine lv_iload_n hx hb dX5_certificate_0 rfl (lv_at hl 1 rfl) ?_
  refine iz_lt (a := ((c9 : Nat) : Int)) (tgt := 15) hx hb (by omega) (by omega) (nI_iI _) dX5_certificate_1 (by decide) (fun c_1 => ?_) (fun c_1 => ?_)
  · exact absurd c_1 (by omega)
  · refine lv_iload_n hx hb dX5_certificate_4 rfl (lv_at hl 1 rfl) ?_
    refine lv_aload_n hx hb dX5_certificate_5 rfl (lv_at hl 0 rfl) ?_
    refine va_get (D := (dC, dI)) (ci := 5) (v := .ref (a 4)) (C := RX5) (T := TX5) (N := 6) hx hb htg inX5 hown hK hP 0 (wC_g0 a k _) rfl 3 (by decide) (htg _ q_163) (fun _ h9 => h9) rfl dX5_certificate_6 ?_
    refine va_get (D := (dC, dI)) (ci := 0) (v := .int (nI (cu_N u 3))) (C := RX0) (T := TX0) (N := 4) hx hb htg inX0 hown hK hP 4 (wC_g4 a k _) rfl 3 (by decide) (htg _ q_124) (fun _ h9 => h9) rfl dX5_certificate_9 ?_
    refine nb_lt (a := c9) (b := (cu_N u 3)) (tgt := 25) hx hb (by omega) (by omega) rfl rfl dX5_certificate_12 (by decide) (fun c_12 => ?_) (fun c_12 => ?_)
    · refine lv_iload_n hx hb dX5_certificate_25 rfl (lv_at hl 2 rfl) ?_
      refine lv_tableOut (tgt := 82) hx hb dX5_certificate_26 (tsw_out (n := 2) hb9 (by decide)) (by decide) ?_
      exact x_throw (E := eIAE) (text := "no such what of a certificate") (A := va_A [] s.heap.size) hx hb hst hown (by decide +kernel) htg hX own_IAE q_244 q_245 q_11 (by decide +kernel) va_S.rf (hl.1.trans hml.symm) dX5_certificate_82 dX5_certificate_85 dX5_certificate_86 dX5_certificate_88 dX5_certificate_91 (fun x h9 => (hnoh x h9).elim) (Nat.le_of_ble_eq_true rfl) (Nat.le_of_ble_eq_true rfl) (Nat.le_of_ble_eq_true rfl) (Nat.le_of_ble_eq_true rfl) hlocks (fun q9 t9 ce9 _ z1 z2 z3 z4 z5 => ⟨⟨ce9, z3, z4, z5⟩, z1, fun z z6 _ => z2 z z6⟩) (fun _ h9 => by cases h9) (Nat.le_refl _) (Nat.le_refl _)
    · exact absurd c_12 (by omega)
set_option maxHeartbeats 4000000 in
set_option maxRecDepth 100000 in
theorem c_X5_count (l : Launch) (dC : Nat → ClassId) (dI : Nat → Nat → Nat) (a : Nat → Nat) (k : c_K) (u : c_St) (w9 : Nat) (hw : w9 ≤ 4) : Met l yX5_count wsX5_count ({ frames := 0, cells := 0, slots := 0, locals := 0 }) (va_Pc [.ref (a 0), .int (nI w9)] (w_ro (dC, dI) vwCl (wC a k u) (tC k))) (vp_Si (fun r => r = (if w9 = 0 then nI (cu_N u 0) else if w9 = 1 then nI (cu_N u 2) else if w9 = 2 then nI (cu_N u 1) else if w9 = 3 then nI (cu_N u 3) else nI (cu_N u 4)))) 0 0 (fun _ => False) := by
  refine Met.ofW (cc := cX5_count) (maxL := 2) (ret := (some .int)) (by decide) rfl ?_
  intro p e s m args below meth c s₁ B hml hv
  obtain ⟨rfl, hP, hK⟩ := hv
  have hx := B.exec
  have hb := B.bytes
  have hr := B.returns
  have hts := atoms_spec (ws := wsX5_count) B.pre
  have htg : ∀ w ∈ wG, w.before _ s = true := fun w h => hts w (List.mem_cons_of_mem _ h)
  have hown : s.vm.findClass RX5 = some m.cls := findClass_of_methodNamed B.named
  have hlocks := B.notSynchronized
  have hl := lv_entry ([.ref (a 0), .int (nI w9)]) (n := 2) (Nat.le_of_ble_eq_true rfl)
  rw [lg_entry_eq]
  generalize (lg_sl ([.ref (a 0), .int (nI w9)]) ++ List.replicate (2 - (lg_sl ([.ref (a 0), .int (nI w9)])).length) Slot.unset).toArray = ls at hl ⊢
  have hl : lv_has ls 2 [(0, .ref (a 0)), (1, .int (nI w9))] := hl
  refine lv_iload_n hx hb dX5_count_0 rfl (lv_at hl 1 rfl) ?_
  rcases (show w9 = 0 ∨ w9 = 1 ∨ w9 = 2 ∨ w9 = 3 ∨ w9 = 4 by omega) with e9 | e9 | e9 | e9 | e9
  · subst e9
    refine lv_tableIn (x := nI 0) (tgt := 36) hx hb dX5_count_1 (by decide) (by decide) (off := 35) (by decide) (by decide) ?_
    refine lv_aload_n hx hb dX5_count_36 rfl (lv_at hl 0 rfl) ?_
    refine va_get (D := (dC, dI)) (ci := 5) (v := .ref (a 1)) (C := RX5) (T := TX5) (N := 6) hx hb htg inX5 hown hK hP 0 (wC_g0 a k _) rfl 0 (by decide) (htg _ q_160) (fun _ h9 => h9) rfl dX5_count_37 ?_
    refine va_get (D := (dC, dI)) (ci := 4) (v := .int (nI (cu_N u 0))) (C := RX4) (T := TX4) (N := 9) hx hb htg inX4 hown hK hP 1 (wC_g1 a k _) rfl 8 (by decide) (htg _ q_46) (fun _ h9 => h9) rfl dX5_count_40 ?_
    exact W.iret (v := nI (cu_N u 0)) hx hb hr (fun t9 ht9 hW9 => ⟨_, rfl, rfl, ht9⟩) (fun _ h => by cases h) dX5_count_43
  · subst e9
    refine lv_tableIn (x := nI 1) (tgt := 44) hx hb dX5_count_1 (by decide) (by decide) (off := 43) (by decide) (by decide) ?_
    refine lv_aload_n hx hb dX5_count_44 rfl (lv_at hl 0 rfl) ?_
    refine va_get (D := (dC, dI)) (ci := 5) (v := .ref (a 3)) (C := RX5) (T := TX5) (N := 6) hx hb htg inX5 hown hK hP 0 (wC_g0 a k _) rfl 2 (by decide) (htg _ q_162) (fun _ h9 => h9) rfl dX5_count_45 ?_
    refine va_get (D := (dC, dI)) (ci := 1) (v := .int (nI (cu_N u 2))) (C := RX1) (T := TX1) (N := 4) hx hb htg inX1 hown hK hP 3 (wC_g3 a k _) rfl 1 (by decide) (htg _ q_99) (fun _ h9 => h9) rfl dX5_count_48 ?_
    exact W.iret (v := nI (cu_N u 2)) hx hb hr (fun t9 ht9 hW9 => ⟨_, rfl, rfl, ht9⟩) (fun _ h => by cases h) dX5_count_51
  · subst e9
    refine lv_tableIn (x := nI 2) (tgt := 52) hx hb dX5_count_1 (by decide) (by decide) (off := 51) (by decide) (by decide) ?_
    refine lv_aload_n hx hb dX5_count_52 rfl (lv_at hl 0 rfl) ?_
    refine va_get (D := (dC, dI)) (ci := 5) (v := .ref (a 2)) (C := RX5) (T := TX5) (N := 6) hx hb htg inX5 hown hK hP 0 (wC_g0 a k _) rfl 1 (by decide) (htg _ q_161) (fun _ h9 => h9) rfl dX5_count_53 ?_
    refine va_get (D := (dC, dI)) (ci := 3) (v := .int (nI (cu_N u 1))) (C := RX3) (T := TX3) (N := 4) hx hb htg inX3 hown hK hP 2 (wC_g2 a k _) rfl 3 (by decide) (htg _ q_80) (fun _ h9 => h9) rfl dX5_count_56 ?_
    exact W.iret (v := nI (cu_N u 1)) hx hb hr (fun t9 ht9 hW9 => ⟨_, rfl, rfl, ht9⟩) (fun _ h => by cases h) dX5_count_59
  · subst e9
    refine lv_tableIn (x := nI 3) (tgt := 60) hx hb dX5_count_1 (by decide) (by decide) (off := 59) (by decide) (by decide) ?_
    refine lv_aload_n hx hb dX5_count_60 rfl (lv_at hl 0 rfl) ?_
    refine va_get (D := (dC, dI)) (ci := 5) (v := .ref (a 4)) (C := RX5) (T := TX5) (N := 6) hx hb htg inX5 hown hK hP 0 (wC_g0 a k _) rfl 3 (by decide) (htg _ q_163) (fun _ h9 => h9) rfl dX5_count_61 ?_
    refine va_get (D := (dC, dI)) (ci := 0) (v := .int (nI (cu_N u 3))) (C := RX0) (T := TX0) (N := 4) hx hb htg inX0 hown hK hP 4 (wC_g4 a k _) rfl 3 (by decide) (htg _ q_124) (fun _ h9 => h9) rfl dX5_count_64 ?_
    exact W.iret (v := nI (cu_N u 3)) hx hb hr (fun t9 ht9 hW9 => ⟨_, rfl, rfl, ht9⟩) (fun _ h => by cases h) dX5_count_67
  · subst e9
    refine lv_tableIn (x := nI 4) (tgt := 68) hx hb dX5_count_1 (by decide) (by decide) (off := 67) (by decide) (by decide) ?_
    refine lv_aload_n hx hb dX5_count_68 rfl (lv_at hl 0 rfl) ?_
    refine va_get (D := (dC, dI)) (ci := 5) (v := .ref (a 5)) (C := RX5) (T := TX5) (N := 6) hx hb htg inX5 hown hK hP 0 (wC_g0 a k _) rfl 4 (by decide) (htg _ q_164) (fun _ h9 => h9) rfl dX5_count_69 ?_
    refine va_get (D := (dC, dI)) (ci := 2) (v := .int (nI (cu_N u 4))) (C := RX2) (T := TX2) (N := 5) hx hb htg inX2 hown hK hP 5 (wC_g5 a k _) rfl 3 (by decide) (htg _ q_147) (fun _ h9 => h9) rfl dX5_count_72 ?_
    exact W.iret (v := nI (cu_N u 4)) hx hb hr (fun t9 ht9 hW9 => ⟨_, rfl, rfl, ht9⟩) (fun _ h => by cases h) dX5_count_75
set_option maxHeartbeats 4000000 in
set_option maxRecDepth 100000 in
theorem x_X5_count (l : Launch) (dC : Nat → ClassId) (dI : Nat → Nat → Nat) (a : Nat → Nat) (k : c_K) (u : c_St) (sz : Nat) (hst : l.stackTraces = false) (p0 : Int32) (hb9 : inR p0 0 4 = false) : XMet l yX5_count wsX5_count ({ frames := 6, cells := 1, slots := 6, locals := 82 }) (va_Pc [.ref (a 0), .int p0] (w_px (dC, dI) vwCl (wC a k u) (tC k) sz)) (x_C eIAE sz) 1 6 (va_A [] sz) := by
  refine XMet.ofW (cc := cX5_count) (maxL := 2) (ret := (some .int)) (by decide) rfl ?_
  intro p e s m args below meth c s₁ B hml hv
  obtain ⟨rfl, hsz, hP, hK, hX⟩ := hv
  have hx := B.exec
  have hb := B.bytes
  have hts := atoms_spec (ws := wsX5_count) B.pre
  have htg : ∀ w ∈ wG, w.before _ s = true := fun w h => hts w (List.mem_cons_of_mem _ h)
  have hown : s.vm.findClass RX5 = some m.cls := findClass_of_methodNamed B.named
  have hlocks := B.notSynchronized
  have hnoh : ∀ x ∈ c.exceptionTable.toList, False := fun x hx9 => by
    have h9 := B.noHandlers (hts _ List.mem_cons_self)
    rw [Array.isEmpty_iff.mp h9] at hx9
    cases hx9
  subst hsz
  have hl := lv_entry ([.ref (a 0), .int p0]) (n := 2) (Nat.le_of_ble_eq_true rfl)
  rw [lg_entry_eq]
  generalize (lg_sl ([.ref (a 0), .int p0]) ++ List.replicate (2 - (lg_sl ([.ref (a 0), .int p0])).length) Slot.unset).toArray = ls at hl ⊢
  have hl : lv_has ls 2 [(0, .ref (a 0)), (1, .int p0)] := hl
  refine lv_iload_n hx hb dX5_count_0 rfl (lv_at hl 1 rfl) ?_
  refine lv_tableOut (tgt := 76) hx hb dX5_count_1 (tsw_out (n := 4) hb9 (by decide)) (by decide) ?_
  exact x_throw (E := eIAE) (text := "no such what to count") (A := va_A [] s.heap.size) hx hb hst hown (by decide +kernel) htg hX own_IAE q_244 q_245 q_11 (by decide +kernel) va_S.rf (hl.1.trans hml.symm) dX5_count_76 dX5_count_79 dX5_count_80 dX5_count_82 dX5_count_85 (fun x h9 => (hnoh x h9).elim) (Nat.le_of_ble_eq_true rfl) (Nat.le_of_ble_eq_true rfl) (Nat.le_of_ble_eq_true rfl) (Nat.le_of_ble_eq_true rfl) hlocks (fun q9 t9 ce9 _ z1 z2 z3 z4 z5 => ⟨⟨ce9, z3, z4, z5⟩, z1, fun z z6 _ => z2 z z6⟩) (fun _ h9 => by cases h9) (Nat.le_refl _) (Nat.le_refl _)
set_option maxHeartbeats 4000000 in
set_option maxRecDepth 100000 in
theorem c_X5_row (l : Launch) (dC : Nat → ClassId) (dI : Nat → Nat → Nat) (a : Nat → Nat) (k : c_K) (u : c_St) (hR : cu_N u 4 ≤ 600) (i w9 : Nat) (hi : i < cu_N u 4) (hk : cu_N u 4 ≤ i + 200) (hw : w9 ≤ 2) : Met l yX5_row wsX5_row ({ frames := 1, cells := 0, slots := 0, locals := 21 }) (va_Pc [.ref (a 0), .int (nI i), .int (nI w9)] (w_ro (dC, dI) vwCl (wC a k u) (tC k))) (vp_Si (fun r => r = (if w9 = 0 then nI (cu_F u 8 (i % 200)) else if w9 = 1 then nI (cu_F u 9 (i % 200)) else bI (cu_B u 1 (i % 200))))) 0 0 (fun _ => False) := by
  refine Met.ofW (cc := cX5_row) (maxL := 4) (ret := (some .int)) (by decide) rfl ?_
  intro p e s m args below meth c s₁ B hml hv
  obtain ⟨rfl, hP, hK⟩ := hv
  have hx := B.exec
  have hb := B.bytes
  have hr := B.returns
  have hts := atoms_spec (ws := wsX5_row) B.pre
  have htg : ∀ w ∈ wG, w.before _ s = true := fun w h => hts w (List.mem_cons_of_mem _ h)
  have hown : s.vm.findClass RX5 = some m.cls := findClass_of_methodNamed B.named
  have hlocks := B.notSynchronized
  have hl := lv_entry ([.ref (a 0), .int (nI i), .int (nI w9)]) (n := 4) (Nat.le_of_ble_eq_true rfl)
  rw [lg_entry_eq]
  generalize (lg_sl ([.ref (a 0), .int (nI i), .int (nI w9)]) ++ List.replicate (4 - (lg_sl ([.ref (a 0), .int (nI i), .int (nI w9)])).length) Slot.unset).toArray = ls at hl ⊢
  have hl : lv_has ls 4 [(0, .ref (a 0)), (1, .int (nI i)), (2, .int (nI w9))] := hl
  have hm9 : i % 200 < 200 := Nat.mod_lt _ (by decide)
  have hkp : c_kept u (nI i) = true := by
    unfold c_kept
    rw [isS_nI (by omega), nI_toInt (by omega)]
    simp
    omega
  refine lv_aload_n hx hb dX5_row_0 rfl (lv_at hl 0 rfl) ?_
  refine va_get (D := (dC, dI)) (ci := 5) (v := .ref (a 5)) (C := RX5) (T := TX5) (N := 6) hx hb htg inX5 hown hK hP 0 (wC_g0 a k _) rfl 4 (by decide) (htg _ q_164) (fun _ h9 => h9) rfl dX5_row_1 ?_
  refine lv_iload_n hx hb dX5_row_4 rfl (lv_at hl 1 rfl) ?_
  refine vp_callSi (W.runV (As := [.int (nI i)]) (rest := []) ⟨hx, hb, hml, hown, hts⟩ (c_X2_isKept l dC dI a k u hR (nI i)) (cwV 1 hts (wG_V wG_c q_548 q_549 q_550 q_6 q_551) rfl rfl rfl (by decide +kernel) ⟨Nat.le_of_ble_eq_true rfl, Nat.le_of_ble_eq_true rfl⟩) (w_roV hK hP (ci := 2) (q0 := 5) rfl (wC_g5 a k _) rfl) rfl rfl hl.1 rfl (lv_room (Nat.le_of_ble_eq_true rfl)) dX5_row_5 ⟨Nat.le_of_ble_eq_true rfl, Nat.le_of_ble_eq_true rfl⟩) (fun r_1 hr_1 => ?_)
  subst hr_1
  refine bz_ne (a := (c_kept u (nI i))) (tgt := 21) hx hb dX5_row_8 (by decide) (fun c_8 => ?_) (fun c_8 => ?_)
  · refine lv_iload_n hx hb dX5_row_21 rfl (lv_at hl 1 rfl) ?_
    refine lv_sipush (v := 200) hx hb dX5_row_22 (by decide) ?_
    refine lv_irem hx hb dX5_row_25 (by decide) ?_
    refine wtopi (y := nI (i % 200)) (irem200 (by omega)) ?_
    refine lv_istore_n (lv' := [(3, .int (nI (i % 200))), (0, .ref (a 0)), (1, .int (nI i)), (2, .int (nI w9))]) hx hb dX5_row_26 rfl hl (by decide) rfl (fun ls hl => ?_)
    refine lv_iload_n hx hb dX5_row_27 rfl (lv_at hl 3 rfl) ?_
    rcases (show w9 = 0 ∨ w9 = 1 ∨ w9 = 2 by omega) with e9 | e9 | e9
    · subst e9
      refine lv_tableIn (x := nI 0) (tgt := 56) hx hb dX5_row_28 (by decide) (by decide) (off := 28) (by decide) (by decide) ?_
      refine lv_aload_n hx hb dX5_row_56 rfl (lv_at hl 1 rfl) ?_
      refine va_get (D := (dC, dI)) (ci := 5) (v := .ref (a 5)) (C := RX5) (T := TX5) (N := 6) hx hb htg inX5 hown hK hP 0 (wC_g0 a k _) rfl 4 (by decide) (htg _ q_164) (fun _ h9 => h9) rfl dX5_row_57 ?_
      refine va_get (D := (dC, dI)) (ci := 2) (v := .ref (a 22)) (C := RX2) (T := TX2) (N := 5) hx hb htg inX2 hown hK hP 5 (wC_g5 a k _) rfl 0 (by decide) (htg _ q_141) (fun _ h9 => h9) rfl dX5_row_60 ?_
      refine lv_iload_n hx hb dX5_row_63 rfl (lv_at hl 0 rfl) ?_
      refine va_iald hx hb hK hP 22 0 (wC_g22 a k _) rfl (vp_in_nI (n := (i % 200)) (N := 200) hm9 (by decide)) dX5_row_64 ?_
      refine wtopi (nI (cu_F u 8 (i % 200))) (congrArg (fun j9 => nI (cu_F u 8 j9)) (nI_clamp (n := (i % 200)) (Nat.lt_trans (m := 200) hm9 (by decide)))) ?_
      exact W.iret (v := nI (cu_F u 8 (i % 200))) hx hb hr (fun t9 ht9 hW9 => ⟨_, rfl, rfl, ht9⟩) (fun _ h => by cases h) dX5_row_65
    · subst e9
      refine lv_tableIn (x := nI 1) (tgt := 66) hx hb dX5_row_28 (by decide) (by decide) (off := 38) (by decide) (by decide) ?_
      refine lv_aload_n hx hb dX5_row_66 rfl (lv_at hl 1 rfl) ?_
      refine va_get (D := (dC, dI)) (ci := 5) (v := .ref (a 5)) (C := RX5) (T := TX5) (N := 6) hx hb htg inX5 hown hK hP 0 (wC_g0 a k _) rfl 4 (by decide) (htg _ q_164) (fun _ h9 => h9) rfl dX5_row_67 ?_
      refine va_get (D := (dC, dI)) (ci := 2) (v := .ref (a 23)) (C := RX2) (T := TX2) (N := 5) hx hb htg inX2 hown hK hP 5 (wC_g5 a k _) rfl 1 (by decide) (htg _ q_143) (fun _ h9 => h9) rfl dX5_row_70 ?_
      refine lv_iload_n hx hb dX5_row_73 rfl (lv_at hl 0 rfl) ?_
      refine va_iald hx hb hK hP 23 0 (wC_g23 a k _) rfl (vp_in_nI (n := (i % 200)) (N := 200) hm9 (by decide)) dX5_row_74 ?_
      refine wtopi (nI (cu_F u 9 (i % 200))) (congrArg (fun j9 => nI (cu_F u 9 j9)) (nI_clamp (n := (i % 200)) (Nat.lt_trans (m := 200) hm9 (by decide)))) ?_
      exact W.iret (v := nI (cu_F u 9 (i % 200))) hx hb hr (fun t9 ht9 hW9 => ⟨_, rfl, rfl, ht9⟩) (fun _ h => by cases h) dX5_row_75
    · subst e9
      refine lv_tableIn (x := nI 2) (tgt := 76) hx hb dX5_row_28 (by decide) (by decide) (off := 48) (by decide) (by decide) ?_
      refine lv_aload_n hx hb dX5_row_76 rfl (lv_at hl 1 rfl) ?_
      refine va_get (D := (dC, dI)) (ci := 5) (v := .ref (a 5)) (C := RX5) (T := TX5) (N := 6) hx hb htg inX5 hown hK hP 0 (wC_g0 a k _) rfl 4 (by decide) (htg _ q_164) (fun _ h9 => h9) rfl dX5_row_77 ?_
      refine va_get (D := (dC, dI)) (ci := 2) (v := .ref (a 24)) (C := RX2) (T := TX2) (N := 5) hx hb htg inX2 hown hK hP 5 (wC_g5 a k _) rfl 2 (by decide) (htg _ q_145) (fun _ h9 => h9) rfl dX5_row_80 ?_
      refine lv_iload_n hx hb dX5_row_83 rfl (lv_at hl 0 rfl) ?_
      refine va_zald hx hb hK hP 24 2 (wC_g24 a k _) rfl (vp_in_nI (n := (i % 200)) (N := 200) hm9 (by decide)) dX5_row_84 ?_
      refine wtopi (bI (cu_B u 1 (i % 200))) (congrArg (fun j9 => bI (cu_B u 1 j9)) (nI_clamp (n := (i % 200)) (Nat.lt_trans (m := 200) hm9 (by decide)))) ?_
      refine bz_eq (a := (cu_B u 1 (i % 200))) (tgt := 92) hx hb dX5_row_85 (by decide) (fun c_85 => ?_) (fun c_85 => ?_)
      · refine lv_iconst (v := 0) hx hb dX5_row_92 (by decide) ?_
        exact W.iret (v := 0) hx hb hr (fun t9 ht9 hW9 => ⟨_, rfl, (by show _ = bI (cu_B u 1 (i % 200)); rw [c_85]; rfl), ht9⟩) (fun _ h => by cases h) dX5_row_93
      · refine lv_iconst (v := 1) hx hb dX5_row_88 (by decide) ?_
        refine lv_goto (tgt := 93) hx hb dX5_row_89 (by decide) ?_
        exact W.iret (v := 1) hx hb hr (fun t9 ht9 hW9 => ⟨_, rfl, (by show _ = bI (cu_B u 1 (i % 200)); rw [c_85]; rfl), ht9⟩) (fun _ h => by cases h) dX5_row_93
  · exact absurd c_8 (by rw [hkp]; decide)
set_option maxHeartbeats 4000000 in
set_option maxRecDepth 100000 in
theorem x_X5_row_1 (l : Launch) (dC : Nat → ClassId) (dI : Nat → Nat → Nat) (a : Nat → Nat) (k : c_K) (u : c_St) (sz : Nat) (hst : l.stackTraces = false) (hR : cu_N u 4 ≤ 600) (p0 p1 : Int32) (hb9 : c_kept u p0 = false) : XMet l yX5_row wsX5_row ({ frames := 6, cells := 1, slots := 6, locals := 82 }) (va_Pc [.ref (a 0), .int p0, .int p1] (w_px (dC, dI) vwCl (wC a k u) (tC k) sz)) (x_C eIAE sz) 1 6 (va_A [] sz) := by
  refine XMet.ofW (cc := cX5_row) (maxL := 4) (ret := (some .int)) (by decide) rfl ?_
  intro p e s m args below meth c s₁ B hml hv
  obtain ⟨rfl, hsz, hP, hK, hX⟩ := hv
  have hx := B.exec
  have hb := B.bytes
  have hts := atoms_spec (ws := wsX5_row) B.pre
  have htg : ∀ w ∈ wG, w.before _ s = true := fun w h => hts w (List.mem_cons_of_mem _ h)
  have hown : s.vm.findClass RX5 = some m.cls := findClass_of_methodNamed B.named
  have hlocks := B.notSynchronized
  have hnoh : ∀ x ∈ c.exceptionTable.toList, False := fun x hx9 => by
    have h9 := B.noHandlers (hts _ List.mem_cons_self)
    rw [Array.isEmpty_iff.mp h9] at hx9
    cases hx9
  subst hsz
  have hl := lv_entry ([.ref (a 0), .int p0, .int p1]) (n := 4) (Nat.le_of_ble_eq_true rfl)
  rw [lg_entry_eq]
  generalize (lg_sl ([.ref (a 0), .int p0, .int p1]) ++ List.replicate (4 - (lg_sl ([.ref (a 0), .int p0, .int p1])).length) Slot.unset).toArray = ls at hl ⊢
  have hl : lv_has ls 4 [(0, .ref (a 0)), (1, .int p0), (2, .int p1)] := hl
  refine lv_aload_n hx hb dX5_row_0 rfl (lv_at hl 0 rfl) ?_
  refine va_get (D := (dC, dI)) (ci := 5) (v := .ref (a 5)) (C := RX5) (T := TX5) (N := 6) hx hb htg inX5 hown hK hP 0 (wC_g0 a k _) rfl 4 (by decide) (htg _ q_164) (fun _ h9 => h9) rfl dX5_row_1 ?_
  refine lv_iload_n hx hb dX5_row_4 rfl (lv_at hl 1 rfl) ?_
  refine vp_callSi (W.runV (As := [.int p0]) (rest := []) ⟨hx, hb, hml, hown, hts⟩ (c_X2_isKept l dC dI a k u hR p0) (cwV 1 hts (wG_V wG_c q_548 q_549 q_550 q_6 q_551) rfl rfl rfl (by decide +kernel) ⟨Nat.le_of_ble_eq_true rfl, Nat.le_of_ble_eq_true rfl⟩) (w_roV hK hP (ci := 2) (q0 := 5) rfl (wC_g5 a k _) rfl) rfl rfl hl.1 rfl (lv_room (Nat.le_of_ble_eq_true rfl)) dX5_row_5 ⟨Nat.le_of_ble_eq_true rfl, Nat.le_of_ble_eq_true rfl⟩) (fun r_1 hr_1 => ?_)
  subst hr_1
  refine bz_ne (a := (c_kept u p0)) (tgt := 21) hx hb dX5_row_8 (by decide) (fun c_8 => ?_) (fun c_8 => ?_)
  · exact absurd c_8 (by rw [hb9]; decide)
  · exact x_throw (E := eIAE) (text := "no such row is kept") (A := va_A [] s.heap.size) hx hb hst hown (by decide +kernel) htg hX own_IAE q_244 q_245 q_11 (by decide +kernel) va_S.rf (hl.1.trans hml.symm) dX5_row_11 dX5_row_14 dX5_row_15 dX5_row_17 dX5_row_20 (fun x h9 => (hnoh x h9).elim) (Nat.le_of_ble_eq_true rfl) (Nat.le_of_ble_eq_true rfl) (Nat.le_of_ble_eq_true rfl) (Nat.le_of_ble_eq_true rfl) hlocks (fun q9 t9 ce9 _ z1 z2 z3 z4 z5 => ⟨⟨ce9, z3, z4, z5⟩, z1, fun z z6 _ => z2 z z6⟩) (fun _ h9 => by cases h9) (Nat.le_refl _) (Nat.le_refl _)
set_option maxHeartbeats 4000000 in
set_option maxRecDepth 100000 in
theorem x_X5_row_2 (l : Launch) (dC : Nat → ClassId) (dI : Nat → Nat → Nat) (a : Nat → Nat) (k : c_K) (u : c_St) (sz : Nat) (hst : l.stackTraces = false) (hR : cu_N u 4 ≤ 600) (i : Nat) (hi : i < cu_N u 4) (p1 : Int32) (hkp : c_kept u (nI i) = true) (hb9 : inR p1 0 2 = false) : XMet l yX5_row wsX5_row ({ frames := 6, cells := 1, slots := 6, locals := 82 }) (va_Pc [.ref (a 0), .int (nI i), .int p1] (w_px (dC, dI) vwCl (wC a k u) (tC k) sz)) (x_C eIAE sz) 1 6 (va_A [] sz) := by
  refine XMet.ofW (cc := cX5_row) (maxL := 4) (ret := (some .int)) (by decide) rfl ?_
  intro p e s m args below meth c s₁ B hml hv
  obtain ⟨rfl, hsz, hP, hK, hX⟩ := hv
  have hx := B.exec
  have hb := B.bytes
  have hts := atoms_spec (ws := wsX5_row) B.pre
  have htg : ∀ w ∈ wG, w.before _ s = true := fun w h => hts w (List.mem_cons_of_mem _ h)
  have hown : s.vm.findClass RX5 = some m.cls := findClass_of_methodNamed B.named
  have hlocks := B.notSynchronized
  have hnoh : ∀ x ∈ c.exceptionTable.toList, False := fun x hx9 => by
    have h9 := B.noHandlers (hts _ List.mem_cons_self)
    rw [Array.isEmpty_iff.mp h9] at hx9
    cases hx9
  subst hsz
  have hl := lv_entry ([.ref (a 0), .int (nI i), .int p1]) (n := 4) (Nat.le_of_ble_eq_true rfl)
  rw [lg_entry_eq]
  generalize (lg_sl ([.ref (a 0), .int (nI i), .int p1]) ++ List.replicate (4 - (lg_sl ([.ref (a 0), .int (nI i), .int p1])).length) Slot.unset).toArray = ls at hl ⊢
  have hl : lv_has ls 4 [(0, .ref (a 0)), (1, .int (nI i)), (2, .int p1)] := hl
  refine lv_aload_n hx hb dX5_row_0 rfl (lv_at hl 0 rfl) ?_
  refine va_get (D := (dC, dI)) (ci := 5) (v := .ref (a 5)) (C := RX5) (T := TX5) (N := 6) hx hb htg inX5 hown hK hP 0 (wC_g0 a k _) rfl 4 (by decide) (htg _ q_164) (fun _ h9 => h9) rfl dX5_row_1 ?_
  refine lv_iload_n hx hb dX5_row_4 rfl (lv_at hl 1 rfl) ?_
  refine vp_callSi (W.runV (As := [.int (nI i)]) (rest := []) ⟨hx, hb, hml, hown, hts⟩ (c_X2_isKept l dC dI a k u hR (nI i)) (cwV 1 hts (wG_V wG_c q_548 q_549 q_550 q_6 q_551) rfl rfl rfl (by decide +kernel) ⟨Nat.le_of_ble_eq_true rfl, Nat.le_of_ble_eq_true rfl⟩) (w_roV hK hP (ci := 2) (q0 := 5) rfl (wC_g5 a k _) rfl) rfl rfl hl.1 rfl (lv_room (Nat.le_of_ble_eq_true rfl)) dX5_row_5 ⟨Nat.le_of_ble_eq_true rfl, Nat.le_of_ble_eq_true rfl⟩) (fun r_1 hr_1 => ?_)
  subst hr_1
  refine bz_ne (a := (c_kept u (nI i))) (tgt := 21) hx hb dX5_row_8 (by decide) (fun c_8 => ?_) (fun c_8 => ?_)
  · refine lv_iload_n hx hb dX5_row_21 rfl (lv_at hl 1 rfl) ?_
    refine lv_sipush (v := 200) hx hb dX5_row_22 (by decide) ?_
    refine lv_irem hx hb dX5_row_25 (by decide) ?_
    refine wtopi (y := nI (i % 200)) (irem200 (by omega)) ?_
    refine lv_istore_n (lv' := [(3, .int (nI (i % 200))), (0, .ref (a 0)), (1, .int (nI i)), (2, .int p1)]) hx hb dX5_row_26 rfl hl (by decide) rfl (fun ls hl => ?_)
    refine lv_iload_n hx hb dX5_row_27 rfl (lv_at hl 3 rfl) ?_
    refine lv_tableOut (tgt := 94) hx hb dX5_row_28 (tsw_out (n := 2) hb9 (by decide)) (by decide) ?_
    exact x_throw (E := eIAE) (text := "no such what of a row") (A := va_A [] s.heap.size) hx hb hst hown (by decide +kernel) htg hX own_IAE q_244 q_245 q_11 (by decide +kernel) va_S.rf (hl.1.trans hml.symm) dX5_row_94 dX5_row_97 dX5_row_98 dX5_row_100 dX5_row_103 (fun x h9 => (hnoh x h9).elim) (Nat.le_of_ble_eq_true rfl) (Nat.le_of_ble_eq_true rfl) (Nat.le_of_ble_eq_true rfl) (Nat.le_of_ble_eq_true rfl) hlocks (fun q9 t9 ce9 _ z1 z2 z3 z4 z5 => ⟨⟨ce9, z3, z4, z5⟩, z1, fun z z6 _ => z2 z z6⟩) (fun _ h9 => by cases h9) (Nat.le_refl _) (Nat.le_refl _)
  · exact absurd c_8 (by rw [hkp]; decide)
set_option maxHeartbeats 4000000 in
set_option maxRecDepth 100000 in
theorem c_X5_poke (l : Launch) (dC : Nat → ClassId) (dI : Nat → Nat → Nat) (a : Nat → Nat) (k : c_K) (u : c_St) (sz : Nat) (h : c_ok u) (n i mk9 : Nat) (hn : n < cu_N u 0) (hi : i < cu_F u 2 n) (hm1 : 1 ≤ mk9) (hm2 : mk9 ≤ 255) (ht : cu_B u 0 n = true) : Met l yX5_poke wsX5_poke ({ frames := 2, cells := 0, slots := 0, locals := 45 }) (va_Pc [.ref (a 0), .int (nI n), .int (nI i), .int (nI mk9)] (w_mu (dC, dI) vwCl (wC a k u) (tC k) sz)) (va_Qv (fun (u1 : c_St) => u1 = cs_L u n (cu_L u n ^^^ ((nI mk9).toInt64 <<< ((nI (8 * (cu_F u 2 n - 1 - i))).toInt64 &&& 63)))) (w_at (dC, dI) vwCl (wC a k) (tC k) (va_A (wC a k u) sz)) (va_A (wC a k u) sz)) 0 0 (va_A (wC a k u) sz) := by
  refine Met.ofW (cc := cX5_poke) (maxL := 4) (ret := none) (by decide) rfl ?_
  intro p e s m args below meth c s₁ B hml hv
  obtain ⟨rfl, hsz, hP, hK, hD0⟩ := hv
  have hx := B.exec
  have hb := B.bytes
  have hr := B.returns
  have hts := atoms_spec (ws := wsX5_poke) B.pre
  have htg : ∀ w ∈ wG, w.before _ s = true := fun w h => hts w (List.mem_cons_of_mem _ h)
  have hown : s.vm.findClass RX5 = some m.cls := findClass_of_methodNamed B.named
  have hlocks := B.notSynchronized
  subst hsz
  have hD := hD0.self (sz := s.heap.size)
  generalize hAe : va_A (wC a k u) s.heap.size = A at hD ⊢
  have hA : ∀ q : Nat, s.heap.size ≤ q → A q := fun q h => by rw [← hAe]; exact Or.inr h
  have hS : va_S A s.heap s.heap [] := va_S.rf
  have hl := lv_entry ([.ref (a 0), .int (nI n), .int (nI i), .int (nI mk9)]) (n := 4) (Nat.le_of_ble_eq_true rfl)
  rw [lg_entry_eq]
  generalize (lg_sl ([.ref (a 0), .int (nI n), .int (nI i), .int (nI mk9)]) ++ List.replicate (4 - (lg_sl ([.ref (a 0), .int (nI n), .int (nI i), .int (nI mk9)])).length) Slot.unset).toArray = ls at hl ⊢
  have hl : lv_has ls 4 [(0, .ref (a 0)), (1, .int (nI n)), (2, .int (nI i)), (3, .int (nI mk9))] := hl
  have h20 := h.1
  have hn2 := h.2.2.1 n hn
  refine lv_aload_n hx hb dX5_poke_0 rfl (lv_at hl 0 rfl) ?_
  refine lv_iload_n hx hb dX5_poke_1 rfl (lv_at hl 1 rfl) ?_
  refine va_csv (W.runV (As := [.int (nI n)]) (rest := []) ⟨hx, hb, hml, hown, hts⟩ (c_X5_checkSlot l dC dI a k u h20 n hn) (cwV 1 hts (wG_V wG_c q_434 q_436 p_5 q_1 q_437) rfl rfl rfl (by decide +kernel) ⟨Nat.le_of_ble_eq_true rfl, Nat.le_of_ble_eq_true rfl⟩) (w_roV hK hP (ci := 5) (q0 := 0) rfl (wC_g0 a k _) rfl) rfl rfl hl.1 rfl (lv_room (Nat.le_of_ble_eq_true rfl)) dX5_poke_2 ⟨Nat.le_of_ble_eq_true rfl, Nat.le_of_ble_eq_true rfl⟩) (fun _ => ?_)
  refine lv_iload_n hx hb dX5_poke_5 rfl (lv_at hl 2 rfl) ?_
  refine iz_lt (a := ((i : Nat) : Int)) (tgt := 22) hx hb (by omega) (by omega) (nI_iI _) dX5_poke_6 (by decide) (fun c_6 => ?_) (fun c_6 => ?_)
  · exact absurd c_6 (by omega)
  · refine lv_iload_n hx hb dX5_poke_9 rfl (lv_at hl 2 rfl) ?_
    refine lv_aload_n hx hb dX5_poke_10 rfl (lv_at hl 0 rfl) ?_
    refine va_get (D := (dC, dI)) (ci := 5) (v := .ref (a 1)) (C := RX5) (T := TX5) (N := 6) hx hb htg inX5 hown hK hP 0 (wC_g0 a k _) rfl 0 (by decide) (htg _ q_160) (fun _ h9 => h9) rfl dX5_poke_11 ?_
    refine va_get (D := (dC, dI)) (ci := 4) (v := .ref (a 9)) (C := RX4) (T := TX4) (N := 9) hx hb htg inX4 hown hK hP 1 (wC_g1 a k _) rfl 2 (by decide) (htg _ q_36) (fun _ h9 => h9) rfl dX5_poke_14 ?_
    refine lv_iload_n hx hb dX5_poke_17 rfl (lv_at hl 1 rfl) ?_
    refine va_iald hx hb hK hP 9 0 (wC_g9 a k _) rfl (vp_in_nI (n := n) (N := 200) (show n < 200 by omega) (by decide)) dX5_poke_18 ?_
    refine wtopi (nI (cu_F u 2 n)) (congrArg (fun j9 => nI (cu_F u 2 j9)) (nI_clamp (n := n) (Nat.lt_trans (m := 200) (show n < 200 by omega) (by decide)))) ?_
    refine nb_lt (a := i) (b := (cu_F u 2 n)) (tgt := 32) hx hb (by omega) (by omega) rfl rfl dX5_poke_19 (by decide) (fun c_19 => ?_) (fun c_19 => ?_)
    · refine lv_iload_n hx hb dX5_poke_32 rfl (lv_at hl 3 rfl) ?_
      refine lv_iconst (v := 1) hx hb dX5_poke_33 (by decide) ?_
      refine nb_lt (a := mk9) (b := 1) (tgt := 44) hx hb (by omega) (by omega) rfl rfl dX5_poke_34 (by decide) (fun c_34 => ?_) (fun c_34 => ?_)
      · exact absurd c_34 (by omega)
      · refine lv_iload_n hx hb dX5_poke_37 rfl (lv_at hl 3 rfl) ?_
        refine lv_sipush (v := 255) hx hb dX5_poke_38 (by decide) ?_
        refine nb_le (a := mk9) (b := 255) (tgt := 54) hx hb (by omega) (by omega) rfl rfl dX5_poke_41 (by decide) (fun c_41 => ?_) (fun c_41 => ?_)
        · refine lv_aload_n hx hb dX5_poke_54 rfl (lv_at hl 0 rfl) ?_
          refine lv_iload_n hx hb dX5_poke_55 rfl (lv_at hl 1 rfl) ?_
          refine va_csv (W.runV (As := [.int (nI n)]) (rest := []) ⟨hx, hb, hml, hown, hts⟩ (c_X5_checkThere l dC dI a k u n (by omega) ht) (cwV 1 hts (wG_V wG_c q_439 q_441 p_6 q_1 q_442) rfl rfl rfl (by decide +kernel) ⟨Nat.le_of_ble_eq_true rfl, Nat.le_of_ble_eq_true rfl⟩) (w_roV hK hP (ci := 5) (q0 := 0) rfl (wC_g0 a k _) rfl) rfl rfl hl.1 rfl (lv_room (Nat.le_of_ble_eq_true rfl)) dX5_poke_56 ⟨Nat.le_of_ble_eq_true rfl, Nat.le_of_ble_eq_true rfl⟩) (fun _ => ?_)
          refine lv_aload_n hx hb dX5_poke_59 rfl (lv_at hl 0 rfl) ?_
          refine va_get (D := (dC, dI)) (ci := 5) (v := .ref (a 1)) (C := RX5) (T := TX5) (N := 6) hx hb htg inX5 hown hK hP 0 (wC_g0 a k _) rfl 0 (by decide) (htg _ q_160) (fun _ h9 => h9) rfl dX5_poke_60 ?_
          refine lv_iload_n hx hb dX5_poke_63 rfl (lv_at hl 1 rfl) ?_
          refine lv_iload_n hx hb dX5_poke_64 rfl (lv_at hl 2 rfl) ?_
          refine lv_iload_n hx hb dX5_poke_65 rfl (lv_at hl 3 rfl) ?_
          refine w_calv (w := wC a k) (va_runV (As := [.int (nI n), .int (nI i), .int (nI mk9)]) (rest := []) ⟨hx, hb, hml, hown, hts⟩ (c_X4_alter l dC dI a k u _ n i (nI mk9) (by omega) hi) (cwV 3 hts (wG_V wG_c q_563 q_564 q_565 q_2 q_566) rfl rfl rfl (by decide +kernel) ⟨Nat.le_of_ble_eq_true rfl, Nat.le_of_ble_eq_true rfl⟩) (w_muV hK hP hD (ci := 4) (q0 := 1) rfl (wC_g1 a k _) rfl) rfl rfl hl.1 rfl (lv_room (Nat.le_of_ble_eq_true rfl)) dX5_poke_66 ⟨Nat.le_of_ble_eq_true rfl, Nat.le_of_ble_eq_true rfl⟩) hD hS hA (fun u_1 H locs hq_1 hP hD hS => ?_)
          subst hq_1
          exact W.vret hx hb hr (fun t9 ht9 hW9 => ⟨⟨cs_L u n (cu_L u n ^^^ ((nI mk9).toInt64 <<< ((nI (8 * (cu_F u 2 n - 1 - i))).toInt64 &&& 63))), rfl, rfl, by rw [ht9]; exact hP, va_K.moved hW9.alike hK, hD⟩, hS.F ht9⟩) hS.2.2 dX5_poke_69
        · exact absurd c_41 (by omega)
    · exact absurd c_19 (by omega)
set_option maxHeartbeats 4000000 in
set_option maxRecDepth 100000 in
theorem x_X5_poke_1 (l : Launch) (dC : Nat → ClassId) (dI : Nat → Nat → Nat) (a : Nat → Nat) (k : c_K) (u : c_St) (sz : Nat) (hst : l.stackTraces = false) (h20 : cu_N u 0 ≤ 200) (p0 p1 p2 : Int32) (hb9 : isS (cu_N u 0) p0 = false) : XMet l yX5_poke wsX5_poke ({ frames := 7, cells := 1, slots := 6, locals := 103 }) (va_Pc [.ref (a 0), .int p0, .int p1, .int p2] (w_px (dC, dI) vwCl (wC a k u) (tC k) sz)) (x_C eIAE sz) 1 6 (va_A [] sz) := by
  refine XMet.ofW (cc := cX5_poke) (maxL := 4) (ret := none) (by decide) rfl ?_
  intro p e s m args below meth c s₁ B hml hv
  obtain ⟨rfl, hsz, hP, hK, hX⟩ := hv
  have hx := B.exec
  have hb := B.bytes
  have hts := atoms_spec (ws := wsX5_poke) B.pre
  have htg : ∀ w ∈ wG, w.before _ s = true := fun w h => hts w (List.mem_cons_of_mem _ h)
  have hown : s.vm.findClass RX5 = some m.cls := findClass_of_methodNamed B.named
  have hlocks := B.notSynchronized
  have hnoh : ∀ x ∈ c.exceptionTable.toList, False := fun x hx9 => by
    have h9 := B.noHandlers (hts _ List.mem_cons_self)
    rw [Array.isEmpty_iff.mp h9] at hx9
    cases hx9
  subst hsz
  have hl := lv_entry ([.ref (a 0), .int p0, .int p1, .int p2]) (n := 4) (Nat.le_of_ble_eq_true rfl)
  rw [lg_entry_eq]
  generalize (lg_sl ([.ref (a 0), .int p0, .int p1, .int p2]) ++ List.replicate (4 - (lg_sl ([.ref (a 0), .int p0, .int p1, .int p2])).length) Slot.unset).toArray = ls at hl ⊢
  have hl : lv_has ls 4 [(0, .ref (a 0)), (1, .int p0), (2, .int p1), (3, .int p2)] := hl
  refine lv_aload_n hx hb dX5_poke_0 rfl (lv_at hl 0 rfl) ?_
  refine lv_iload_n hx hb dX5_poke_1 rfl (lv_at hl 1 rfl) ?_
  refine XW.callV (As := [.int p0]) (rest := []) ⟨hx, hb, hml, hown, hts⟩ (x_X5_checkSlot l dC dI a k u _ hst h20 p0 hb9) (cwV 1 hts (wG_V wG_c q_434 q_436 p_5 q_1 q_437) rfl rfl rfl (by decide +kernel) ⟨Nat.le_of_ble_eq_true rfl, Nat.le_of_ble_eq_true rfl⟩) (w_pxV hK hP hX (ci := 5) (q0 := 0) rfl (wC_g0 a k _) rfl) rfl hl.1 rfl (Nat.le_of_ble_eq_true rfl) dX5_poke_2 ⟨Nat.le_of_ble_eq_true rfl, Nat.le_of_ble_eq_true rfl⟩ (fun q9 st9 t9 H9 L9 h0 hfc ht9 _ hxc hL9 => ?_)
  exact x_on (fun x h9 => (hnoh x h9).elim) hlocks h0 hfc ht9 hxc hL9 (Nat.le_refl _) (Nat.le_refl _)
set_option maxHeartbeats 4000000 in
set_option maxRecDepth 100000 in
theorem x_X5_poke_2 (l : Launch) (dC : Nat → ClassId) (dI : Nat → Nat → Nat) (a : Nat → Nat) (k : c_K) (u : c_St) (sz : Nat) (hst : l.stackTraces = false) (h : c_ok u) (n : Nat) (hn : n < cu_N u 0) (p1 p2 : Int32) (hb9 : isS (cu_F u 2 n) p1 = false) : XMet l yX5_poke wsX5_poke ({ frames := 6, cells := 1, slots := 6, locals := 82 }) (va_Pc [.ref (a 0), .int (nI n), .int p1, .int p2] (w_px (dC, dI) vwCl (wC a k u) (tC k) sz)) (x_C eIOE sz) 1 6 (va_A [] sz) := by
  have h20 := h.1
  have hn2 := h.2.2.1 n hn
  have hp9 := i32_b p1
  have hb8 : ¬ (0 ≤ p1.toInt ∧ p1.toInt < (cu_F u 2 n : Int)) := of_decide_eq_false hb9
  refine XMet.ofW (cc := cX5_poke) (maxL := 4) (ret := none) (by decide) rfl ?_
  intro p e s m args below meth c s₁ B hml hv
  obtain ⟨rfl, hsz, hP, hK, hX⟩ := hv
  have hx := B.exec
  have hb := B.bytes
  have hts := atoms_spec (ws := wsX5_poke) B.pre
  have htg : ∀ w ∈ wG, w.before _ s = true := fun w h => hts w (List.mem_cons_of_mem _ h)
  have hown : s.vm.findClass RX5 = some m.cls := findClass_of_methodNamed B.named
  have hlocks := B.notSynchronized
  have hnoh : ∀ x ∈ c.exceptionTable.toList, False := fun x hx9 => by
    have h9 := B.noHandlers (hts _ List.mem_cons_self)
    rw [Array.isEmpty_iff.mp h9] at hx9
    cases hx9
  subst hsz
  have hl := lv_entry ([.ref (a 0), .int (nI n), .int p1, .int p2]) (n := 4) (Nat.le_of_ble_eq_true rfl)
  rw [lg_entry_eq]
  generalize (lg_sl ([.ref (a 0), .int (nI n), .int p1, .int p2]) ++ List.replicate (4 - (lg_sl ([.ref (a 0), .int (nI n), .int p1, .int p2])).length) Slot.unset).toArray = ls at hl ⊢
  have hl : lv_has ls 4 [(0, .ref (a 0)), (1, .int (nI n)), (2, .int p1), (3, .int p2)] := hl
  refine lv_aload_n hx hb dX5_poke_0 rfl (lv_at hl 0 rfl) ?_
  refine lv_iload_n hx hb dX5_poke_1 rfl (lv_at hl 1 rfl) ?_
  refine va_csv (W.runV (As := [.int (nI n)]) (rest := []) ⟨hx, hb, hml, hown, hts⟩ (c_X5_checkSlot l dC dI a k u h20 n hn) (cwV 1 hts (wG_V wG_c q_434 q_436 p_5 q_1 q_437) rfl rfl rfl (by decide +kernel) ⟨Nat.le_of_ble_eq_true rfl, Nat.le_of_ble_eq_true rfl⟩) (w_roV hK hP (ci := 5) (q0 := 0) rfl (wC_g0 a k _) rfl) rfl rfl hl.1 rfl (lv_room (Nat.le_of_ble_eq_true rfl)) dX5_poke_2 ⟨Nat.le_of_ble_eq_true rfl, Nat.le_of_ble_eq_true rfl⟩) (fun _ => ?_)
  refine lv_iload_n hx hb dX5_poke_5 rfl (lv_at hl 2 rfl) ?_
  refine wtopi (y := iI p1.toInt) (iI_self p1) ?_
  refine iz_lt (a := p1.toInt) (tgt := 22) hx hb (by omega) (by omega) rfl dX5_poke_6 (by decide) (fun c_6 => ?_) (fun c_6 => ?_)
  · exact x_throw (E := eIOE) (text := "the slot has no such byte") (A := va_A [] s.heap.size) hx hb hst hown (by decide +kernel) htg hX own_IOE q_325 q_326 q_12 (by decide +kernel) va_S.rf (hl.1.trans hml.symm) dX5_poke_22 dX5_poke_25 dX5_poke_26 dX5_poke_28 dX5_poke_31 (fun x h9 => (hnoh x h9).elim) (Nat.le_of_ble_eq_true rfl) (Nat.le_of_ble_eq_true rfl) (Nat.le_of_ble_eq_true rfl) (Nat.le_of_ble_eq_true rfl) hlocks (fun q9 t9 ce9 _ z1 z2 z3 z4 z5 => ⟨⟨ce9, z3, z4, z5⟩, z1, fun z z6 _ => z2 z z6⟩) (fun _ h9 => by cases h9) (Nat.le_refl _) (Nat.le_refl _)
  · refine lv_iload_n hx hb dX5_poke_9 rfl (lv_at hl 2 rfl) ?_
    refine wtopi (y := iI p1.toInt) (iI_self p1) ?_
    refine lv_aload_n hx hb dX5_poke_10 rfl (lv_at hl 0 rfl) ?_
    refine va_get (D := (dC, dI)) (ci := 5) (v := .ref (a 1)) (C := RX5) (T := TX5) (N := 6) hx hb htg inX5 hown hK hP 0 (wC_g0 a k _) rfl 0 (by decide) (htg _ q_160) (fun _ h9 => h9) rfl dX5_poke_11 ?_
    refine va_get (D := (dC, dI)) (ci := 4) (v := .ref (a 9)) (C := RX4) (T := TX4) (N := 9) hx hb htg inX4 hown hK hP 1 (wC_g1 a k _) rfl 2 (by decide) (htg _ q_36) (fun _ h9 => h9) rfl dX5_poke_14 ?_
    refine lv_iload_n hx hb dX5_poke_17 rfl (lv_at hl 1 rfl) ?_
    refine va_iald hx hb hK hP 9 0 (wC_g9 a k _) rfl (vp_in_nI (n := n) (N := 200) (show n < 200 by omega) (by decide)) dX5_poke_18 ?_
    refine wtopi (nI (cu_F u 2 n)) (congrArg (fun j9 => nI (cu_F u 2 j9)) (nI_clamp (n := n) (Nat.lt_trans (m := 200) (show n < 200 by omega) (by decide)))) ?_
    refine wtopi (y := iI (cu_F u 2 n : Int)) (nI_iI _) ?_
    refine ib_lt (a := p1.toInt) (b := (cu_F u 2 n : Int)) (tgt := 32) hx hb (by omega) (by omega) (by omega) (by omega) rfl rfl dX5_poke_19 (by decide) (fun c_19 => ?_) (fun c_19 => ?_)
    · exact absurd ⟨c_6, c_19⟩ hb8
    · exact x_throw (E := eIOE) (text := "the slot has no such byte") (A := va_A [] s.heap.size) hx hb hst hown (by decide +kernel) htg hX own_IOE q_325 q_326 q_12 (by decide +kernel) va_S.rf (hl.1.trans hml.symm) dX5_poke_22 dX5_poke_25 dX5_poke_26 dX5_poke_28 dX5_poke_31 (fun x h9 => (hnoh x h9).elim) (Nat.le_of_ble_eq_true rfl) (Nat.le_of_ble_eq_true rfl) (Nat.le_of_ble_eq_true rfl) (Nat.le_of_ble_eq_true rfl) hlocks (fun q9 t9 ce9 _ z1 z2 z3 z4 z5 => ⟨⟨ce9, z3, z4, z5⟩, z1, fun z z6 _ => z2 z z6⟩) (fun _ h9 => by cases h9) (Nat.le_refl _) (Nat.le_refl _)
set_option maxHeartbeats 4000000 in
set_option maxRecDepth 100000 in
theorem x_X5_poke_3 (l : Launch) (dC : Nat → ClassId) (dI : Nat → Nat → Nat) (a : Nat → Nat) (k : c_K) (u : c_St) (sz : Nat) (hst : l.stackTraces = false) (h : c_ok u) (n i : Nat) (hn : n < cu_N u 0) (hi : i < cu_F u 2 n) (p2 : Int32) (hb9 : inR p2 1 255 = false) : XMet l yX5_poke wsX5_poke ({ frames := 6, cells := 1, slots := 6, locals := 82 }) (va_Pc [.ref (a 0), .int (nI n), .int (nI i), .int p2] (w_px (dC, dI) vwCl (wC a k u) (tC k) sz)) (x_C eIOE sz) 1 6 (va_A [] sz) := by
  have h20 := h.1
  have hn2 := h.2.2.1 n hn
  refine XMet.ofW (cc := cX5_poke) (maxL := 4) (ret := none) (by decide) rfl ?_
  intro p e s m args below meth c s₁ B hml hv
  obtain ⟨rfl, hsz, hP, hK, hX⟩ := hv
  have hx := B.exec
  have hb := B.bytes
  have hts := atoms_spec (ws := wsX5_poke) B.pre
  have htg : ∀ w ∈ wG, w.before _ s = true := fun w h => hts w (List.mem_cons_of_mem _ h)
  have hown : s.vm.findClass RX5 = some m.cls := findClass_of_methodNamed B.named
  have hlocks := B.notSynchronized
  have hnoh : ∀ x ∈ c.exceptionTable.toList, False := fun x hx9 => by
    have h9 := B.noHandlers (hts _ List.mem_cons_self)
    rw [Array.isEmpty_iff.mp h9] at hx9
    cases hx9
  subst hsz
  have hl := lv_entry ([.ref (a 0), .int (nI n), .int (nI i), .int p2]) (n := 4) (Nat.le_of_ble_eq_true rfl)
  rw [lg_entry_eq]
  generalize (lg_sl ([.ref (a 0), .int (nI n), .int (nI i), .int p2]) ++ List.replicate (4 - (lg_sl ([.ref (a 0), .int (nI n), .int (nI i), .int p2])).length) Slot.unset).toArray = ls at hl ⊢
  have hl : lv_has ls 4 [(0, .ref (a 0)), (1, .int (nI n)), (2, .int (nI i)), (3, .int p2)] := hl
  refine lv_aload_n hx hb dX5_poke_0 rfl (lv_at hl 0 rfl) ?_
  refine lv_iload_n hx hb dX5_poke_1 rfl (lv_at hl 1 rfl) ?_
  refine va_csv (W.runV (As := [.int (nI n)]) (rest := []) ⟨hx, hb, hml, hown, hts⟩ (c_X5_checkSlot l dC dI a k u h20 n hn) (cwV 1 hts (wG_V wG_c q_434 q_436 p_5 q_1 q_437) rfl rfl rfl (by decide +kernel) ⟨Nat.le_of_ble_eq_true rfl, Nat.le_of_ble_eq_true rfl⟩) (w_roV hK hP (ci := 5) (q0 := 0) rfl (wC_g0 a k _) rfl) rfl rfl hl.1 rfl (lv_room (Nat.le_of_ble_eq_true rfl)) dX5_poke_2 ⟨Nat.le_of_ble_eq_true rfl, Nat.le_of_ble_eq_true rfl⟩) (fun _ => ?_)
  refine lv_iload_n hx hb dX5_poke_5 rfl (lv_at hl 2 rfl) ?_
  refine iz_lt (a := ((i : Nat) : Int)) (tgt := 22) hx hb (by omega) (by omega) (nI_iI _) dX5_poke_6 (by decide) (fun c_6 => ?_) (fun c_6 => ?_)
  · exact absurd c_6 (by omega)
  · refine lv_iload_n hx hb dX5_poke_9 rfl (lv_at hl 2 rfl) ?_
    refine lv_aload_n hx hb dX5_poke_10 rfl (lv_at hl 0 rfl) ?_
    refine va_get (D := (dC, dI)) (ci := 5) (v := .ref (a 1)) (C := RX5) (T := TX5) (N := 6) hx hb htg inX5 hown hK hP 0 (wC_g0 a k _) rfl 0 (by decide) (htg _ q_160) (fun _ h9 => h9) rfl dX5_poke_11 ?_
    refine va_get (D := (dC, dI)) (ci := 4) (v := .ref (a 9)) (C := RX4) (T := TX4) (N := 9) hx hb htg inX4 hown hK hP 1 (wC_g1 a k _) rfl 2 (by decide) (htg _ q_36) (fun _ h9 => h9) rfl dX5_poke_14 ?_
    refine lv_iload_n hx hb dX5_poke_17 rfl (lv_at hl 1 rfl) ?_
    refine va_iald hx hb hK hP 9 0 (wC_g9 a k _) rfl (vp_in_nI (n := n) (N := 200) (show n < 200 by omega) (by decide)) dX5_poke_18 ?_
    refine wtopi (nI (cu_F u 2 n)) (congrArg (fun j9 => nI (cu_F u 2 j9)) (nI_clamp (n := n) (Nat.lt_trans (m := 200) (show n < 200 by omega) (by decide)))) ?_
    refine nb_lt (a := i) (b := (cu_F u 2 n)) (tgt := 32) hx hb (by omega) (by omega) rfl rfl dX5_poke_19 (by decide) (fun c_19 => ?_) (fun c_19 => ?_)
    · refine lv_iload_n hx hb dX5_poke_32 rfl (lv_at hl 3 rfl) ?_
      refine lv_iconst (v := 1) hx hb dX5_poke_33 (by decide) ?_
      refine lv_icmp_lt (tgt := 44) hx hb dX5_poke_34 (by decide) (fun c_34 => ?_) (fun c_34 => ?_)
      · exact x_throw (E := eIOE) (text := "a mask is 1 to 255") (A := va_A [] s.heap.size) hx hb hst hown (by decide +kernel) htg hX own_IOE q_325 q_326 q_12 (by decide +kernel) va_S.rf (hl.1.trans hml.symm) dX5_poke_44 dX5_poke_47 dX5_poke_48 dX5_poke_50 dX5_poke_53 (fun x h9 => (hnoh x h9).elim) (Nat.le_of_ble_eq_true rfl) (Nat.le_of_ble_eq_true rfl) (Nat.le_of_ble_eq_true rfl) (Nat.le_of_ble_eq_true rfl) hlocks (fun q9 t9 ce9 _ z1 z2 z3 z4 z5 => ⟨⟨ce9, z3, z4, z5⟩, z1, fun z z6 _ => z2 z z6⟩) (fun _ h9 => by cases h9) (Nat.le_refl _) (Nat.le_refl _)
      · refine lv_iload_n hx hb dX5_poke_37 rfl (lv_at hl 3 rfl) ?_
        refine lv_sipush (v := 255) hx hb dX5_poke_38 (by decide) ?_
        refine lv_icmp_le (tgt := 54) hx hb dX5_poke_41 (by decide) (fun c_41 => ?_) (fun c_41 => ?_)
        · exact absurd (inR_t (lo := 1) (hi := 255) c_34 (by rw [Int32.lt_iff_toInt_lt]; rw [Int32.le_iff_toInt_le] at c_41; omega)) (by rw [hb9]; decide)
        · exact x_throw (E := eIOE) (text := "a mask is 1 to 255") (A := va_A [] s.heap.size) hx hb hst hown (by decide +kernel) htg hX own_IOE q_325 q_326 q_12 (by decide +kernel) va_S.rf (hl.1.trans hml.symm) dX5_poke_44 dX5_poke_47 dX5_poke_48 dX5_poke_50 dX5_poke_53 (fun x h9 => (hnoh x h9).elim) (Nat.le_of_ble_eq_true rfl) (Nat.le_of_ble_eq_true rfl) (Nat.le_of_ble_eq_true rfl) (Nat.le_of_ble_eq_true rfl) hlocks (fun q9 t9 ce9 _ z1 z2 z3 z4 z5 => ⟨⟨ce9, z3, z4, z5⟩, z1, fun z z6 _ => z2 z z6⟩) (fun _ h9 => by cases h9) (Nat.le_refl _) (Nat.le_refl _)
    · exact absurd c_19 (by omega)
set_option maxHeartbeats 4000000 in
set_option maxRecDepth 100000 in
theorem x_X5_poke_4 (l : Launch) (dC : Nat → ClassId) (dI : Nat → Nat → Nat) (a : Nat → Nat) (k : c_K) (u : c_St) (sz : Nat) (hst : l.stackTraces = false) (h : c_ok u) (n i mk9 : Nat) (hn : n < cu_N u 0) (hi : i < cu_F u 2 n) (hm1 : 1 ≤ mk9) (hm2 : mk9 ≤ 255) (ht : cu_B u 0 n = false) : XMet l yX5_poke wsX5_poke ({ frames := 7, cells := 1, slots := 6, locals := 103 }) (va_Pc [.ref (a 0), .int (nI n), .int (nI i), .int (nI mk9)] (w_px (dC, dI) vwCl (wC a k u) (tC k) sz)) (x_C eISE sz) 1 6 (va_A [] sz) := by
  have h20 := h.1
  have hn2 := h.2.2.1 n hn
  refine XMet.ofW (cc := cX5_poke) (maxL := 4) (ret := none) (by decide) rfl ?_
  intro p e s m args below meth c s₁ B hml hv
  obtain ⟨rfl, hsz, hP, hK, hX⟩ := hv
  have hx := B.exec
  have hb := B.bytes
  have hts := atoms_spec (ws := wsX5_poke) B.pre
  have htg : ∀ w ∈ wG, w.before _ s = true := fun w h => hts w (List.mem_cons_of_mem _ h)
  have hown : s.vm.findClass RX5 = some m.cls := findClass_of_methodNamed B.named
  have hlocks := B.notSynchronized
  have hnoh : ∀ x ∈ c.exceptionTable.toList, False := fun x hx9 => by
    have h9 := B.noHandlers (hts _ List.mem_cons_self)
    rw [Array.isEmpty_iff.mp h9] at hx9
    cases hx9
  subst hsz
  have hl := lv_entry ([.ref (a 0), .int (nI n), .int (nI i), .int (nI mk9)]) (n := 4) (Nat.le_of_ble_eq_true rfl)
  rw [lg_entry_eq]
  generalize (lg_sl ([.ref (a 0), .int (nI n), .int (nI i), .int (nI mk9)]) ++ List.replicate (4 - (lg_sl ([.ref (a 0), .int (nI n), .int (nI i), .int (nI mk9)])).length) Slot.unset).toArray = ls at hl ⊢
  have hl : lv_has ls 4 [(0, .ref (a 0)), (1, .int (nI n)), (2, .int (nI i)), (3, .int (nI mk9))] := hl
  refine lv_aload_n hx hb dX5_poke_0 rfl (lv_at hl 0 rfl) ?_
  refine lv_iload_n hx hb dX5_poke_1 rfl (lv_at hl 1 rfl) ?_
  refine va_csv (W.runV (As := [.int (nI n)]) (rest := []) ⟨hx, hb, hml, hown, hts⟩ (c_X5_checkSlot l dC dI a k u h20 n hn) (cwV 1 hts (wG_V wG_c q_434 q_436 p_5 q_1 q_437) rfl rfl rfl (by decide +kernel) ⟨Nat.le_of_ble_eq_true rfl, Nat.le_of_ble_eq_true rfl⟩) (w_roV hK hP (ci := 5) (q0 := 0) rfl (wC_g0 a k _) rfl) rfl rfl hl.1 rfl (lv_room (Nat.le_of_ble_eq_true rfl)) dX5_poke_2 ⟨Nat.le_of_ble_eq_true rfl, Nat.le_of_ble_eq_true rfl⟩) (fun _ => ?_)
  refine lv_iload_n hx hb dX5_poke_5 rfl (lv_at hl 2 rfl) ?_
  refine iz_lt (a := ((i : Nat) : Int)) (tgt := 22) hx hb (by omega) (by omega) (nI_iI _) dX5_poke_6 (by decide) (fun c_6 => ?_) (fun c_6 => ?_)
  · exact absurd c_6 (by omega)
  · refine lv_iload_n hx hb dX5_poke_9 rfl (lv_at hl 2 rfl) ?_
    refine lv_aload_n hx hb dX5_poke_10 rfl (lv_at hl 0 rfl) ?_
    refine va_get (D := (dC, dI)) (ci := 5) (v := .ref (a 1)) (C := RX5) (T := TX5) (N := 6) hx hb htg inX5 hown hK hP 0 (wC_g0 a k _) rfl 0 (by decide) (htg _ q_160) (fun _ h9 => h9) rfl dX5_poke_11 ?_
    refine va_get (D := (dC, dI)) (ci := 4) (v := .ref (a 9)) (C := RX4) (T := TX4) (N := 9) hx hb htg inX4 hown hK hP 1 (wC_g1 a k _) rfl 2 (by decide) (htg _ q_36) (fun _ h9 => h9) rfl dX5_poke_14 ?_
    refine lv_iload_n hx hb dX5_poke_17 rfl (lv_at hl 1 rfl) ?_
    refine va_iald hx hb hK hP 9 0 (wC_g9 a k _) rfl (vp_in_nI (n := n) (N := 200) (show n < 200 by omega) (by decide)) dX5_poke_18 ?_
    refine wtopi (nI (cu_F u 2 n)) (congrArg (fun j9 => nI (cu_F u 2 j9)) (nI_clamp (n := n) (Nat.lt_trans (m := 200) (show n < 200 by omega) (by decide)))) ?_
    refine nb_lt (a := i) (b := (cu_F u 2 n)) (tgt := 32) hx hb (by omega) (by omega) rfl rfl dX5_poke_19 (by decide) (fun c_19 => ?_) (fun c_19 => ?_)
    · refine lv_iload_n hx hb dX5_poke_32 rfl (lv_at hl 3 rfl) ?_
      refine lv_iconst (v := 1) hx hb dX5_poke_33 (by decide) ?_
      refine nb_lt (a := mk9) (b := 1) (tgt := 44) hx hb (by omega) (by omega) rfl rfl dX5_poke_34 (by decide) (fun c_34 => ?_) (fun c_34 => ?_)
      · exact absurd c_34 (by omega)
      · refine lv_iload_n hx hb dX5_poke_37 rfl (lv_at hl 3 rfl) ?_
        refine lv_sipush (v := 255) hx hb dX5_poke_38 (by decide) ?_
        refine nb_le (a := mk9) (b := 255) (tgt := 54) hx hb (by omega) (by omega) rfl rfl dX5_poke_41 (by decide) (fun c_41 => ?_) (fun c_41 => ?_)
        · refine lv_aload_n hx hb dX5_poke_54 rfl (lv_at hl 0 rfl) ?_
          refine lv_iload_n hx hb dX5_poke_55 rfl (lv_at hl 1 rfl) ?_
          refine XW.callV (As := [.int (nI n)]) (rest := []) ⟨hx, hb, hml, hown, hts⟩ (x_X5_checkThere l dC dI a k u _ hst n (by omega) ht) (cwV 1 hts (wG_V wG_c q_439 q_441 p_6 q_1 q_442) rfl rfl rfl (by decide +kernel) ⟨Nat.le_of_ble_eq_true rfl, Nat.le_of_ble_eq_true rfl⟩) (w_pxV hK hP hX (ci := 5) (q0 := 0) rfl (wC_g0 a k _) rfl) rfl hl.1 rfl (Nat.le_of_ble_eq_true rfl) dX5_poke_56 ⟨Nat.le_of_ble_eq_true rfl, Nat.le_of_ble_eq_true rfl⟩ (fun q9 st9 t9 H9 L9 h0 hfc ht9 _ hxc hL9 => ?_)
          exact x_on (fun x h9 => (hnoh x h9).elim) hlocks h0 hfc ht9 hxc hL9 (Nat.le_refl _) (Nat.le_refl _)
        · exact absurd c_41 (by omega)
    · exact absurd c_19 (by omega)
set_option maxHeartbeats 4000000 in
set_option maxRecDepth 100000 in
theorem c_X5_slot (l : Launch) (dC : Nat → ClassId) (dI : Nat → Nat → Nat) (a : Nat → Nat) (k : c_K) (u : c_St) (sz : Nat) (h : c_ok u) (hN : cu_N u 0 < 200) (hp : cu_N u 2 ≤ cu_N u 0) (ho : ∀ j, j < cu_N u 2 → cu_F u 6 j < cu_N u 0) (sc tm n : Nat) (bt : Int64) (un ic : Nat) (h1 : sc ≤ 9) (h2 : tm ≤ 9999999) (h3 : 1 ≤ n) (h4 : n ≤ 8) (h5 : un ≤ 99) (h6 : ic ≤ 49) : Met l yX5_slot wsX5_slot ({ frames := 5, cells := 0, slots := 0, locals := 111 }) (va_Pc [.ref (a 0), .int (nI sc), .int (nI tm), .int (nI n), .long bt, .int (nI un), .int (nI ic)] (w_mu (dC, dI) vwCl (wC a k u) (tC k) sz)) (va_Qi (fun (r : Int32) (u1 : c_St) => r = nI (cu_N u 0) ∧ ∃ t : Nat, t ≤ cu_N u 2 ∧ u1 = cs_N (cs_F (c_shift (cs_F (c_add u sc tm n bt un ic) 6 (cu_N u 2) (cu_N u 0)) t (cu_N u 2)) 6 t (cu_N u 0)) 2 (cu_N u 2 + 1) ∧ (t = 0 ∨ c_lt (c_add u sc tm n bt un ic) (cu_N u 0) (cu_F u 6 (t - 1)) = false) ∧ ∀ j, t ≤ j → j < cu_N u 2 → c_lt (c_add u sc tm n bt un ic) (cu_N u 0) (cu_F u 6 j) = true) (w_at (dC, dI) vwCl (wC a k) (tC k) (va_A (wC a k u) sz)) (va_A (wC a k u) sz)) 0 0 (va_A (wC a k u) sz) := by
  refine Met.ofW (cc := cX5_slot) (maxL := 9) (ret := (some .int)) (by decide) rfl ?_
  intro p e s m args below meth c s₁ B hml hv
  obtain ⟨rfl, hsz, hP, hK, hD0⟩ := hv
  have hx := B.exec
  have hb := B.bytes
  have hr := B.returns
  have hts := atoms_spec (ws := wsX5_slot) B.pre
  have htg : ∀ w ∈ wG, w.before _ s = true := fun w h => hts w (List.mem_cons_of_mem _ h)
  have hown : s.vm.findClass RX5 = some m.cls := findClass_of_methodNamed B.named
  have hlocks := B.notSynchronized
  subst hsz
  have hD := hD0.self (sz := s.heap.size)
  generalize hAe : va_A (wC a k u) s.heap.size = A at hD ⊢
  have hA : ∀ q : Nat, s.heap.size ≤ q → A q := fun q h => by rw [← hAe]; exact Or.inr h
  have hS : va_S A s.heap s.heap [] := va_S.rf
  have hl := lv_entry ([.ref (a 0), .int (nI sc), .int (nI tm), .int (nI n), .long bt, .int (nI un), .int (nI ic)]) (n := 9) (Nat.le_of_ble_eq_true rfl)
  rw [lg_entry_eq]
  generalize (lg_sl ([.ref (a 0), .int (nI sc), .int (nI tm), .int (nI n), .long bt, .int (nI un), .int (nI ic)]) ++ List.replicate (9 - (lg_sl ([.ref (a 0), .int (nI sc), .int (nI tm), .int (nI n), .long bt, .int (nI un), .int (nI ic)])).length) Slot.unset).toArray = ls at hl ⊢
  have hl : lv_has ls 9 [(0, .ref (a 0)), (1, .int (nI sc)), (2, .int (nI tm)), (3, .int (nI n)), (4, .long bt), (6, .int (nI un)), (7, .int (nI ic))] := hl
  refine lv_iload_n hx hb dX5_slot_0 rfl (lv_at hl 1 rfl) ?_
  refine va_csv (W.runS (As := [.int (nI sc)]) (rest := []) ⟨hx, hb, hml, hown, hts⟩ (c_X5_checkSource l dC dI a k u sc h1) (cwS 1 hts (wG_S wG_c q_241 q_242 q_1 q_243) rfl rfl rfl (by decide +kernel) ⟨Nat.le_of_ble_eq_true rfl, Nat.le_of_ble_eq_true rfl⟩) (w_roS hK hP) rfl rfl hl.1 rfl (lv_room (Nat.le_of_ble_eq_true rfl)) dX5_slot_1 ⟨Nat.le_of_ble_eq_true rfl, Nat.le_of_ble_eq_true rfl⟩) (fun _ => ?_)
  refine lv_iload hx hb dX5_slot_4 (lv_at hl 5 rfl) ?_
  refine va_csv (W.runS (As := [.int (nI un)]) (rest := []) ⟨hx, hb, hml, hown, hts⟩ (c_X5_checkUnit l dC dI a k u un h5) (cwS 1 hts (wG_S wG_c q_313 q_314 q_1 q_315) rfl rfl rfl (by decide +kernel) ⟨Nat.le_of_ble_eq_true rfl, Nat.le_of_ble_eq_true rfl⟩) (w_roS hK hP) rfl rfl hl.1 rfl (lv_room (Nat.le_of_ble_eq_true rfl)) dX5_slot_6 ⟨Nat.le_of_ble_eq_true rfl, Nat.le_of_ble_eq_true rfl⟩) (fun _ => ?_)
  refine lv_iload hx hb dX5_slot_9 (lv_at hl 6 rfl) ?_
  refine va_csv (W.runS (As := [.int (nI ic)]) (rest := []) ⟨hx, hb, hml, hown, hts⟩ (c_X5_checkIncident l dC dI a k u ic h6) (cwS 1 hts (wG_S wG_c q_317 q_318 q_1 q_319) rfl rfl rfl (by decide +kernel) ⟨Nat.le_of_ble_eq_true rfl, Nat.le_of_ble_eq_true rfl⟩) (w_roS hK hP) rfl rfl hl.1 rfl (lv_room (Nat.le_of_ble_eq_true rfl)) dX5_slot_11 ⟨Nat.le_of_ble_eq_true rfl, Nat.le_of_ble_eq_true rfl⟩) (fun _ => ?_)
  refine lv_iload_n hx hb dX5_slot_14 rfl (lv_at hl 2 rfl) ?_
  refine va_csv (W.runS (As := [.int (nI tm)]) (rest := []) ⟨hx, hb, hml, hown, hts⟩ (c_X5_checkTime l dC dI a k u tm h2) (cwS 1 hts (wG_S wG_c q_321 q_322 q_1 q_323) rfl rfl rfl (by decide +kernel) ⟨Nat.le_of_ble_eq_true rfl, Nat.le_of_ble_eq_true rfl⟩) (w_roS hK hP) rfl rfl hl.1 rfl (lv_room (Nat.le_of_ble_eq_true rfl)) dX5_slot_15 ⟨Nat.le_of_ble_eq_true rfl, Nat.le_of_ble_eq_true rfl⟩) (fun _ => ?_)
  refine lv_iload_n hx hb dX5_slot_18 rfl (lv_at hl 3 rfl) ?_
  refine lv_iconst (v := 1) hx hb dX5_slot_19 (by decide) ?_
  refine nb_lt (a := n) (b := 1) (tgt := 29) hx hb (by omega) (by omega) rfl rfl dX5_slot_20 (by decide) (fun c_20 => ?_) (fun c_20 => ?_)
  · exact absurd c_20 (by omega)
  · refine lv_iload_n hx hb dX5_slot_23 rfl (lv_at hl 3 rfl) ?_
    refine lv_bipush (v := 8) hx hb dX5_slot_24 (by decide) ?_
    refine nb_le (a := n) (b := 8) (tgt := 39) hx hb (by omega) (by omega) rfl rfl dX5_slot_26 (by decide) (fun c_26 => ?_) (fun c_26 => ?_)
    · refine lv_aload_n hx hb dX5_slot_39 rfl (lv_at hl 0 rfl) ?_
      refine va_get (D := (dC, dI)) (ci := 5) (v := .ref (a 1)) (C := RX5) (T := TX5) (N := 6) hx hb htg inX5 hown hK hP 0 (wC_g0 a k _) rfl 0 (by decide) (htg _ q_160) (fun _ h9 => h9) rfl dX5_slot_40 ?_
      refine va_get (D := (dC, dI)) (ci := 4) (v := .int (nI (cu_N u 0))) (C := RX4) (T := TX4) (N := 9) hx hb htg inX4 hown hK hP 1 (wC_g1 a k _) rfl 8 (by decide) (htg _ q_46) (fun _ h9 => h9) rfl dX5_slot_43 ?_
      refine lv_sipush (v := 200) hx hb dX5_slot_46 (by decide) ?_
      refine nb_lt (a := (cu_N u 0)) (b := 200) (tgt := 62) hx hb (by omega) (by omega) rfl rfl dX5_slot_49 (by decide) (fun c_49 => ?_) (fun c_49 => ?_)
      · refine lv_aload_n hx hb dX5_slot_62 rfl (lv_at hl 0 rfl) ?_
        refine va_get (D := (dC, dI)) (ci := 5) (v := .ref (a 1)) (C := RX5) (T := TX5) (N := 6) hx hb htg inX5 hown hK hP 0 (wC_g0 a k _) rfl 0 (by decide) (htg _ q_160) (fun _ h9 => h9) rfl dX5_slot_63 ?_
        refine lv_iload_n hx hb dX5_slot_66 rfl (lv_at hl 1 rfl) ?_
        refine lv_iload_n hx hb dX5_slot_67 rfl (lv_at hl 2 rfl) ?_
        refine lv_iload_n hx hb dX5_slot_68 rfl (lv_at hl 3 rfl) ?_
        refine lv_lload hx hb dX5_slot_69 (lv_at hl 4 rfl) ?_
        refine lv_iload hx hb dX5_slot_71 (lv_at hl 5 rfl) ?_
        refine lv_iload hx hb dX5_slot_73 (lv_at hl 6 rfl) ?_
        refine w_cali (w := wC a k) (va_runV (As := [.int (nI sc), .int (nI tm), .int (nI n), .long bt, .int (nI un), .int (nI ic)]) (rest := []) ⟨hx, hb, hml, hown, hts⟩ (c_X4_add l dC dI a k u _ sc tm n bt un ic hN h4) (cwV 6 hts (wG_V wG_c q_358 q_359 q_360 q_2 q_361) rfl rfl rfl (by decide +kernel) ⟨Nat.le_of_ble_eq_true rfl, Nat.le_of_ble_eq_true rfl⟩) (w_muV hK hP hD (ci := 4) (q0 := 1) rfl (wC_g1 a k _) rfl) rfl rfl hl.1 rfl (lv_room (Nat.le_of_ble_eq_true rfl)) dX5_slot_75 ⟨Nat.le_of_ble_eq_true rfl, Nat.le_of_ble_eq_true rfl⟩) hD hS hA (fun r_1 u_1 H locs hq_1 hP hD hS => ?_)
        obtain ⟨er9, eu9⟩ := hq_1
        subst er9 eu9
        refine lv_istore (lv' := [(8, .int (nI (cu_N u 0))), (0, .ref (a 0)), (1, .int (nI sc)), (2, .int (nI tm)), (3, .int (nI n)), (4, .long bt), (6, .int (nI un)), (7, .int (nI ic))]) hx hb dX5_slot_78 hl (by decide) rfl (fun ls hl => ?_)
        refine lv_aload_n hx hb dX5_slot_80 rfl (lv_at hl 1 rfl) ?_
        refine va_get (D := (dC, dI)) (ci := 5) (v := .ref (a 3)) (C := RX5) (T := TX5) (N := 6) hx hb htg inX5 hown hK hP 0 (wC_g0 a k _) rfl 2 (by decide) (htg _ q_162) (fun _ h9 => h9) rfl dX5_slot_81 ?_
        refine lv_iload hx hb dX5_slot_84 (lv_at hl 0 rfl) ?_
        refine w_calv (w := wC a k) (va_runV (As := [.int (nI (cu_N u 0))]) (rest := []) ⟨hx, hb, hml, hown, hts⟩ (c_X1_insert l dC dI a k (c_add u sc tm n bt un ic) _ (c_ok_add h hN h1 h2 h3 h4 h5 h6) (cu_N u 0) (Nat.lt_succ_self _) (show cu_N u 2 < 200 by omega) (fun j hj => Nat.lt_succ_of_lt (ho j hj))) (cwV 1 hts (wG_V wG_c q_363 q_364 q_365 q_4 q_366) rfl rfl rfl (by decide +kernel) ⟨Nat.le_of_ble_eq_true rfl, Nat.le_of_ble_eq_true rfl⟩) (w_muV hK hP hD (ci := 1) (q0 := 3) rfl (wC_g3 a k _) rfl) rfl rfl hl.1 rfl (lv_room (Nat.le_of_ble_eq_true rfl)) dX5_slot_86 ⟨Nat.le_of_ble_eq_true rfl, Nat.le_of_ble_eq_true rfl⟩) hD hS hA (fun u_2 H locs hq_2 hP hD hS => ?_)
        obtain ⟨t, ht, eu9, ha9, hb8⟩ := hq_2
        subst eu9
        refine lv_iload hx hb dX5_slot_89 (lv_at hl 0 rfl) ?_
        exact W.iret (v := nI (cu_N u 0)) hx hb hr (fun t9 ht9 hW9 => ⟨⟨_, cs_N (cs_F (c_shift (cs_F (c_add u sc tm n bt un ic) 6 (cu_N u 2) (cu_N u 0)) t (cu_N u 2)) 6 t (cu_N u 0)) 2 (cu_N u 2 + 1), rfl, ⟨rfl, t, ht, rfl, ha9, hb8⟩, by rw [ht9]; exact hP, va_K.moved hW9.alike hK, hD⟩, hS.F ht9⟩) hS.2.2 dX5_slot_91
      · exact absurd c_49 (by omega)
    · exact absurd c_26 (by omega)
set_option maxHeartbeats 4000000 in
set_option maxRecDepth 100000 in
theorem x_X5_slot_1 (l : Launch) (dC : Nat → ClassId) (dI : Nat → Nat → Nat) (a : Nat → Nat) (k : c_K) (u : c_St) (sz : Nat) (hst : l.stackTraces = false) (p0 p1 p2 : Int32) (bt : Int64) (p4 p5 : Int32) (hb9 : inR p0 0 9 = false) : XMet l yX5_slot wsX5_slot ({ frames := 7, cells := 1, slots := 6, locals := 102 }) (va_Pc [.ref (a 0), .int p0, .int p1, .int p2, .long bt, .int p4, .int p5] (w_px (dC, dI) vwCl (wC a k u) (tC k) sz)) (x_C eIAE sz) 1 6 (va_A [] sz) := by
  refine XMet.ofW (cc := cX5_slot) (maxL := 9) (ret := (some .int)) (by decide) rfl ?_
  intro p e s m args below meth c s₁ B hml hv
  obtain ⟨rfl, hsz, hP, hK, hX⟩ := hv
  have hx := B.exec
  have hb := B.bytes
  have hts := atoms_spec (ws := wsX5_slot) B.pre
  have htg : ∀ w ∈ wG, w.before _ s = true := fun w h => hts w (List.mem_cons_of_mem _ h)
  have hown : s.vm.findClass RX5 = some m.cls := findClass_of_methodNamed B.named
  have hlocks := B.notSynchronized
  have hnoh : ∀ x ∈ c.exceptionTable.toList, False := fun x hx9 => by
    have h9 := B.noHandlers (hts _ List.mem_cons_self)
    rw [Array.isEmpty_iff.mp h9] at hx9
    cases hx9
  subst hsz
  have hl := lv_entry ([.ref (a 0), .int p0, .int p1, .int p2, .long bt, .int p4, .int p5]) (n := 9) (Nat.le_of_ble_eq_true rfl)
  rw [lg_entry_eq]
  generalize (lg_sl ([.ref (a 0), .int p0, .int p1, .int p2, .long bt, .int p4, .int p5]) ++ List.replicate (9 - (lg_sl ([.ref (a 0), .int p0, .int p1, .int p2, .long bt, .int p4, .int p5])).length) Slot.unset).toArray = ls at hl ⊢
  have hl : lv_has ls 9 [(0, .ref (a 0)), (1, .int p0), (2, .int p1), (3, .int p2), (4, .long bt), (6, .int p4), (7, .int p5)] := hl
  refine lv_iload_n hx hb dX5_slot_0 rfl (lv_at hl 1 rfl) ?_
  refine XW.callS (As := [.int p0]) (rest := []) ⟨hx, hb, hml, hown, hts⟩ (x_X5_checkSource l dC dI a k u _ hst p0 hb9) (cwS 1 hts (wG_S wG_c q_241 q_242 q_1 q_243) rfl rfl rfl (by decide +kernel) ⟨Nat.le_of_ble_eq_true rfl, Nat.le_of_ble_eq_true rfl⟩) (w_pxS hK hP hX) rfl hl.1 rfl (Nat.le_of_ble_eq_true rfl) dX5_slot_1 ⟨Nat.le_of_ble_eq_true rfl, Nat.le_of_ble_eq_true rfl⟩ (fun q9 st9 t9 H9 L9 h0 hfc ht9 _ hxc hL9 => ?_)
  exact x_on (fun x h9 => (hnoh x h9).elim) hlocks h0 hfc ht9 hxc hL9 (Nat.le_refl _) (Nat.le_refl _)
set_option maxHeartbeats 4000000 in
set_option maxRecDepth 100000 in
theorem x_X5_slot_2 (l : Launch) (dC : Nat → ClassId) (dI : Nat → Nat → Nat) (a : Nat → Nat) (k : c_K) (u : c_St) (sz : Nat) (hst : l.stackTraces = false) (sc : Nat) (h1 : sc ≤ 9) (p1 p2 : Int32) (bt : Int64) (p4 p5 : Int32) (hb9 : inR p4 0 99 = false) : XMet l yX5_slot wsX5_slot ({ frames := 7, cells := 1, slots := 6, locals := 102 }) (va_Pc [.ref (a 0), .int (nI sc), .int p1, .int p2, .long bt, .int p4, .int p5] (w_px (dC, dI) vwCl (wC a k u) (tC k) sz)) (x_C eIAE sz) 1 6 (va_A [] sz) := by
  refine XMet.ofW (cc := cX5_slot) (maxL := 9) (ret := (some .int)) (by decide) rfl ?_
  intro p e s m args below meth c s₁ B hml hv
  obtain ⟨rfl, hsz, hP, hK, hX⟩ := hv
  have hx := B.exec
  have hb := B.bytes
  have hts := atoms_spec (ws := wsX5_slot) B.pre
  have htg : ∀ w ∈ wG, w.before _ s = true := fun w h => hts w (List.mem_cons_of_mem _ h)
  have hown : s.vm.findClass RX5 = some m.cls := findClass_of_methodNamed B.named
  have hlocks := B.notSynchronized
  have hnoh : ∀ x ∈ c.exceptionTable.toList, False := fun x hx9 => by
    have h9 := B.noHandlers (hts _ List.mem_cons_self)
    rw [Array.isEmpty_iff.mp h9] at hx9
    cases hx9
  subst hsz
  have hl := lv_entry ([.ref (a 0), .int (nI sc), .int p1, .int p2, .long bt, .int p4, .int p5]) (n := 9) (Nat.le_of_ble_eq_true rfl)
  rw [lg_entry_eq]
  generalize (lg_sl ([.ref (a 0), .int (nI sc), .int p1, .int p2, .long bt, .int p4, .int p5]) ++ List.replicate (9 - (lg_sl ([.ref (a 0), .int (nI sc), .int p1, .int p2, .long bt, .int p4, .int p5])).length) Slot.unset).toArray = ls at hl ⊢
  have hl : lv_has ls 9 [(0, .ref (a 0)), (1, .int (nI sc)), (2, .int p1), (3, .int p2), (4, .long bt), (6, .int p4), (7, .int p5)] := hl
  refine lv_iload_n hx hb dX5_slot_0 rfl (lv_at hl 1 rfl) ?_
  refine va_csv (W.runS (As := [.int (nI sc)]) (rest := []) ⟨hx, hb, hml, hown, hts⟩ (c_X5_checkSource l dC dI a k u sc h1) (cwS 1 hts (wG_S wG_c q_241 q_242 q_1 q_243) rfl rfl rfl (by decide +kernel) ⟨Nat.le_of_ble_eq_true rfl, Nat.le_of_ble_eq_true rfl⟩) (w_roS hK hP) rfl rfl hl.1 rfl (lv_room (Nat.le_of_ble_eq_true rfl)) dX5_slot_1 ⟨Nat.le_of_ble_eq_true rfl, Nat.le_of_ble_eq_true rfl⟩) (fun _ => ?_)
  refine lv_iload hx hb dX5_slot_4 (lv_at hl 5 rfl) ?_
  refine XW.callS (As := [.int p4]) (rest := []) ⟨hx, hb, hml, hown, hts⟩ (x_X5_checkUnit l dC dI a k u _ hst p4 hb9) (cwS 1 hts (wG_S wG_c q_313 q_314 q_1 q_315) rfl rfl rfl (by decide +kernel) ⟨Nat.le_of_ble_eq_true rfl, Nat.le_of_ble_eq_true rfl⟩) (w_pxS hK hP hX) rfl hl.1 rfl (Nat.le_of_ble_eq_true rfl) dX5_slot_6 ⟨Nat.le_of_ble_eq_true rfl, Nat.le_of_ble_eq_true rfl⟩ (fun q9 st9 t9 H9 L9 h0 hfc ht9 _ hxc hL9 => ?_)
  exact x_on (fun x h9 => (hnoh x h9).elim) hlocks h0 hfc ht9 hxc hL9 (Nat.le_refl _) (Nat.le_refl _)
set_option maxHeartbeats 4000000 in
set_option maxRecDepth 100000 in
theorem x_X5_slot_3 (l : Launch) (dC : Nat → ClassId) (dI : Nat → Nat → Nat) (a : Nat → Nat) (k : c_K) (u : c_St) (sz : Nat) (hst : l.stackTraces = false) (sc un : Nat) (h1 : sc ≤ 9) (h5 : un ≤ 99) (p1 p2 : Int32) (bt : Int64) (p5 : Int32) (hb9 : inR p5 0 49 = false) : XMet l yX5_slot wsX5_slot ({ frames := 7, cells := 1, slots := 6, locals := 102 }) (va_Pc [.ref (a 0), .int (nI sc), .int p1, .int p2, .long bt, .int (nI un), .int p5] (w_px (dC, dI) vwCl (wC a k u) (tC k) sz)) (x_C eIAE sz) 1 6 (va_A [] sz) := by
  refine XMet.ofW (cc := cX5_slot) (maxL := 9) (ret := (some .int)) (by decide) rfl ?_
  intro p e s m args below meth c s₁ B hml hv
  obtain ⟨rfl, hsz, hP, hK, hX⟩ := hv
  have hx := B.exec
  have hb := B.bytes
  have hts := atoms_spec (ws := wsX5_slot) B.pre
  have htg : ∀ w ∈ wG, w.before _ s = true := fun w h => hts w (List.mem_cons_of_mem _ h)
  have hown : s.vm.findClass RX5 = some m.cls := findClass_of_methodNamed B.named
  have hlocks := B.notSynchronized
  have hnoh : ∀ x ∈ c.exceptionTable.toList, False := fun x hx9 => by
    have h9 := B.noHandlers (hts _ List.mem_cons_self)
    rw [Array.isEmpty_iff.mp h9] at hx9
    cases hx9
  subst hsz
  have hl := lv_entry ([.ref (a 0), .int (nI sc), .int p1, .int p2, .long bt, .int (nI un), .int p5]) (n := 9) (Nat.le_of_ble_eq_true rfl)
  rw [lg_entry_eq]
  generalize (lg_sl ([.ref (a 0), .int (nI sc), .int p1, .int p2, .long bt, .int (nI un), .int p5]) ++ List.replicate (9 - (lg_sl ([.ref (a 0), .int (nI sc), .int p1, .int p2, .long bt, .int (nI un), .int p5])).length) Slot.unset).toArray = ls at hl ⊢
  have hl : lv_has ls 9 [(0, .ref (a 0)), (1, .int (nI sc)), (2, .int p1), (3, .int p2), (4, .long bt), (6, .int (nI un)), (7, .int p5)] := hl
  refine lv_iload_n hx hb dX5_slot_0 rfl (lv_at hl 1 rfl) ?_
  refine va_csv (W.runS (As := [.int (nI sc)]) (rest := []) ⟨hx, hb, hml, hown, hts⟩ (c_X5_checkSource l dC dI a k u sc h1) (cwS 1 hts (wG_S wG_c q_241 q_242 q_1 q_243) rfl rfl rfl (by decide +kernel) ⟨Nat.le_of_ble_eq_true rfl, Nat.le_of_ble_eq_true rfl⟩) (w_roS hK hP) rfl rfl hl.1 rfl (lv_room (Nat.le_of_ble_eq_true rfl)) dX5_slot_1 ⟨Nat.le_of_ble_eq_true rfl, Nat.le_of_ble_eq_true rfl⟩) (fun _ => ?_)
  refine lv_iload hx hb dX5_slot_4 (lv_at hl 5 rfl) ?_
  refine va_csv (W.runS (As := [.int (nI un)]) (rest := []) ⟨hx, hb, hml, hown, hts⟩ (c_X5_checkUnit l dC dI a k u un h5) (cwS 1 hts (wG_S wG_c q_313 q_314 q_1 q_315) rfl rfl rfl (by decide +kernel) ⟨Nat.le_of_ble_eq_true rfl, Nat.le_of_ble_eq_true rfl⟩) (w_roS hK hP) rfl rfl hl.1 rfl (lv_room (Nat.le_of_ble_eq_true rfl)) dX5_slot_6 ⟨Nat.le_of_ble_eq_true rfl, Nat.le_of_ble_eq_true rfl⟩) (fun _ => ?_)
  refine lv_iload hx hb dX5_slot_9 (lv_at hl 6 rfl) ?_
  refine XW.callS (As := [.int p5]) (rest := []) ⟨hx, hb, hml, hown, hts⟩ (x_X5_checkIncident l dC dI a k u _ hst p5 hb9) (cwS 1 hts (wG_S wG_c q_317 q_318 q_1 q_319) rfl rfl rfl (by decide +kernel) ⟨Nat.le_of_ble_eq_true rfl, Nat.le_of_ble_eq_true rfl⟩) (w_pxS hK hP hX) rfl hl.1 rfl (Nat.le_of_ble_eq_true rfl) dX5_slot_11 ⟨Nat.le_of_ble_eq_true rfl, Nat.le_of_ble_eq_true rfl⟩ (fun q9 st9 t9 H9 L9 h0 hfc ht9 _ hxc hL9 => ?_)
  exact x_on (fun x h9 => (hnoh x h9).elim) hlocks h0 hfc ht9 hxc hL9 (Nat.le_refl _) (Nat.le_refl _)
set_option maxHeartbeats 4000000 in
set_option maxRecDepth 100000 in
theorem x_X5_slot_4 (l : Launch) (dC : Nat → ClassId) (dI : Nat → Nat → Nat) (a : Nat → Nat) (k : c_K) (u : c_St) (sz : Nat) (hst : l.stackTraces = false) (sc un ic : Nat) (h1 : sc ≤ 9) (h5 : un ≤ 99) (h6 : ic ≤ 49) (p1 p2 : Int32) (bt : Int64) (hb9 : inR p1 0 9999999 = false) : XMet l yX5_slot wsX5_slot ({ frames := 7, cells := 1, slots := 6, locals := 102 }) (va_Pc [.ref (a 0), .int (nI sc), .int p1, .int p2, .long bt, .int (nI un), .int (nI ic)] (w_px (dC, dI) vwCl (wC a k u) (tC k) sz)) (x_C eIOE sz) 1 6 (va_A [] sz) := by
  refine XMet.ofW (cc := cX5_slot) (maxL := 9) (ret := (some .int)) (by decide) rfl ?_
  intro p e s m args below meth c s₁ B hml hv
  obtain ⟨rfl, hsz, hP, hK, hX⟩ := hv
  have hx := B.exec
  have hb := B.bytes
  have hts := atoms_spec (ws := wsX5_slot) B.pre
  have htg : ∀ w ∈ wG, w.before _ s = true := fun w h => hts w (List.mem_cons_of_mem _ h)
  have hown : s.vm.findClass RX5 = some m.cls := findClass_of_methodNamed B.named
  have hlocks := B.notSynchronized
  have hnoh : ∀ x ∈ c.exceptionTable.toList, False := fun x hx9 => by
    have h9 := B.noHandlers (hts _ List.mem_cons_self)
    rw [Array.isEmpty_iff.mp h9] at hx9
    cases hx9
  subst hsz
  have hl := lv_entry ([.ref (a 0), .int (nI sc), .int p1, .int p2, .long bt, .int (nI un), .int (nI ic)]) (n := 9) (Nat.le_of_ble_eq_true rfl)
  rw [lg_entry_eq]
  generalize (lg_sl ([.ref (a 0), .int (nI sc), .int p1, .int p2, .long bt, .int (nI un), .int (nI ic)]) ++ List.replicate (9 - (lg_sl ([.ref (a 0), .int (nI sc), .int p1, .int p2, .long bt, .int (nI un), .int (nI ic)])).length) Slot.unset).toArray = ls at hl ⊢
  have hl : lv_has ls 9 [(0, .ref (a 0)), (1, .int (nI sc)), (2, .int p1), (3, .int p2), (4, .long bt), (6, .int (nI un)), (7, .int (nI ic))] := hl
  refine lv_iload_n hx hb dX5_slot_0 rfl (lv_at hl 1 rfl) ?_
  refine va_csv (W.runS (As := [.int (nI sc)]) (rest := []) ⟨hx, hb, hml, hown, hts⟩ (c_X5_checkSource l dC dI a k u sc h1) (cwS 1 hts (wG_S wG_c q_241 q_242 q_1 q_243) rfl rfl rfl (by decide +kernel) ⟨Nat.le_of_ble_eq_true rfl, Nat.le_of_ble_eq_true rfl⟩) (w_roS hK hP) rfl rfl hl.1 rfl (lv_room (Nat.le_of_ble_eq_true rfl)) dX5_slot_1 ⟨Nat.le_of_ble_eq_true rfl, Nat.le_of_ble_eq_true rfl⟩) (fun _ => ?_)
  refine lv_iload hx hb dX5_slot_4 (lv_at hl 5 rfl) ?_
  refine va_csv (W.runS (As := [.int (nI un)]) (rest := []) ⟨hx, hb, hml, hown, hts⟩ (c_X5_checkUnit l dC dI a k u un h5) (cwS 1 hts (wG_S wG_c q_313 q_314 q_1 q_315) rfl rfl rfl (by decide +kernel) ⟨Nat.le_of_ble_eq_true rfl, Nat.le_of_ble_eq_true rfl⟩) (w_roS hK hP) rfl rfl hl.1 rfl (lv_room (Nat.le_of_ble_eq_true rfl)) dX5_slot_6 ⟨Nat.le_of_ble_eq_true rfl, Nat.le_of_ble_eq_true rfl⟩) (fun _ => ?_)
  refine lv_iload hx hb dX5_slot_9 (lv_at hl 6 rfl) ?_
  refine va_csv (W.runS (As := [.int (nI ic)]) (rest := []) ⟨hx, hb, hml, hown, hts⟩ (c_X5_checkIncident l dC dI a k u ic h6) (cwS 1 hts (wG_S wG_c q_317 q_318 q_1 q_319) rfl rfl rfl (by decide +kernel) ⟨Nat.le_of_ble_eq_true rfl, Nat.le_of_ble_eq_true rfl⟩) (w_roS hK hP) rfl rfl hl.1 rfl (lv_room (Nat.le_of_ble_eq_true rfl)) dX5_slot_11 ⟨Nat.le_of_ble_eq_true rfl, Nat.le_of_ble_eq_true rfl⟩) (fun _ => ?_)
  refine lv_iload_n hx hb dX5_slot_14 rfl (lv_at hl 2 rfl) ?_
  refine XW.callS (As := [.int p1]) (rest := []) ⟨hx, hb, hml, hown, hts⟩ (x_X5_checkTime l dC dI a k u _ hst p1 hb9) (cwS 1 hts (wG_S wG_c q_321 q_322 q_1 q_323) rfl rfl rfl (by decide +kernel) ⟨Nat.le_of_ble_eq_true rfl, Nat.le_of_ble_eq_true rfl⟩) (w_pxS hK hP hX) rfl hl.1 rfl (Nat.le_of_ble_eq_true rfl) dX5_slot_15 ⟨Nat.le_of_ble_eq_true rfl, Nat.le_of_ble_eq_true rfl⟩ (fun q9 st9 t9 H9 L9 h0 hfc ht9 _ hxc hL9 => ?_)
  exact x_on (fun x h9 => (hnoh x h9).elim) hlocks h0 hfc ht9 hxc hL9 (Nat.le_refl _) (Nat.le_refl _)
set_option maxHeartbeats 4000000 in
set_option maxRecDepth 100000 in
theorem x_X5_slot_5 (l : Launch) (dC : Nat → ClassId) (dI : Nat → Nat → Nat) (a : Nat → Nat) (k : c_K) (u : c_St) (sz : Nat) (hst : l.stackTraces = false) (sc tm un ic : Nat) (h1 : sc ≤ 9) (h2 : tm ≤ 9999999) (h5 : un ≤ 99) (h6 : ic ≤ 49) (p2 : Int32) (bt : Int64) (hb9 : inR p2 1 8 = false) : XMet l yX5_slot wsX5_slot ({ frames := 6, cells := 1, slots := 6, locals := 82 }) (va_Pc [.ref (a 0), .int (nI sc), .int (nI tm), .int p2, .long bt, .int (nI un), .int (nI ic)] (w_px (dC, dI) vwCl (wC a k u) (tC k) sz)) (x_C eIOE sz) 1 6 (va_A [] sz) := by
  refine XMet.ofW (cc := cX5_slot) (maxL := 9) (ret := (some .int)) (by decide) rfl ?_
  intro p e s m args below meth c s₁ B hml hv
  obtain ⟨rfl, hsz, hP, hK, hX⟩ := hv
  have hx := B.exec
  have hb := B.bytes
  have hts := atoms_spec (ws := wsX5_slot) B.pre
  have htg : ∀ w ∈ wG, w.before _ s = true := fun w h => hts w (List.mem_cons_of_mem _ h)
  have hown : s.vm.findClass RX5 = some m.cls := findClass_of_methodNamed B.named
  have hlocks := B.notSynchronized
  have hnoh : ∀ x ∈ c.exceptionTable.toList, False := fun x hx9 => by
    have h9 := B.noHandlers (hts _ List.mem_cons_self)
    rw [Array.isEmpty_iff.mp h9] at hx9
    cases hx9
  subst hsz
  have hl := lv_entry ([.ref (a 0), .int (nI sc), .int (nI tm), .int p2, .long bt, .int (nI un), .int (nI ic)]) (n := 9) (Nat.le_of_ble_eq_true rfl)
  rw [lg_entry_eq]
  generalize (lg_sl ([.ref (a 0), .int (nI sc), .int (nI tm), .int p2, .long bt, .int (nI un), .int (nI ic)]) ++ List.replicate (9 - (lg_sl ([.ref (a 0), .int (nI sc), .int (nI tm), .int p2, .long bt, .int (nI un), .int (nI ic)])).length) Slot.unset).toArray = ls at hl ⊢
  have hl : lv_has ls 9 [(0, .ref (a 0)), (1, .int (nI sc)), (2, .int (nI tm)), (3, .int p2), (4, .long bt), (6, .int (nI un)), (7, .int (nI ic))] := hl
  refine lv_iload_n hx hb dX5_slot_0 rfl (lv_at hl 1 rfl) ?_
  refine va_csv (W.runS (As := [.int (nI sc)]) (rest := []) ⟨hx, hb, hml, hown, hts⟩ (c_X5_checkSource l dC dI a k u sc h1) (cwS 1 hts (wG_S wG_c q_241 q_242 q_1 q_243) rfl rfl rfl (by decide +kernel) ⟨Nat.le_of_ble_eq_true rfl, Nat.le_of_ble_eq_true rfl⟩) (w_roS hK hP) rfl rfl hl.1 rfl (lv_room (Nat.le_of_ble_eq_true rfl)) dX5_slot_1 ⟨Nat.le_of_ble_eq_true rfl, Nat.le_of_ble_eq_true rfl⟩) (fun _ => ?_)
  refine lv_iload hx hb dX5_slot_4 (lv_at hl 5 rfl) ?_
  refine va_csv (W.runS (As := [.int (nI un)]) (rest := []) ⟨hx, hb, hml, hown, hts⟩ (c_X5_checkUnit l dC dI a k u un h5) (cwS 1 hts (wG_S wG_c q_313 q_314 q_1 q_315) rfl rfl rfl (by decide +kernel) ⟨Nat.le_of_ble_eq_true rfl, Nat.le_of_ble_eq_true rfl⟩) (w_roS hK hP) rfl rfl hl.1 rfl (lv_room (Nat.le_of_ble_eq_true rfl)) dX5_slot_6 ⟨Nat.le_of_ble_eq_true rfl, Nat.le_of_ble_eq_true rfl⟩) (fun _ => ?_)
  refine lv_iload hx hb dX5_slot_9 (lv_at hl 6 rfl) ?_
  refine va_csv (W.runS (As := [.int (nI ic)]) (rest := []) ⟨hx, hb, hml, hown, hts⟩ (c_X5_checkIncident l dC dI a k u ic h6) (cwS 1 hts (wG_S wG_c q_317 q_318 q_1 q_319) rfl rfl rfl (by decide +kernel) ⟨Nat.le_of_ble_eq_true rfl, Nat.le_of_ble_eq_true rfl⟩) (w_roS hK hP) rfl rfl hl.1 rfl (lv_room (Nat.le_of_ble_eq_true rfl)) dX5_slot_11 ⟨Nat.le_of_ble_eq_true rfl, Nat.le_of_ble_eq_true rfl⟩) (fun _ => ?_)
  refine lv_iload_n hx hb dX5_slot_14 rfl (lv_at hl 2 rfl) ?_
  refine va_csv (W.runS (As := [.int (nI tm)]) (rest := []) ⟨hx, hb, hml, hown, hts⟩ (c_X5_checkTime l dC dI a k u tm h2) (cwS 1 hts (wG_S wG_c q_321 q_322 q_1 q_323) rfl rfl rfl (by decide +kernel) ⟨Nat.le_of_ble_eq_true rfl, Nat.le_of_ble_eq_true rfl⟩) (w_roS hK hP) rfl rfl hl.1 rfl (lv_room (Nat.le_of_ble_eq_true rfl)) dX5_slot_15 ⟨Nat.le_of_ble_eq_true rfl, Nat.le_of_ble_eq_true rfl⟩) (fun _ => ?_)
  refine lv_iload_n hx hb dX5_slot_18 rfl (lv_at hl 3 rfl) ?_
  refine lv_iconst (v := 1) hx hb dX5_slot_19 (by decide) ?_
  refine lv_icmp_lt (tgt := 29) hx hb dX5_slot_20 (by decide) (fun c_20 => ?_) (fun c_20 => ?_)
  · exact x_throw (E := eIOE) (text := "a slot has 1 to 8 bytes") (A := va_A [] s.heap.size) hx hb hst hown (by decide +kernel) htg hX own_IOE q_325 q_326 q_12 (by decide +kernel) va_S.rf (hl.1.trans hml.symm) dX5_slot_29 dX5_slot_32 dX5_slot_33 dX5_slot_35 dX5_slot_38 (fun x h9 => (hnoh x h9).elim) (Nat.le_of_ble_eq_true rfl) (Nat.le_of_ble_eq_true rfl) (Nat.le_of_ble_eq_true rfl) (Nat.le_of_ble_eq_true rfl) hlocks (fun q9 t9 ce9 _ z1 z2 z3 z4 z5 => ⟨⟨ce9, z3, z4, z5⟩, z1, fun z z6 _ => z2 z z6⟩) (fun _ h9 => by cases h9) (Nat.le_refl _) (Nat.le_refl _)
  · refine lv_iload_n hx hb dX5_slot_23 rfl (lv_at hl 3 rfl) ?_
    refine lv_bipush (v := 8) hx hb dX5_slot_24 (by decide) ?_
    refine lv_icmp_le (tgt := 39) hx hb dX5_slot_26 (by decide) (fun c_26 => ?_) (fun c_26 => ?_)
    · exact absurd (inR_t (lo := 1) (hi := 8) c_20 (by rw [Int32.lt_iff_toInt_lt]; rw [Int32.le_iff_toInt_le] at c_26; omega)) (by rw [hb9]; decide)
    · exact x_throw (E := eIOE) (text := "a slot has 1 to 8 bytes") (A := va_A [] s.heap.size) hx hb hst hown (by decide +kernel) htg hX own_IOE q_325 q_326 q_12 (by decide +kernel) va_S.rf (hl.1.trans hml.symm) dX5_slot_29 dX5_slot_32 dX5_slot_33 dX5_slot_35 dX5_slot_38 (fun x h9 => (hnoh x h9).elim) (Nat.le_of_ble_eq_true rfl) (Nat.le_of_ble_eq_true rfl) (Nat.le_of_ble_eq_true rfl) (Nat.le_of_ble_eq_true rfl) hlocks (fun q9 t9 ce9 _ z1 z2 z3 z4 z5 => ⟨⟨ce9, z3, z4, z5⟩, z1, fun z z6 _ => z2 z z6⟩) (fun _ h9 => by cases h9) (Nat.le_refl _) (Nat.le_refl _)
set_option maxHeartbeats 4000000 in
set_option maxRecDepth 100000 in
theorem x_X5_slot_6 (l : Launch) (dC : Nat → ClassId) (dI : Nat → Nat → Nat) (a : Nat → Nat) (k : c_K) (u : c_St) (sz : Nat) (hst : l.stackTraces = false) (sc tm n : Nat) (bt : Int64) (un ic : Nat) (h1 : sc ≤ 9) (h2 : tm ≤ 9999999) (h3 : 1 ≤ n) (h4 : n ≤ 8) (h5 : un ≤ 99) (h6 : ic ≤ 49) (hN : cu_N u 0 = 200) : XMet l yX5_slot wsX5_slot ({ frames := 6, cells := 1, slots := 6, locals := 82 }) (va_Pc [.ref (a 0), .int (nI sc), .int (nI tm), .int (nI n), .long bt, .int (nI un), .int (nI ic)] (w_px (dC, dI) vwCl (wC a k u) (tC k) sz)) (x_C eUOE sz) 1 6 (va_A [] sz) := by
  refine XMet.ofW (cc := cX5_slot) (maxL := 9) (ret := (some .int)) (by decide) rfl ?_
  intro p e s m args below meth c s₁ B hml hv
  obtain ⟨rfl, hsz, hP, hK, hX⟩ := hv
  have hx := B.exec
  have hb := B.bytes
  have hts := atoms_spec (ws := wsX5_slot) B.pre
  have htg : ∀ w ∈ wG, w.before _ s = true := fun w h => hts w (List.mem_cons_of_mem _ h)
  have hown : s.vm.findClass RX5 = some m.cls := findClass_of_methodNamed B.named
  have hlocks := B.notSynchronized
  have hnoh : ∀ x ∈ c.exceptionTable.toList, False := fun x hx9 => by
    have h9 := B.noHandlers (hts _ List.mem_cons_self)
    rw [Array.isEmpty_iff.mp h9] at hx9
    cases hx9
  subst hsz
  have hl := lv_entry ([.ref (a 0), .int (nI sc), .int (nI tm), .int (nI n), .long bt, .int (nI un), .int (nI ic)]) (n := 9) (Nat.le_of_ble_eq_true rfl)
  rw [lg_entry_eq]
  generalize (lg_sl ([.ref (a 0), .int (nI sc), .int (nI tm), .int (nI n), .long bt, .int (nI un), .int (nI ic)]) ++ List.replicate (9 - (lg_sl ([.ref (a 0), .int (nI sc), .int (nI tm), .int (nI n), .long bt, .int (nI un), .int (nI ic)])).length) Slot.unset).toArray = ls at hl ⊢
  have hl : lv_has ls 9 [(0, .ref (a 0)), (1, .int (nI sc)), (2, .int (nI tm)), (3, .int (nI n)), (4, .long bt), (6, .int (nI un)), (7, .int (nI ic))] := hl
  refine lv_iload_n hx hb dX5_slot_0 rfl (lv_at hl 1 rfl) ?_
  refine va_csv (W.runS (As := [.int (nI sc)]) (rest := []) ⟨hx, hb, hml, hown, hts⟩ (c_X5_checkSource l dC dI a k u sc h1) (cwS 1 hts (wG_S wG_c q_241 q_242 q_1 q_243) rfl rfl rfl (by decide +kernel) ⟨Nat.le_of_ble_eq_true rfl, Nat.le_of_ble_eq_true rfl⟩) (w_roS hK hP) rfl rfl hl.1 rfl (lv_room (Nat.le_of_ble_eq_true rfl)) dX5_slot_1 ⟨Nat.le_of_ble_eq_true rfl, Nat.le_of_ble_eq_true rfl⟩) (fun _ => ?_)
  refine lv_iload hx hb dX5_slot_4 (lv_at hl 5 rfl) ?_
  refine va_csv (W.runS (As := [.int (nI un)]) (rest := []) ⟨hx, hb, hml, hown, hts⟩ (c_X5_checkUnit l dC dI a k u un h5) (cwS 1 hts (wG_S wG_c q_313 q_314 q_1 q_315) rfl rfl rfl (by decide +kernel) ⟨Nat.le_of_ble_eq_true rfl, Nat.le_of_ble_eq_true rfl⟩) (w_roS hK hP) rfl rfl hl.1 rfl (lv_room (Nat.le_of_ble_eq_true rfl)) dX5_slot_6 ⟨Nat.le_of_ble_eq_true rfl, Nat.le_of_ble_eq_true rfl⟩) (fun _ => ?_)
  refine lv_iload hx hb dX5_slot_9 (lv_at hl 6 rfl) ?_
  refine va_csv (W.runS (As := [.int (nI ic)]) (rest := []) ⟨hx, hb, hml, hown, hts⟩ (c_X5_checkIncident l dC dI a k u ic h6) (cwS 1 hts (wG_S wG_c q_317 q_318 q_1 q_319) rfl rfl rfl (by decide +kernel) ⟨Nat.le_of_ble_eq_true rfl, Nat.le_of_ble_eq_true rfl⟩) (w_roS hK hP) rfl rfl hl.1 rfl (lv_room (Nat.le_of_ble_eq_true rfl)) dX5_slot_11 ⟨Nat.le_of_ble_eq_true rfl, Nat.le_of_ble_eq_true rfl⟩) (fun _ => ?_)
  refine lv_iload_n hx hb dX5_slot_14 rfl (lv_at hl 2 rfl) ?_
  refine va_csv (W.runS (As := [.int (nI tm)]) (rest := []) ⟨hx, hb, hml, hown, hts⟩ (c_X5_checkTime l dC dI a k u tm h2) (cwS 1 hts (wG_S wG_c q_321 q_322 q_1 q_323) rfl rfl rfl (by decide +kernel) ⟨Nat.le_of_ble_eq_true rfl, Nat.le_of_ble_eq_true rfl⟩) (w_roS hK hP) rfl rfl hl.1 rfl (lv_room (Nat.le_of_ble_eq_true rfl)) dX5_slot_15 ⟨Nat.le_of_ble_eq_true rfl, Nat.le_of_ble_eq_true rfl⟩) (fun _ => ?_)
  refine lv_iload_n hx hb dX5_slot_18 rfl (lv_at hl 3 rfl) ?_
  refine lv_iconst (v := 1) hx hb dX5_slot_19 (by decide) ?_
  refine nb_lt (a := n) (b := 1) (tgt := 29) hx hb (by omega) (by omega) rfl rfl dX5_slot_20 (by decide) (fun c_20 => ?_) (fun c_20 => ?_)
  · exact absurd c_20 (by omega)
  · refine lv_iload_n hx hb dX5_slot_23 rfl (lv_at hl 3 rfl) ?_
    refine lv_bipush (v := 8) hx hb dX5_slot_24 (by decide) ?_
    refine nb_le (a := n) (b := 8) (tgt := 39) hx hb (by omega) (by omega) rfl rfl dX5_slot_26 (by decide) (fun c_26 => ?_) (fun c_26 => ?_)
    · refine lv_aload_n hx hb dX5_slot_39 rfl (lv_at hl 0 rfl) ?_
      refine va_get (D := (dC, dI)) (ci := 5) (v := .ref (a 1)) (C := RX5) (T := TX5) (N := 6) hx hb htg inX5 hown hK hP 0 (wC_g0 a k _) rfl 0 (by decide) (htg _ q_160) (fun _ h9 => h9) rfl dX5_slot_40 ?_
      refine va_get (D := (dC, dI)) (ci := 4) (v := .int (nI (cu_N u 0))) (C := RX4) (T := TX4) (N := 9) hx hb htg inX4 hown hK hP 1 (wC_g1 a k _) rfl 8 (by decide) (htg _ q_46) (fun _ h9 => h9) rfl dX5_slot_43 ?_
      refine lv_sipush (v := 200) hx hb dX5_slot_46 (by decide) ?_
      refine nb_lt (a := (cu_N u 0)) (b := 200) (tgt := 62) hx hb (by omega) (by omega) rfl rfl dX5_slot_49 (by decide) (fun c_49 => ?_) (fun c_49 => ?_)
      · exact absurd c_49 (by omega)
      · exact x_throw (E := eUOE) (text := "there are 200 slots") (A := va_A [] s.heap.size) hx hb hst hown (by decide +kernel) htg hX own_UOE q_342 q_343 q_13 (by decide +kernel) va_S.rf (hl.1.trans hml.symm) dX5_slot_52 dX5_slot_55 dX5_slot_56 dX5_slot_58 dX5_slot_61 (fun x h9 => (hnoh x h9).elim) (Nat.le_of_ble_eq_true rfl) (Nat.le_of_ble_eq_true rfl) (Nat.le_of_ble_eq_true rfl) (Nat.le_of_ble_eq_true rfl) hlocks (fun q9 t9 ce9 _ z1 z2 z3 z4 z5 => ⟨⟨ce9, z3, z4, z5⟩, z1, fun z z6 _ => z2 z z6⟩) (fun _ h9 => by cases h9) (Nat.le_refl _) (Nat.le_refl _)
    · exact absurd c_26 (by omega)
