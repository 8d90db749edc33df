/-! the class's writing helpers in numbers -/
/-- a new slot -/
def c_add (u : c_St) (sc tm n : Nat) (bt : Int64) (un ic : Nat) : c_St := cs_N (cs_G (cs_B (cs_F (cs_F (cs_L (cs_F (cs_F (cs_F u 0 (cu_N u 0) sc) 1 (cu_N u 0) tm) 2 (cu_N u 0) n) (cu_N u 0) bt) 3 (cu_N u 0) un) 4 (cu_N u 0) ic) 0 (cu_N u 0) true) 0 (cu_N u 0) (c_sm bt n 0 0 n)) 0 (cu_N u 0 + 1)
/-- the line's order as a whole -/
def cs_O (u : c_St) (f : Nat → Nat) : c_St := (u.1, fun k i => if k = 6 then f i else u.2.1 k i, u.2.2.1, u.2.2.2.1, u.2.2.2.2.1, u.2.2.2.2.2)
theorem cx_O6 (u : c_St) (f : Nat → Nat) (i : Nat) : cu_F (cs_O u f) 6 i = f i := rfl
theorem c_ext {u v : c_St} (h1 : ∀ k, cu_N u k = cu_N v k) (h2 : ∀ k i, cu_F u k i = cu_F v k i) (h3 : ∀ k i, cu_B u k i = cu_B v k i) (h4 : ∀ k i, cu_G u k i = cu_G v k i) (h5 : ∀ k i, cu_D u k i = cu_D v k i) (h6 : ∀ i, cu_L u i = cu_L v i) : u = v := by
  obtain ⟨a1, a2, a3, a4, a5, a6⟩ := u
  obtain ⟨b1, b2, b3, b4, b5, b6⟩ := v
  have e1 : a1 = b1 := funext h1
  have e2 : a2 = b2 := funext fun k => funext (h2 k)
  have e3 : a3 = b3 := funext fun k => funext (h3 k)
  have e4 : a4 = b4 := funext fun k => funext (h4 k)
  have e5 : a5 = b5 := funext fun k => funext (h5 k)
  have e6 : a6 = b6 := funext h6
  subst e1 e2 e3 e4 e5 e6
  rfl
/-- the line while a place is looked for: what stood from t on stands one further, up to pl -/
def c_shift (u : c_St) (t pl : Nat) : c_St := cs_O u (fun j => if t < j ∧ j ≤ pl then cu_F u 6 (j - 1) else cu_F u 6 j)
theorem c_shift_0 (u : c_St) (pl : Nat) : c_shift u pl pl = u := by
  refine c_ext (fun _ => rfl) (fun k i => ?_) (fun _ _ => rfl) (fun _ _ => rfl) (fun _ _ => rfl) (fun _ => rfl)
  show (if k = 6 then (if pl < i ∧ i ≤ pl then cu_F u 6 (i - 1) else cu_F u 6 i) else cu_F u k i) = cu_F u k i
  split
  · rename_i h; rw [if_neg (by omega), h]
  · rfl
theorem c_shift_s (u : c_St) {t pl : Nat} (h0 : 0 < t) (h1 : t ≤ pl) : cs_F (c_shift u t pl) 6 t (cu_F u 6 (t - 1)) = c_shift u (t - 1) pl := by
  refine c_ext (fun _ => rfl) (fun k i => ?_) (fun _ _ => rfl) (fun _ _ => rfl) (fun _ _ => rfl) (fun _ => rfl)
  show (if k = 6 then (if i = t then cu_F u 6 (t - 1) else (if k = 6 then (if t < i ∧ i ≤ pl then cu_F u 6 (i - 1) else cu_F u 6 i) else cu_F u k i)) else (if k = 6 then (if t < i ∧ i ≤ pl then cu_F u 6 (i - 1) else cu_F u 6 i) else cu_F u k i)) = (if k = 6 then (if t - 1 < i ∧ i ≤ pl then cu_F u 6 (i - 1) else cu_F u 6 i) else cu_F u k i)
  by_cases hk : k = 6
  · rw [if_pos hk, if_pos hk, if_pos hk]
    by_cases hi : i = t
    · rw [if_pos hi, if_pos (by omega), hi]
    · rw [if_neg hi]
      by_cases h3 : t < i ∧ i ≤ pl
      · rw [if_pos h3, if_pos (by omega)]
      · rw [if_neg h3, if_neg (by omega)]
  · rw [if_neg hk, if_neg hk, if_neg hk]
/-- the line without its place t, as far as k places are looked at -/
def c_cut (u : c_St) (t k : Nat) : c_St := cs_O u (fun j => if t ≤ j ∧ j + 1 < k then cu_F u 6 (j + 1) else cu_F u 6 j)
theorem c_cut_0 (u : c_St) {t k : Nat} (h : k ≤ t + 1) : c_cut u t k = u := by
  refine c_ext (fun _ => rfl) (fun q i => ?_) (fun _ _ => rfl) (fun _ _ => rfl) (fun _ _ => rfl) (fun _ => rfl)
  show (if q = 6 then (if t ≤ i ∧ i + 1 < k then cu_F u 6 (i + 1) else cu_F u 6 i) else cu_F u q i) = cu_F u q i
  split
  · rename_i h; rw [if_neg (by omega), h]
  · rfl
theorem c_cut_same (u : c_St) {t k : Nat} (h : k < t) : cs_F (c_cut u t k) 6 k (cu_F u 6 k) = c_cut u t (k + 1) := by
  rw [c_cut_0 u (by omega), c_cut_0 u (by omega)]
  refine c_ext (fun _ => rfl) (fun q i => ?_) (fun _ _ => rfl) (fun _ _ => rfl) (fun _ _ => rfl) (fun _ => rfl)
  rw [cx_FF]
  split
  · rename_i h; subst h
    split
    · rename_i h; rw [h]
    · rfl
  · rfl
theorem c_cut_s (u : c_St) {t k : Nat} (h : t < k) : cs_F (c_cut u t k) 6 (k - 1) (cu_F u 6 k) = c_cut u t (k + 1) := by
  refine c_ext (fun _ => rfl) (fun q i => ?_) (fun _ _ => rfl) (fun _ _ => rfl) (fun _ _ => rfl) (fun _ => rfl)
  rw [cx_FF]
  show (if q = 6 then (if i = k - 1 then cu_F u 6 k else (if q = 6 then (if t ≤ i ∧ i + 1 < k then cu_F u 6 (i + 1) else cu_F u 6 i) else cu_F u q i)) else (if q = 6 then (if t ≤ i ∧ i + 1 < k then cu_F u 6 (i + 1) else cu_F u 6 i) else cu_F u q i)) = (if q = 6 then (if t ≤ i ∧ i + 1 < k + 1 then cu_F u 6 (i + 1) else cu_F u 6 i) else cu_F u q i)
  by_cases hq : q = 6
  · rw [if_pos hq, if_pos hq, if_pos hq]
    by_cases hi : i = k - 1
    · rw [if_pos hi, if_pos (by omega), show i + 1 = k by omega]
    · rw [if_neg hi]
      by_cases h3 : t ≤ i ∧ i + 1 < k
      · rw [if_pos h3, if_pos (by omega)]
      · rw [if_neg h3, if_neg (by omega)]
  · rw [if_neg hq, if_neg hq, if_neg hq]

set_option maxHeartbeats 4000000 in
set_option maxRecDepth 100000 in
theorem c_X4_add (l : Launch) (dC : Nat → ClassId) (dI : Nat → Nat → Nat) (a : Nat → Nat) (k : c_K) (u : c_St) (sz : Nat) (sc tm n : Nat) (bt : Int64) (un ic : Nat) (hN : cu_N u 0 < 200) (hn : n ≤ 8) : Met l yX4_add wsX4_add ({ frames := 3, cells := 0, slots := 0, locals := 71 }) (va_Pc [.ref (a 1), .int (nI sc), .int (nI tm), .int (nI n), .long bt, .int (nI un), .int (nI ic)] (w_mu (dC, dI) vwCl (wC a k u) (tC k) sz)) (va_Qi (fun (r : Int32) (u1 : c_St) => r = nI (cu_N u 0) ∧ u1 = c_add u sc tm n bt un ic) (w_at (dC, dI) vwCl (wC a k) (tC k) (va_A (wC a k u) sz)) (va_A (wC a k u) sz)) 0 0 (va_A (wC a k u) sz) := by
  refine Met.ofW (cc := cX4_add) (maxL := 9) (ret := (some .int)) (by decide) rfl ?_
  intro p e s m args below meth c s₁ B hml hv
  obtain ⟨rfl, hsz, hP, hK, hD0⟩ := hv
  have hx := B.exec
  have hb := B.bytes
  have hr := B.returns
  have hts := atoms_spec (ws := wsX4_add) B.pre
  have htg : ∀ w ∈ wG, w.before _ s = true := fun w h => hts w (List.mem_cons_of_mem _ h)
  have hown : s.vm.findClass RX4 = some m.cls := findClass_of_methodNamed B.named
  have hlocks := B.notSynchronized
  subst hsz
  have hD := hD0.self (sz := s.heap.size)
  generalize hAe : va_A (wC a k u) s.heap.size = A at hD ⊢
  have hA : ∀ q : Nat, s.heap.size ≤ q → A q := fun q h => by rw [← hAe]; exact Or.inr h
  have hS : va_S A s.heap s.heap [] := va_S.rf
  have hl := lv_entry ([.ref (a 1), .int (nI sc), .int (nI tm), .int (nI n), .long bt, .int (nI un), .int (nI ic)]) (n := 9) (Nat.le_of_ble_eq_true rfl)
  rw [lg_entry_eq]
  generalize (lg_sl ([.ref (a 1), .int (nI sc), .int (nI tm), .int (nI n), .long bt, .int (nI un), .int (nI ic)]) ++ List.replicate (9 - (lg_sl ([.ref (a 1), .int (nI sc), .int (nI tm), .int (nI n), .long bt, .int (nI un), .int (nI ic)])).length) Slot.unset).toArray = ls at hl ⊢
  have hl : lv_has ls 9 [(0, .ref (a 1)), (1, .int (nI sc)), (2, .int (nI tm)), (3, .int (nI n)), (4, .long bt), (6, .int (nI un)), (7, .int (nI ic))] := hl
  refine lv_aload_n hx hb dX4_add_0 rfl (lv_at hl 0 rfl) ?_
  refine va_get (D := (dC, dI)) (ci := 4) (v := .int (nI (cu_N u 0))) (C := RX4) (T := TX4) (N := 9) hx hb htg inX4 hown hK hP 1 (wC_g1 a k _) rfl 8 (by decide) (htg _ q_45) (fun _ h9 => h9) rfl dX4_add_1 ?_
  refine lv_istore (lv' := [(8, .int (nI (cu_N u 0))), (0, .ref (a 1)), (1, .int (nI sc)), (2, .int (nI tm)), (3, .int (nI n)), (4, .long bt), (6, .int (nI un)), (7, .int (nI ic))]) hx hb dX4_add_4 hl (by decide) rfl (fun ls hl => ?_)
  refine lv_aload_n hx hb dX4_add_6 rfl (lv_at hl 1 rfl) ?_
  refine va_get (D := (dC, dI)) (ci := 4) (v := .ref (a 7)) (C := RX4) (T := TX4) (N := 9) hx hb htg inX4 hown hK hP 1 (wC_g1 a k _) rfl 0 (by decide) (htg _ q_30) (fun _ h9 => h9) rfl dX4_add_7 ?_
  refine lv_iload hx hb dX4_add_10 (lv_at hl 0 rfl) ?_
  refine lv_iload_n hx hb dX4_add_12 rfl (lv_at hl 2 rfl) ?_
  refine va_iast hx hb hK hP hD hS 7 0 (wC_g7 a k _) rfl (vp_in_nI (n := (cu_N u 0)) (N := 200) hN (by decide)) dX4_add_13 (fun H locs hP hD hS => ?_)
  have hP := w_pE (wC_s7 a k _ (cu_N u 0) sc (Nat.lt_trans (m := 200) hN (by decide))) hP
  have hD := w_dE (wC_s7 a k _ (cu_N u 0) sc (Nat.lt_trans (m := 200) hN (by decide))) hD
  refine lv_aload_n hx hb dX4_add_14 rfl (lv_at hl 1 rfl) ?_
  refine va_get (D := (dC, dI)) (ci := 4) (v := .ref (a 8)) (C := RX4) (T := TX4) (N := 9) hx hb htg inX4 hown hK hP 1 (wC_g1 a k _) rfl 1 (by decide) (htg _ q_32) (fun _ h9 => h9) rfl dX4_add_15 ?_
  refine lv_iload hx hb dX4_add_18 (lv_at hl 0 rfl) ?_
  refine lv_iload_n hx hb dX4_add_20 rfl (lv_at hl 3 rfl) ?_
  refine va_iast hx hb hK hP hD hS 8 0 (wC_g8 a k _) rfl (vp_in_nI (n := (cu_N u 0)) (N := 200) hN (by decide)) dX4_add_21 (fun H locs hP hD hS => ?_)
  have hP := w_pE (wC_s8 a k _ (cu_N u 0) tm (Nat.lt_trans (m := 200) hN (by decide))) hP
  have hD := w_dE (wC_s8 a k _ (cu_N u 0) tm (Nat.lt_trans (m := 200) hN (by decide))) hD
  refine lv_aload_n hx hb dX4_add_22 rfl (lv_at hl 1 rfl) ?_
  refine va_get (D := (dC, dI)) (ci := 4) (v := .ref (a 9)) (C := RX4) (T := TX4) (N := 9) hx hb htg inX4 hown hK hP 1 (wC_g1 a k _) rfl 2 (by decide) (htg _ q_34) (fun _ h9 => h9) rfl dX4_add_23 ?_
  refine lv_iload hx hb dX4_add_26 (lv_at hl 0 rfl) ?_
  refine lv_iload_n hx hb dX4_add_28 rfl (lv_at hl 4 rfl) ?_
  refine va_iast hx hb hK hP hD hS 9 0 (wC_g9 a k _) rfl (vp_in_nI (n := (cu_N u 0)) (N := 200) hN (by decide)) dX4_add_29 (fun H locs hP hD hS => ?_)
  have hP := w_pE (wC_s9 a k _ (cu_N u 0) n (Nat.lt_trans (m := 200) hN (by decide))) hP
  have hD := w_dE (wC_s9 a k _ (cu_N u 0) n (Nat.lt_trans (m := 200) hN (by decide))) hD
  refine lv_aload_n hx hb dX4_add_30 rfl (lv_at hl 1 rfl) ?_
  refine va_get (D := (dC, dI)) (ci := 4) (v := .ref (a 10)) (C := RX4) (T := TX4) (N := 9) hx hb htg inX4 hown hK hP 1 (wC_g1 a k _) rfl 3 (by decide) (htg _ q_37) (fun _ h9 => h9) rfl dX4_add_31 ?_
  refine lv_iload hx hb dX4_add_34 (lv_at hl 0 rfl) ?_
  refine lv_lload hx hb dX4_add_36 (lv_at hl 5 rfl) ?_
  refine va_last hx hb hK hP hD hS 10 1 (wC_g10 a k _) rfl (vp_in_nI (n := (cu_N u 0)) (N := 200) hN (by decide)) dX4_add_38 (fun H locs hP hD hS => ?_)
  have hP := w_pE (wC_s10 a k _ (cu_N u 0) bt (Nat.lt_trans (m := 200) hN (by decide))) hP
  have hD := w_dE (wC_s10 a k _ (cu_N u 0) bt (Nat.lt_trans (m := 200) hN (by decide))) hD
  refine lv_aload_n hx hb dX4_add_39 rfl (lv_at hl 1 rfl) ?_
  refine va_get (D := (dC, dI)) (ci := 4) (v := .ref (a 11)) (C := RX4) (T := TX4) (N := 9) hx hb htg inX4 hown hK hP 1 (wC_g1 a k _) rfl 4 (by decide) (htg _ q_38) (fun _ h9 => h9) rfl dX4_add_40 ?_
  refine lv_iload hx hb dX4_add_43 (lv_at hl 0 rfl) ?_
  refine lv_iload hx hb dX4_add_45 (lv_at hl 6 rfl) ?_
  refine va_iast hx hb hK hP hD hS 11 0 (wC_g11 a k _) rfl (vp_in_nI (n := (cu_N u 0)) (N := 200) hN (by decide)) dX4_add_47 (fun H locs hP hD hS => ?_)
  have hP := w_pE (wC_s11 a k _ (cu_N u 0) un (Nat.lt_trans (m := 200) hN (by decide))) hP
  have hD := w_dE (wC_s11 a k _ (cu_N u 0) un (Nat.lt_trans (m := 200) hN (by decide))) hD
  refine lv_aload_n hx hb dX4_add_48 rfl (lv_at hl 1 rfl) ?_
  refine va_get (D := (dC, dI)) (ci := 4) (v := .ref (a 12)) (C := RX4) (T := TX4) (N := 9) hx hb htg inX4 hown hK hP 1 (wC_g1 a k _) rfl 5 (by decide) (htg _ q_39) (fun _ h9 => h9) rfl dX4_add_49 ?_
  refine lv_iload hx hb dX4_add_52 (lv_at hl 0 rfl) ?_
  refine lv_iload hx hb dX4_add_54 (lv_at hl 7 rfl) ?_
  refine va_iast hx hb hK hP hD hS 12 0 (wC_g12 a k _) rfl (vp_in_nI (n := (cu_N u 0)) (N := 200) hN (by decide)) dX4_add_56 (fun H locs hP hD hS => ?_)
  have hP := w_pE (wC_s12 a k _ (cu_N u 0) ic (Nat.lt_trans (m := 200) hN (by decide))) hP
  have hD := w_dE (wC_s12 a k _ (cu_N u 0) ic (Nat.lt_trans (m := 200) hN (by decide))) hD
  refine lv_aload_n hx hb dX4_add_57 rfl (lv_at hl 1 rfl) ?_
  refine va_get (D := (dC, dI)) (ci := 4) (v := .ref (a 14)) (C := RX4) (T := TX4) (N := 9) hx hb htg inX4 hown hK hP 1 (wC_g1 a k _) rfl 7 (by decide) (htg _ q_43) (fun _ h9 => h9) rfl dX4_add_58 ?_
  refine lv_iload hx hb dX4_add_61 (lv_at hl 0 rfl) ?_
  refine lv_iconst (v := 1) hx hb dX4_add_63 (by decide) ?_
  refine va_zast hx hb hK hP hD hS 14 2 (wC_g14 a k _) rfl (vp_in_nI (n := (cu_N u 0)) (N := 200) hN (by decide)) dX4_add_64 (fun H locs hP hD hS => ?_)
  have hP := w_pE (wC_s14 a k _ (cu_N u 0) true (Nat.lt_trans (m := 200) hN (by decide))) hP
  have hD := w_dE (wC_s14 a k _ (cu_N u 0) true (Nat.lt_trans (m := 200) hN (by decide))) hD
  refine lv_aload_n hx hb dX4_add_65 rfl (lv_at hl 1 rfl) ?_
  refine va_get (D := (dC, dI)) (ci := 4) (v := .ref (a 13)) (C := RX4) (T := TX4) (N := 9) hx hb htg inX4 hown hK hP 1 (wC_g1 a k _) rfl 6 (by decide) (htg _ q_41) (fun _ h9 => h9) rfl dX4_add_66 ?_
  refine lv_iload hx hb dX4_add_69 (lv_at hl 0 rfl) ?_
  refine lv_aload_n hx hb dX4_add_71 rfl (lv_at hl 1 rfl) ?_
  refine lv_iload hx hb dX4_add_72 (lv_at hl 0 rfl) ?_
  refine vp_callSi (W.runV (As := [.int (nI (cu_N u 0))]) (rest := [.int (nI (cu_N u 0)), .ref (a 13)]) ⟨hx, hb, hml, hown, hts⟩ (c_X4_sumNow l dC dI a k (cs_B (cs_F (cs_F (cs_L (cs_F (cs_F (cs_F u 0 (cu_N u 0) sc) 1 (cu_N u 0) tm) 2 (cu_N u 0) n) (cu_N u 0) bt) 3 (cu_N u 0) un) 4 (cu_N u 0) ic) 0 (cu_N u 0) true) (cu_N u 0) hN (by simp [cx_NN, cx_NF, cx_NB, cx_NG, cx_ND, cx_NL, cx_FN, cx_FF, cx_FB, cx_FG, cx_FD, cx_FL, cx_BN, cx_BF, cx_BB, cx_BG, cx_BD, cx_BL, cx_GN, cx_GF, cx_GB, cx_GG, cx_GD, cx_GL, cx_DN, cx_DF, cx_DB, cx_DG, cx_DD, cx_DL, cx_LN, cx_LF, cx_LB, cx_LG, cx_LD, cx_LL]; omega)) (cwV 1 hts (wG_V wG_c q_362 q_227 q_228 q_2 q_229) rfl rfl rfl (by decide +kernel) ⟨Nat.le_of_ble_eq_true rfl, Nat.le_of_ble_eq_true rfl⟩) (w_roV hK hP (ci := 4) (q0 := 1) rfl (wC_g1 a k _) rfl) rfl rfl hl.1 rfl (lv_room (Nat.le_of_ble_eq_true rfl)) dX4_add_74 ⟨Nat.le_of_ble_eq_true rfl, Nat.le_of_ble_eq_true rfl⟩) (fun r_1 hr_1 => ?_)
  subst hr_1
  refine wtopi (c_sm bt n 0 0 n) (by simp [cx_NN, cx_NF, cx_NB, cx_NG, cx_ND, cx_NL, cx_FN, cx_FF, cx_FB, cx_FG, cx_FD, cx_FL, cx_BN, cx_BF, cx_BB, cx_BG, cx_BD, cx_BL, cx_GN, cx_GF, cx_GB, cx_GG, cx_GD, cx_GL, cx_DN, cx_DF, cx_DB, cx_DG, cx_DD, cx_DL, cx_LN, cx_LF, cx_LB, cx_LG, cx_LD, cx_LL]) ?_
  refine va_iast hx hb hK hP hD hS 13 0 (wC_g13 a k _) rfl (vp_in_nI (n := (cu_N u 0)) (N := 200) hN (by decide)) dX4_add_77 (fun H locs hP hD hS => ?_)
  have hP := w_pE (wC_s13 a k _ (cu_N u 0) (c_sm bt n 0 0 n) (Nat.lt_trans (m := 200) hN (by decide))) hP
  have hD := w_dE (wC_s13 a k _ (cu_N u 0) (c_sm bt n 0 0 n) (Nat.lt_trans (m := 200) hN (by decide))) hD
  refine lv_aload_n hx hb dX4_add_78 rfl (lv_at hl 1 rfl) ?_
  refine lv_dup hx hb dX4_add_79 rfl ?_
  refine va_get (D := (dC, dI)) (ci := 4) (v := .int (nI (cu_N (cs_G (cs_B (cs_F (cs_F (cs_L (cs_F (cs_F (cs_F u 0 (cu_N u 0) sc) 1 (cu_N u 0) tm) 2 (cu_N u 0) n) (cu_N u 0) bt) 3 (cu_N u 0) un) 4 (cu_N u 0) ic) 0 (cu_N u 0) true) 0 (cu_N u 0) (c_sm bt n 0 0 n)) 0))) (C := RX4) (T := TX4) (N := 9) hx hb htg inX4 hown hK hP 1 (wC_g1 a k _) rfl 8 (by decide) (htg _ q_45) (fun _ h9 => h9) rfl dX4_add_80 ?_
  refine lv_iconst (v := 1) hx hb dX4_add_83 (by decide) ?_
  refine lv_iadd hx hb dX4_add_84 ?_
  refine wtopi (y := nI (cu_N u 0 + 1)) (nI_1 (cu_N u 0)) ?_
  refine va_put (D := (dC, dI)) (ci := 4) (v := .int (nI (cu_N u 0 + 1))) (ty := .int) (C := RX4) (T := TX4) (N := 9) hx hb htg inX4 tyX4 tyX4_ok nmX4 hown hK hP hD hS 1 (wC_g1 a k _) rfl 8 (by decide) (htg _ q_45) (fun _ h9 => h9) rfl (by decide +kernel) rfl rfl (Nat.le_of_ble_eq_true rfl) dX4_add_85 (fun H locs hP hD hS => ?_)
  have hP := w_pE (wC_n0 a k _ (cu_N u 0 + 1)) hP
  have hD := w_dE (wC_n0 a k _ (cu_N u 0 + 1)) hD
  refine lv_iload hx hb dX4_add_88 (lv_at hl 0 rfl) ?_
  exact W.iret (v := nI (cu_N u 0)) hx hb hr (fun t9 ht9 hW9 => ⟨⟨_, cs_N (cs_G (cs_B (cs_F (cs_F (cs_L (cs_F (cs_F (cs_F u 0 (cu_N u 0) sc) 1 (cu_N u 0) tm) 2 (cu_N u 0) n) (cu_N u 0) bt) 3 (cu_N u 0) un) 4 (cu_N u 0) ic) 0 (cu_N u 0) true) 0 (cu_N u 0) (c_sm bt n 0 0 n)) 0 (cu_N u 0 + 1), rfl, ⟨rfl, rfl⟩, by rw [ht9]; exact hP, va_K.moved hW9.alike hK, hD⟩, hS.F ht9⟩) hS.2.2 dX4_add_90
set_option maxHeartbeats 4000000 in
set_option maxRecDepth 100000 in
theorem c_X4_alter (l : Launch) (dC : Nat → ClassId) (dI : Nat → Nat → Nat) (a : Nat → Nat) (k : c_K) (u : c_St) (sz : Nat) (n i : Nat) (mk9 : Int32) (hn : n < 200) (hi : i < cu_F u 2 n) : Met l yX4_alter wsX4_alter ({ frames := 1, cells := 0, slots := 0, locals := 22 }) (va_Pc [.ref (a 1), .int (nI n), .int (nI i), .int mk9] (w_mu (dC, dI) vwCl (wC a k u) (tC k) sz)) (va_Qv (fun (u1 : c_St) => u1 = cs_L u n (cu_L u n ^^^ (mk9.toInt64 <<< ((nI (8 * (cu_F u 2 n - 1 - i))).toInt64 &&& 63)))) (w_at (dC, dI) vwCl (wC a k) (tC k) (va_A (wC a k u) sz)) (va_A (wC a k u) sz)) 0 0 (va_A (wC a k u) sz) := by
  refine Met.ofW (cc := cX4_alter) (maxL := 4) (ret := none) (by decide) rfl ?_
  intro p e s m args below meth c s₁ B hml hv
  obtain ⟨rfl, hsz, hP, hK, hD0⟩ := hv
  have hx := B.exec
  have hb := B.bytes
  have hr := B.returns
  have hts := atoms_spec (ws := wsX4_alter) B.pre
  have htg : ∀ w ∈ wG, w.before _ s = true := fun w h => hts w (List.mem_cons_of_mem _ h)
  have hown : s.vm.findClass RX4 = some m.cls := findClass_of_methodNamed B.named
  have hlocks := B.notSynchronized
  subst hsz
  have hD := hD0.self (sz := s.heap.size)
  generalize hAe : va_A (wC a k u) s.heap.size = A at hD ⊢
  have hA : ∀ q : Nat, s.heap.size ≤ q → A q := fun q h => by rw [← hAe]; exact Or.inr h
  have hS : va_S A s.heap s.heap [] := va_S.rf
  have hl := lv_entry ([.ref (a 1), .int (nI n), .int (nI i), .int mk9]) (n := 4) (Nat.le_of_ble_eq_true rfl)
  rw [lg_entry_eq]
  generalize (lg_sl ([.ref (a 1), .int (nI n), .int (nI i), .int mk9]) ++ List.replicate (4 - (lg_sl ([.ref (a 1), .int (nI n), .int (nI i), .int mk9])).length) Slot.unset).toArray = ls at hl ⊢
  have hl : lv_has ls 4 [(0, .ref (a 1)), (1, .int (nI n)), (2, .int (nI i)), (3, .int mk9)] := hl
  refine lv_aload_n hx hb dX4_alter_0 rfl (lv_at hl 0 rfl) ?_
  refine va_get (D := (dC, dI)) (ci := 4) (v := .ref (a 10)) (C := RX4) (T := TX4) (N := 9) hx hb htg inX4 hown hK hP 1 (wC_g1 a k _) rfl 3 (by decide) (htg _ q_37) (fun _ h9 => h9) rfl dX4_alter_1 ?_
  refine lv_iload_n hx hb dX4_alter_4 rfl (lv_at hl 1 rfl) ?_
  refine lv_dup2_11 hx hb dX4_alter_5 rfl rfl ?_
  refine va_lald hx hb hK hP 10 1 (wC_g10 a k _) rfl (vp_in_nI (n := n) (N := 200) hn (by decide)) dX4_alter_6 ?_
  refine wtopl (cu_L u n) (congrArg (fun j9 => cu_L u j9) (nI_clamp (n := n) (Nat.lt_trans (m := 200) hn (by decide)))) ?_
  refine lv_iload_n hx hb dX4_alter_7 rfl (lv_at hl 3 rfl) ?_
  refine lv_i2l hx hb dX4_alter_8 rfl ?_
  refine lv_aload_n hx hb dX4_alter_9 rfl (lv_at hl 0 rfl) ?_
  refine lv_iload_n hx hb dX4_alter_10 rfl (lv_at hl 1 rfl) ?_
  refine lv_iload_n hx hb dX4_alter_11 rfl (lv_at hl 2 rfl) ?_
  refine vp_callSi (W.runV (As := [.int (nI n), .int (nI i)]) (rest := [.long mk9.toInt64, .long (cu_L u n), .int (nI n), .ref (a 10)]) ⟨hx, hb, hml, hown, hts⟩ (c_X4_shiftOf l dC dI a k u n i hn hi) (cwV 2 hts (wG_V wG_c q_217 q_219 p_1 q_2 q_220) rfl rfl rfl (by decide +kernel) ⟨Nat.le_of_ble_eq_true rfl, Nat.le_of_ble_eq_true rfl⟩) (w_roV hK hP (ci := 4) (q0 := 1) rfl (wC_g1 a k _) rfl) rfl rfl hl.1 rfl (lv_room (Nat.le_of_ble_eq_true rfl)) dX4_alter_12 ⟨Nat.le_of_ble_eq_true rfl, Nat.le_of_ble_eq_true rfl⟩) (fun r_1 hr_1 => ?_)
  subst hr_1
  refine lv_lshl hx hb dX4_alter_15 rfl ?_
  refine lv_lxor hx hb dX4_alter_16 ?_
  refine va_last hx hb hK hP hD hS 10 1 (wC_g10 a k _) rfl (vp_in_nI (n := n) (N := 200) hn (by decide)) dX4_alter_17 (fun H locs hP hD hS => ?_)
  have hP := w_pE (wC_s10 a k _ n ((cu_L u n) ^^^ (mk9.toInt64 <<< ((nI (8 * (cu_F u 2 n - 1 - i))).toInt64 &&& 63))) (Nat.lt_trans (m := 200) hn (by decide))) hP
  have hD := w_dE (wC_s10 a k _ n ((cu_L u n) ^^^ (mk9.toInt64 <<< ((nI (8 * (cu_F u 2 n - 1 - i))).toInt64 &&& 63))) (Nat.lt_trans (m := 200) hn (by decide))) hD
  exact W.vret hx hb hr (fun t9 ht9 hW9 => ⟨⟨cs_L u n ((cu_L u n) ^^^ (mk9.toInt64 <<< ((nI (8 * (cu_F u 2 n - 1 - i))).toInt64 &&& 63))), rfl, rfl, by rw [ht9]; exact hP, va_K.moved hW9.alike hK, hD⟩, hS.F ht9⟩) hS.2.2 dX4_alter_18
set_option maxHeartbeats 4000000 in
set_option maxRecDepth 100000 in
theorem c_X3_add (l : Launch) (dC : Nat → ClassId) (dI : Nat → Nat → Nat) (a : Nat → Nat) (k : c_K) (u : c_St) (sz : Nat) (sc : Nat) (df : Int) (hN : cu_N u 1 < 60) (hs : sc < 10) (hd : cu_D u 1 sc = -1 ∨ ∃ j : Nat, j < 60 ∧ cu_D u 1 sc = (j : Int)) : Met l yX3_add wsX3_add ({ frames := 0, cells := 0, slots := 0, locals := 0 }) (va_Pc [.ref (a 2), .int (nI sc), .int (iI df)] (w_mu (dC, dI) vwCl (wC a k u) (tC k) sz)) (va_Qi (fun (r : Int32) (u1 : c_St) => r = nI (cu_N u 1) ∧ ((cu_D u 1 sc = -1 ∧ u1 = cs_N (cs_D (cs_D (cs_F u 5 (cu_N u 1) sc) 0 (cu_N u 1) df) 1 sc (cu_N u 1 : Int)) 1 (cu_N u 1 + 1)) ∨ (cu_D u 1 sc ≠ -1 ∧ u1 = cs_N (cs_D (cs_F u 5 (cu_N u 1) sc) 0 (cu_N u 1) df) 1 (cu_N u 1 + 1)))) (w_at (dC, dI) vwCl (wC a k) (tC k) (va_A (wC a k u) sz)) (va_A (wC a k u) sz)) 0 0 (va_A (wC a k u) sz) := by
  refine Met.ofW (cc := cX3_add) (maxL := 4) (ret := (some .int)) (by decide) rfl ?_
  intro p e s m args below meth c s₁ B hml hv
  obtain ⟨rfl, hsz, hP, hK, hD0⟩ := hv
  have hx := B.exec
  have hb := B.bytes
  have hr := B.returns
  have hts := atoms_spec (ws := wsX3_add) B.pre
  have htg : ∀ w ∈ wG, w.before _ s = true := fun w h => hts w (List.mem_cons_of_mem _ h)
  have hown : s.vm.findClass RX3 = some m.cls := findClass_of_methodNamed B.named
  have hlocks := B.notSynchronized
  subst hsz
  have hD := hD0.self (sz := s.heap.size)
  generalize hAe : va_A (wC a k u) s.heap.size = A at hD ⊢
  have hA : ∀ q : Nat, s.heap.size ≤ q → A q := fun q h => by rw [← hAe]; exact Or.inr h
  have hS : va_S A s.heap s.heap [] := va_S.rf
  have hl := lv_entry ([.ref (a 2), .int (nI sc), .int (iI df)]) (n := 4) (Nat.le_of_ble_eq_true rfl)
  rw [lg_entry_eq]
  generalize (lg_sl ([.ref (a 2), .int (nI sc), .int (iI df)]) ++ List.replicate (4 - (lg_sl ([.ref (a 2), .int (nI sc), .int (iI df)])).length) Slot.unset).toArray = ls at hl ⊢
  have hl : lv_has ls 4 [(0, .ref (a 2)), (1, .int (nI sc)), (2, .int (iI df))] := hl
  rcases hd with hd | ⟨j, hj, hd⟩
  · refine lv_aload_n hx hb dX3_add_0 rfl (lv_at hl 0 rfl) ?_
    refine va_get (D := (dC, dI)) (ci := 3) (v := .int (nI (cu_N u 1))) (C := RX3) (T := TX3) (N := 4) hx hb htg inX3 hown hK hP 2 (wC_g2 a k _) rfl 3 (by decide) (htg _ q_79) (fun _ h9 => h9) rfl dX3_add_1 ?_
    refine lv_istore_n (lv' := [(3, .int (nI (cu_N u 1))), (0, .ref (a 2)), (1, .int (nI sc)), (2, .int (iI df))]) hx hb dX3_add_4 rfl hl (by decide) rfl (fun ls hl => ?_)
    refine lv_aload_n hx hb dX3_add_5 rfl (lv_at hl 1 rfl) ?_
    refine va_get (D := (dC, dI)) (ci := 3) (v := .ref (a 15)) (C := RX3) (T := TX3) (N := 4) hx hb htg inX3 hown hK hP 2 (wC_g2 a k _) rfl 0 (by decide) (htg _ q_75) (fun _ h9 => h9) rfl dX3_add_6 ?_
    refine lv_iload_n hx hb dX3_add_9 rfl (lv_at hl 0 rfl) ?_
    refine lv_iload_n hx hb dX3_add_10 rfl (lv_at hl 2 rfl) ?_
    refine va_iast hx hb hK hP hD hS 15 0 (wC_g15 a k _) rfl (vp_in_nI (n := (cu_N u 1)) (N := 60) hN (by decide)) dX3_add_11 (fun H locs hP hD hS => ?_)
    have hP := w_pE (wC_s15 a k _ (cu_N u 1) sc (Nat.lt_trans (m := 60) hN (by decide))) hP
    have hD := w_dE (wC_s15 a k _ (cu_N u 1) sc (Nat.lt_trans (m := 60) hN (by decide))) hD
    refine lv_aload_n hx hb dX3_add_12 rfl (lv_at hl 1 rfl) ?_
    refine va_get (D := (dC, dI)) (ci := 3) (v := .ref (a 16)) (C := RX3) (T := TX3) (N := 4) hx hb htg inX3 hown hK hP 2 (wC_g2 a k _) rfl 1 (by decide) (htg _ q_76) (fun _ h9 => h9) rfl dX3_add_13 ?_
    refine lv_iload_n hx hb dX3_add_16 rfl (lv_at hl 0 rfl) ?_
    refine lv_iload_n hx hb dX3_add_17 rfl (lv_at hl 3 rfl) ?_
    refine va_iast hx hb hK hP hD hS 16 0 (wC_g16 a k _) rfl (vp_in_nI (n := (cu_N u 1)) (N := 60) hN (by decide)) dX3_add_18 (fun H locs hP hD hS => ?_)
    have hP := w_pE (wC_s16 a k _ (cu_N u 1) df (Nat.lt_trans (m := 60) hN (by decide))) hP
    have hD := w_dE (wC_s16 a k _ (cu_N u 1) df (Nat.lt_trans (m := 60) hN (by decide))) hD
    refine lv_aload_n hx hb dX3_add_19 rfl (lv_at hl 1 rfl) ?_
    refine va_get (D := (dC, dI)) (ci := 3) (v := .ref (a 17)) (C := RX3) (T := TX3) (N := 4) hx hb htg inX3 hown hK hP 2 (wC_g2 a k _) rfl 2 (by decide) (htg _ q_77) (fun _ h9 => h9) rfl dX3_add_20 ?_
    refine lv_iload_n hx hb dX3_add_23 rfl (lv_at hl 2 rfl) ?_
    refine va_iald hx hb hK hP 17 0 (wC_g17 a k _) rfl (vp_in_nI (n := sc) (N := 10) hs (by decide)) dX3_add_24 ?_
    refine wtopi (iI (cu_D (cs_D (cs_F u 5 (cu_N u 1) sc) 0 (cu_N u 1) df) 1 sc)) (congrArg (fun j9 => iI (cu_D (cs_D (cs_F u 5 (cu_N u 1) sc) 0 (cu_N u 1) df) 1 j9)) (nI_clamp (n := sc) (Nat.lt_trans (m := 10) hs (by decide)))) ?_
    refine wtopi (y := -1) (show iI (cu_D u 1 sc) = -1 by rw [hd]; rfl) ?_
    refine lv_iconst (v := (-1)) hx hb dX3_add_25 (by decide) ?_
    refine lv_icmp_ne (tgt := 36) hx hb dX3_add_26 (by decide) (fun c_26 => ?_) (fun c_26 => ?_)
    · exact absurd rfl c_26
    · refine lv_aload_n hx hb dX3_add_29 rfl (lv_at hl 1 rfl) ?_
      refine va_get (D := (dC, dI)) (ci := 3) (v := .ref (a 17)) (C := RX3) (T := TX3) (N := 4) hx hb htg inX3 hown hK hP 2 (wC_g2 a k _) rfl 2 (by decide) (htg _ q_77) (fun _ h9 => h9) rfl dX3_add_30 ?_
      refine lv_iload_n hx hb dX3_add_33 rfl (lv_at hl 2 rfl) ?_
      refine lv_iload_n hx hb dX3_add_34 rfl (lv_at hl 0 rfl) ?_
      refine wtopi (y := iI (cu_N u 1 : Int)) (nI_iI _) ?_
      refine va_iast hx hb hK hP hD hS 17 0 (wC_g17 a k _) rfl (vp_in_nI (n := sc) (N := 10) hs (by decide)) dX3_add_35 (fun H locs hP hD hS => ?_)
      have hP := w_pE (wC_s17 a k _ sc (cu_N u 1 : Int) (Nat.lt_trans (m := 10) hs (by decide))) hP
      have hD := w_dE (wC_s17 a k _ sc (cu_N u 1 : Int) (Nat.lt_trans (m := 10) hs (by decide))) hD
      refine lv_aload_n hx hb dX3_add_36 rfl (lv_at hl 1 rfl) ?_
      refine lv_dup hx hb dX3_add_37 rfl ?_
      refine va_get (D := (dC, dI)) (ci := 3) (v := .int (nI (cu_N (cs_D (cs_D (cs_F u 5 (cu_N u 1) sc) 0 (cu_N u 1) df) 1 sc (cu_N u 1 : Int)) 1))) (C := RX3) (T := TX3) (N := 4) hx hb htg inX3 hown hK hP 2 (wC_g2 a k _) rfl 3 (by decide) (htg _ q_79) (fun _ h9 => h9) rfl dX3_add_38 ?_
      refine lv_iconst (v := 1) hx hb dX3_add_41 (by decide) ?_
      refine lv_iadd hx hb dX3_add_42 ?_
      refine wtopi (y := nI (cu_N u 1 + 1)) (nI_1 (cu_N u 1)) ?_
      refine va_put (D := (dC, dI)) (ci := 3) (v := .int (nI (cu_N u 1 + 1))) (ty := .int) (C := RX3) (T := TX3) (N := 4) hx hb htg inX3 tyX3 tyX3_ok nmX3 hown hK hP hD hS 2 (wC_g2 a k _) rfl 3 (by decide) (htg _ q_79) (fun _ h9 => h9) rfl (by decide +kernel) rfl rfl (Nat.le_of_ble_eq_true rfl) dX3_add_43 (fun H locs hP hD hS => ?_)
      have hP := w_pE (wC_n1 a k _ (cu_N u 1 + 1)) hP
      have hD := w_dE (wC_n1 a k _ (cu_N u 1 + 1)) hD
      refine lv_iload_n hx hb dX3_add_46 rfl (lv_at hl 0 rfl) ?_
      exact W.iret (v := nI (cu_N u 1)) hx hb hr (fun t9 ht9 hW9 => ⟨⟨_, cs_N (cs_D (cs_D (cs_F u 5 (cu_N u 1) sc) 0 (cu_N u 1) df) 1 sc (cu_N u 1 : Int)) 1 (cu_N u 1 + 1), rfl, ⟨rfl, Or.inl ⟨hd, rfl⟩⟩, by rw [ht9]; exact hP, va_K.moved hW9.alike hK, hD⟩, hS.F ht9⟩) hS.2.2 dX3_add_47
  · refine lv_aload_n hx hb dX3_add_0 rfl (lv_at hl 0 rfl) ?_
    refine va_get (D := (dC, dI)) (ci := 3) (v := .int (nI (cu_N u 1))) (C := RX3) (T := TX3) (N := 4) hx hb htg inX3 hown hK hP 2 (wC_g2 a k _) rfl 3 (by decide) (htg _ q_79) (fun _ h9 => h9) rfl dX3_add_1 ?_
    refine lv_istore_n (lv' := [(3, .int (nI (cu_N u 1))), (0, .ref (a 2)), (1, .int (nI sc)), (2, .int (iI df))]) hx hb dX3_add_4 rfl hl (by decide) rfl (fun ls hl => ?_)
    refine lv_aload_n hx hb dX3_add_5 rfl (lv_at hl 1 rfl) ?_
    refine va_get (D := (dC, dI)) (ci := 3) (v := .ref (a 15)) (C := RX3) (T := TX3) (N := 4) hx hb htg inX3 hown hK hP 2 (wC_g2 a k _) rfl 0 (by decide) (htg _ q_75) (fun _ h9 => h9) rfl dX3_add_6 ?_
    refine lv_iload_n hx hb dX3_add_9 rfl (lv_at hl 0 rfl) ?_
    refine lv_iload_n hx hb dX3_add_10 rfl (lv_at hl 2 rfl) ?_
    refine va_iast hx hb hK hP hD hS 15 0 (wC_g15 a k _) rfl (vp_in_nI (n := (cu_N u 1)) (N := 60) hN (by decide)) dX3_add_11 (fun H locs hP hD hS => ?_)
    have hP := w_pE (wC_s15 a k _ (cu_N u 1) sc (Nat.lt_trans (m := 60) hN (by decide))) hP
    have hD := w_dE (wC_s15 a k _ (cu_N u 1) sc (Nat.lt_trans (m := 60) hN (by decide))) hD
    refine lv_aload_n hx hb dX3_add_12 rfl (lv_at hl 1 rfl) ?_
    refine va_get (D := (dC, dI)) (ci := 3) (v := .ref (a 16)) (C := RX3) (T := TX3) (N := 4) hx hb htg inX3 hown hK hP 2 (wC_g2 a k _) rfl 1 (by decide) (htg _ q_76) (fun _ h9 => h9) rfl dX3_add_13 ?_
    refine lv_iload_n hx hb dX3_add_16 rfl (lv_at hl 0 rfl) ?_
    refine lv_iload_n hx hb dX3_add_17 rfl (lv_at hl 3 rfl) ?_
    refine va_iast hx hb hK hP hD hS 16 0 (wC_g16 a k _) rfl (vp_in_nI (n := (cu_N u 1)) (N := 60) hN (by decide)) dX3_add_18 (fun H locs hP hD hS => ?_)
    have hP := w_pE (wC_s16 a k _ (cu_N u 1) df (Nat.lt_trans (m := 60) hN (by decide))) hP
    have hD := w_dE (wC_s16 a k _ (cu_N u 1) df (Nat.lt_trans (m := 60) hN (by decide))) hD
    refine lv_aload_n hx hb dX3_add_19 rfl (lv_at hl 1 rfl) ?_
    refine va_get (D := (dC, dI)) (ci := 3) (v := .ref (a 17)) (C := RX3) (T := TX3) (N := 4) hx hb htg inX3 hown hK hP 2 (wC_g2 a k _) rfl 2 (by decide) (htg _ q_77) (fun _ h9 => h9) rfl dX3_add_20 ?_
    refine lv_iload_n hx hb dX3_add_23 rfl (lv_at hl 2 rfl) ?_
    refine va_iald hx hb hK hP 17 0 (wC_g17 a k _) rfl (vp_in_nI (n := sc) (N := 10) hs (by decide)) dX3_add_24 ?_
    refine wtopi (iI (cu_D (cs_D (cs_F u 5 (cu_N u 1) sc) 0 (cu_N u 1) df) 1 sc)) (congrArg (fun j9 => iI (cu_D (cs_D (cs_F u 5 (cu_N u 1) sc) 0 (cu_N u 1) df) 1 j9)) (nI_clamp (n := sc) (Nat.lt_trans (m := 10) hs (by decide)))) ?_
    refine wtopi (y := nI j) (show iI (cu_D u 1 sc) = nI j by rw [hd, nI_iI]) ?_
    refine lv_iconst (v := (-1)) hx hb dX3_add_25 (by decide) ?_
    refine lv_icmp_ne (tgt := 36) hx hb dX3_add_26 (by decide) (fun c_26 => ?_) (fun c_26 => ?_)
    · refine lv_aload_n hx hb dX3_add_36 rfl (lv_at hl 1 rfl) ?_
      refine lv_dup hx hb dX3_add_37 rfl ?_
      refine va_get (D := (dC, dI)) (ci := 3) (v := .int (nI (cu_N (cs_D (cs_F u 5 (cu_N u 1) sc) 0 (cu_N u 1) df) 1))) (C := RX3) (T := TX3) (N := 4) hx hb htg inX3 hown hK hP 2 (wC_g2 a k _) rfl 3 (by decide) (htg _ q_79) (fun _ h9 => h9) rfl dX3_add_38 ?_
      refine lv_iconst (v := 1) hx hb dX3_add_41 (by decide) ?_
      refine lv_iadd hx hb dX3_add_42 ?_
      refine wtopi (y := nI (cu_N u 1 + 1)) (nI_1 (cu_N u 1)) ?_
      refine va_put (D := (dC, dI)) (ci := 3) (v := .int (nI (cu_N u 1 + 1))) (ty := .int) (C := RX3) (T := TX3) (N := 4) hx hb htg inX3 tyX3 tyX3_ok nmX3 hown hK hP hD hS 2 (wC_g2 a k _) rfl 3 (by decide) (htg _ q_79) (fun _ h9 => h9) rfl (by decide +kernel) rfl rfl (Nat.le_of_ble_eq_true rfl) dX3_add_43 (fun H locs hP hD hS => ?_)
      have hP := w_pE (wC_n1 a k _ (cu_N u 1 + 1)) hP
      have hD := w_dE (wC_n1 a k _ (cu_N u 1 + 1)) hD
      refine lv_iload_n hx hb dX3_add_46 rfl (lv_at hl 0 rfl) ?_
      exact W.iret (v := nI (cu_N u 1)) hx hb hr (fun t9 ht9 hW9 => ⟨⟨_, cs_N (cs_D (cs_F u 5 (cu_N u 1) sc) 0 (cu_N u 1) df) 1 (cu_N u 1 + 1), rfl, ⟨rfl, Or.inr ⟨by omega, rfl⟩⟩, by rw [ht9]; exact hP, va_K.moved hW9.alike hK, hD⟩, hS.F ht9⟩) hS.2.2 dX3_add_47
    · exact absurd c_26 (nI_m1 (by omega))
set_option maxHeartbeats 4000000 in
set_option maxRecDepth 100000 in
theorem c_X1_settle (l : Launch) (dC : Nat → ClassId) (dI : Nat → Nat → Nat) (a : Nat → Nat) (k : c_K) (u : c_St) (sz : Nat) (h : c_ok u) (pl : Nat) (hp : pl < 200) (ho : ∀ j, j ≤ pl → cu_F u 6 j < cu_N u 0) : Met l yX1_settle wsX1_settle ({ frames := 3, cells := 0, slots := 0, locals := 67 }) (va_Pc [.ref (a 3), .int (nI pl)] (w_mu (dC, dI) vwCl (wC a k u) (tC k) sz)) (va_Qv (fun (u1 : c_St) => ∃ t : Nat, t ≤ pl ∧ u1 = cs_F (c_shift u t pl) 6 t (cu_F u 6 pl) ∧ (t = 0 ∨ c_lt u (cu_F u 6 pl) (cu_F u 6 (t - 1)) = false) ∧ ∀ j, t ≤ j → j < pl → c_lt u (cu_F u 6 pl) (cu_F u 6 j) = true) (w_at (dC, dI) vwCl (wC a k) (tC k) (va_A (wC a k u) sz)) (va_A (wC a k u) sz)) 0 0 (va_A (wC a k u) sz) := by
  refine Met.ofW (cc := cX1_settle) (maxL := 4) (ret := none) (by decide) rfl ?_
  intro p e s m args below meth c s₁ B hml hv
  obtain ⟨rfl, hsz, hP, hK, hD0⟩ := hv
  have hx := B.exec
  have hb := B.bytes
  have hr := B.returns
  have hts := atoms_spec (ws := wsX1_settle) B.pre
  have htg : ∀ w ∈ wG, w.before _ s = true := fun w h => hts w (List.mem_cons_of_mem _ h)
  have hown : s.vm.findClass RX1 = some m.cls := findClass_of_methodNamed B.named
  have hlocks := B.notSynchronized
  subst hsz
  have hD := hD0.self (sz := s.heap.size)
  generalize hAe : va_A (wC a k u) s.heap.size = A at hD ⊢
  have hA : ∀ q : Nat, s.heap.size ≤ q → A q := fun q h => by rw [← hAe]; exact Or.inr h
  have hS : va_S A s.heap s.heap [] := va_S.rf
  have hl := lv_entry ([.ref (a 3), .int (nI pl)]) (n := 4) (Nat.le_of_ble_eq_true rfl)
  rw [lg_entry_eq]
  generalize (lg_sl ([.ref (a 3), .int (nI pl)]) ++ List.replicate (4 - (lg_sl ([.ref (a 3), .int (nI pl)])).length) Slot.unset).toArray = ls at hl ⊢
  have hl : lv_has ls 4 [(0, .ref (a 3)), (1, .int (nI pl))] := hl
  refine lv_aload_n hx hb dX1_settle_0 rfl (lv_at hl 0 rfl) ?_
  refine va_get (D := (dC, dI)) (ci := 1) (v := .ref (a 18)) (C := RX1) (T := TX1) (N := 4) hx hb htg inX1 hown hK hP 3 (wC_g3 a k _) rfl 0 (by decide) (htg _ q_96) (fun _ h9 => h9) rfl dX1_settle_1 ?_
  refine lv_iload_n hx hb dX1_settle_4 rfl (lv_at hl 1 rfl) ?_
  refine va_iald hx hb hK hP 18 0 (wC_g18 a k _) rfl (vp_in_nI (n := pl) (N := 200) hp (by decide)) dX1_settle_5 ?_
  refine wtopi (nI (cu_F u 6 pl)) (congrArg (fun j9 => nI (cu_F u 6 j9)) (nI_clamp (n := pl) (Nat.lt_trans (m := 200) hp (by decide)))) ?_
  refine lv_istore_n (lv' := [(2, .int (nI (cu_F u 6 pl))), (0, .ref (a 3)), (1, .int (nI pl))]) hx hb dX1_settle_6 rfl hl (by decide) rfl (fun ls hl => ?_)
  refine lv_iload_n hx hb dX1_settle_7 rfl (lv_at hl 2 rfl) ?_
  refine lv_istore_n (lv' := [(3, .int (nI pl)), (2, .int (nI (cu_F u 6 pl))), (0, .ref (a 3)), (1, .int (nI pl))]) hx hb dX1_settle_8 rfl hl (by decide) rfl (fun ls hl => ?_)
  have hP := w_pE (congrArg (wC a k) (c_shift_0 u pl).symm) hP
  have hD := w_dE (congrArg (wC a k) (c_shift_0 u pl).symm) hD
  refine w_loopH (fun t : Nat => t) (fun t H locs ls => t ≤ pl ∧ (∀ j, t ≤ j → j < pl → c_lt u (cu_F u 6 pl) (cu_F u 6 j) = true) ∧ va_P (dC, dI) vwCl (wC a k (c_shift u t pl)) H ∧ va_D A (wC a k (c_shift u t pl)) ∧ va_S A s.heap H locs ∧ lv_has ls 4 [(0, .ref (a 3)), (2, .int (nI (cu_F u 6 pl))), (3, .int (nI t))]) ?_ pl _ _ ls ⟨Nat.le_refl _, fun j h1 h2 => absurd h2 (by omega), hP, hD, hS, lv_sub hl [2, 1, 0] rfl⟩
  clear hP hD hS hl
  intro t H locs ls hI ih
  obtain ⟨ht, hlt, hP, hD, hS, hl⟩ := hI
  refine lv_iload_n hx hb dX1_settle_9 rfl (lv_at hl 2 rfl) ?_
  refine iz_le (a := ((t : Nat) : Int)) (tgt := 49) hx hb (by omega) (by omega) (nI_iI _) dX1_settle_10 (by decide) (fun c_10 => ?_) (fun c_10 => ?_)
  · have c_10 : t = 0 := by omega
    refine lv_aload_n hx hb dX1_settle_49 rfl (lv_at hl 0 rfl) ?_
    refine va_get (D := (dC, dI)) (ci := 1) (v := .ref (a 18)) (C := RX1) (T := TX1) (N := 4) hx hb htg inX1 hown hK hP 3 (wC_g3 a k _) rfl 0 (by decide) (htg _ q_96) (fun _ h9 => h9) rfl dX1_settle_50 ?_
    refine lv_iload_n hx hb dX1_settle_53 rfl (lv_at hl 2 rfl) ?_
    refine lv_iload_n hx hb dX1_settle_54 rfl (lv_at hl 1 rfl) ?_
    refine va_iast hx hb hK hP hD hS 18 0 (wC_g18 a k _) rfl (vp_in_nI (n := t) (N := 200) (by omega) (by decide)) dX1_settle_55 (fun H locs hP hD hS => ?_)
    have hP := w_pE (wC_s18 a k _ t (cu_F u 6 pl) (Nat.lt_trans (m := 200) (by omega) (by decide))) hP
    have hD := w_dE (wC_s18 a k _ t (cu_F u 6 pl) (Nat.lt_trans (m := 200) (by omega) (by decide))) hD
    exact W.vret hx hb hr (fun t9 ht9 hW9 => ⟨⟨cs_F (c_shift u t pl) 6 t (cu_F u 6 pl), rfl, ⟨t, ht, rfl, Or.inl c_10, hlt⟩, by rw [ht9]; exact hP, va_K.moved hW9.alike hK, hD⟩, hS.F ht9⟩) hS.2.2 dX1_settle_56
  · have c_10 : 0 < t := by omega
    have e21 : nI t - 1 = nI (t - 1) := pk_sub (a := t) (b := 1) (by omega)
    have e22 : cu_F (c_shift u t pl) 6 (t - 1) = cu_F u 6 (t - 1) := by
      show (if t < t - 1 ∧ t - 1 ≤ pl then _ else _) = _
      rw [if_neg (by omega)]
    refine lv_aload_n hx hb dX1_settle_13 rfl (lv_at hl 0 rfl) ?_
    refine lv_iload_n hx hb dX1_settle_14 rfl (lv_at hl 1 rfl) ?_
    refine lv_aload_n hx hb dX1_settle_15 rfl (lv_at hl 0 rfl) ?_
    refine va_get (D := (dC, dI)) (ci := 1) (v := .ref (a 18)) (C := RX1) (T := TX1) (N := 4) hx hb htg inX1 hown hK hP 3 (wC_g3 a k _) rfl 0 (by decide) (htg _ q_96) (fun _ h9 => h9) rfl dX1_settle_16 ?_
    refine lv_iload_n hx hb dX1_settle_19 rfl (lv_at hl 2 rfl) ?_
    refine lv_iconst (v := 1) hx hb dX1_settle_20 (by decide) ?_
    refine lv_isub hx hb dX1_settle_21 ?_
    refine wtopi (y := nI (t - 1)) e21 ?_
    refine va_iald hx hb hK hP 18 0 (wC_g18 a k _) rfl (vp_in_nI (n := (t - 1)) (N := 200) (by omega) (by decide)) dX1_settle_22 ?_
    refine wtopi (nI (cu_F (c_shift u t pl) 6 (t - 1))) (congrArg (fun j9 => nI (cu_F (c_shift u t pl) 6 j9)) (nI_clamp (n := (t - 1)) (Nat.lt_trans (m := 200) (by omega) (by decide)))) ?_
    refine wtopi (y := nI (cu_F u 6 (t - 1))) (congrArg nI e22) ?_
    refine vp_callSi (W.runV (As := [.int (nI (cu_F u 6 pl)), .int (nI (cu_F u 6 (t - 1)))]) (rest := []) ⟨hx, hb, hml, hown, hts⟩ (c_X1_isBefore l dC dI a k (c_shift u t pl) h (cu_F u 6 pl) (cu_F u 6 (t - 1)) (ho pl (Nat.le_refl _)) (ho (t - 1) (by omega))) (cwV 2 hts (wG_V wG_c q_371 q_373 p_4 q_4 q_374) rfl rfl rfl (by decide +kernel) ⟨Nat.le_of_ble_eq_true rfl, Nat.le_of_ble_eq_true rfl⟩) (w_roV hK hP (ci := 1) (q0 := 3) rfl (wC_g3 a k _) rfl) rfl rfl hl.1 rfl (lv_room (Nat.le_of_ble_eq_true rfl)) dX1_settle_23 ⟨Nat.le_of_ble_eq_true rfl, Nat.le_of_ble_eq_true rfl⟩) (fun r_1 hr_1 => ?_)
    subst hr_1
    refine bz_eq (a := (c_lt u (cu_F u 6 pl) (cu_F u 6 (t - 1)))) (tgt := 49) hx hb dX1_settle_26 (by decide) (fun c_26 => ?_) (fun c_26 => ?_)
    · refine lv_aload_n hx hb dX1_settle_49 rfl (lv_at hl 0 rfl) ?_
      refine va_get (D := (dC, dI)) (ci := 1) (v := .ref (a 18)) (C := RX1) (T := TX1) (N := 4) hx hb htg inX1 hown hK hP 3 (wC_g3 a k _) rfl 0 (by decide) (htg _ q_96) (fun _ h9 => h9) rfl dX1_settle_50 ?_
      refine lv_iload_n hx hb dX1_settle_53 rfl (lv_at hl 2 rfl) ?_
      refine lv_iload_n hx hb dX1_settle_54 rfl (lv_at hl 1 rfl) ?_
      refine va_iast hx hb hK hP hD hS 18 0 (wC_g18 a k _) rfl (vp_in_nI (n := t) (N := 200) (by omega) (by decide)) dX1_settle_55 (fun H locs hP hD hS => ?_)
      have hP := w_pE (wC_s18 a k _ t (cu_F u 6 pl) (Nat.lt_trans (m := 200) (by omega) (by decide))) hP
      have hD := w_dE (wC_s18 a k _ t (cu_F u 6 pl) (Nat.lt_trans (m := 200) (by omega) (by decide))) hD
      exact W.vret hx hb hr (fun t9 ht9 hW9 => ⟨⟨cs_F (c_shift u t pl) 6 t (cu_F u 6 pl), rfl, ⟨t, ht, rfl, Or.inr c_26, hlt⟩, by rw [ht9]; exact hP, va_K.moved hW9.alike hK, hD⟩, hS.F ht9⟩) hS.2.2 dX1_settle_56
    · refine lv_aload_n hx hb dX1_settle_29 rfl (lv_at hl 0 rfl) ?_
      refine va_get (D := (dC, dI)) (ci := 1) (v := .ref (a 18)) (C := RX1) (T := TX1) (N := 4) hx hb htg inX1 hown hK hP 3 (wC_g3 a k _) rfl 0 (by decide) (htg _ q_96) (fun _ h9 => h9) rfl dX1_settle_30 ?_
      refine lv_iload_n hx hb dX1_settle_33 rfl (lv_at hl 2 rfl) ?_
      refine lv_aload_n hx hb dX1_settle_34 rfl (lv_at hl 0 rfl) ?_
      refine va_get (D := (dC, dI)) (ci := 1) (v := .ref (a 18)) (C := RX1) (T := TX1) (N := 4) hx hb htg inX1 hown hK hP 3 (wC_g3 a k _) rfl 0 (by decide) (htg _ q_96) (fun _ h9 => h9) rfl dX1_settle_35 ?_
      refine lv_iload_n hx hb dX1_settle_38 rfl (lv_at hl 2 rfl) ?_
      refine lv_iconst (v := 1) hx hb dX1_settle_39 (by decide) ?_
      refine lv_isub hx hb dX1_settle_40 ?_
      refine wtopi (y := nI (t - 1)) e21 ?_
      refine va_iald hx hb hK hP 18 0 (wC_g18 a k _) rfl (vp_in_nI (n := (t - 1)) (N := 200) (by omega) (by decide)) dX1_settle_41 ?_
      refine wtopi (nI (cu_F (c_shift u t pl) 6 (t - 1))) (congrArg (fun j9 => nI (cu_F (c_shift u t pl) 6 j9)) (nI_clamp (n := (t - 1)) (Nat.lt_trans (m := 200) (by omega) (by decide)))) ?_
      refine wtopi (y := nI (cu_F u 6 (t - 1))) (congrArg nI e22) ?_
      refine va_iast hx hb hK hP hD hS 18 0 (wC_g18 a k _) rfl (vp_in_nI (n := t) (N := 200) (by omega) (by decide)) dX1_settle_42 (fun H locs hP hD hS => ?_)
      have hP := w_pE (wC_s18 a k _ t (cu_F u 6 (t - 1)) (Nat.lt_trans (m := 200) (by omega) (by decide))) hP
      have hD := w_dE (wC_s18 a k _ t (cu_F u 6 (t - 1)) (Nat.lt_trans (m := 200) (by omega) (by decide))) hD
      refine lv_iinc (v := nI (t - 1)) (lv' := [(3, .int (nI (t - 1))), (0, .ref (a 3)), (2, .int (nI (cu_F u 6 pl)))]) hx hb dX1_settle_43 hl (k := 2) rfl (show nI t + (-1) = nI (t - 1) from by rw [show t = t - 1 + 1 by omega]; exact pk_m1 (t - 1)) (by decide) rfl (fun ls hl => ?_)
      refine lv_goto (tgt := 9) hx hb dX1_settle_46 (by decide) ?_
      have hP := w_pE (congrArg (wC a k) (c_shift_s u (t := t) (pl := pl) c_10 ht)) hP
      have hD := w_dE (congrArg (wC a k) (c_shift_s u (t := t) (pl := pl) c_10 ht)) hD
      refine ih (t - 1) H locs ls (by omega) ⟨by omega, fun j h1 h2 => ?_, hP, hD, hS, lv_sub hl [1, 2, 0] rfl⟩
      by_cases h3 : j = t - 1
      · rw [h3]; exact c_26
      · exact hlt j (by omega) h2
set_option maxHeartbeats 4000000 in
set_option maxRecDepth 100000 in
theorem c_X1_insert (l : Launch) (dC : Nat → ClassId) (dI : Nat → Nat → Nat) (a : Nat → Nat) (k : c_K) (u : c_St) (sz : Nat) (h : c_ok u) (n : Nat) (hn : n < cu_N u 0) (hp : cu_N u 2 < 200) (ho : ∀ j, j < cu_N u 2 → cu_F u 6 j < cu_N u 0) : Met l yX1_insert wsX1_insert ({ frames := 4, cells := 0, slots := 0, locals := 90 }) (va_Pc [.ref (a 3), .int (nI n)] (w_mu (dC, dI) vwCl (wC a k u) (tC k) sz)) (va_Qv (fun (u1 : c_St) => ∃ t : Nat, t ≤ cu_N u 2 ∧ u1 = cs_N (cs_F (c_shift (cs_F u 6 (cu_N u 2) n) t (cu_N u 2)) 6 t n) 2 (cu_N u 2 + 1) ∧ (t = 0 ∨ c_lt u n (cu_F u 6 (t - 1)) = false) ∧ ∀ j, t ≤ j → j < cu_N u 2 → c_lt u n (cu_F u 6 j) = true) (w_at (dC, dI) vwCl (wC a k) (tC k) (va_A (wC a k u) sz)) (va_A (wC a k u) sz)) 0 0 (va_A (wC a k u) sz) := by
  refine Met.ofW (cc := cX1_insert) (maxL := 2) (ret := none) (by decide) rfl ?_
  intro p e s m args below meth c s₁ B hml hv
  obtain ⟨rfl, hsz, hP, hK, hD0⟩ := hv
  have hx := B.exec
  have hb := B.bytes
  have hr := B.returns
  have hts := atoms_spec (ws := wsX1_insert) B.pre
  have htg : ∀ w ∈ wG, w.before _ s = true := fun w h => hts w (List.mem_cons_of_mem _ h)
  have hown : s.vm.findClass RX1 = some m.cls := findClass_of_methodNamed B.named
  have hlocks := B.notSynchronized
  subst hsz
  have hD := hD0.self (sz := s.heap.size)
  generalize hAe : va_A (wC a k u) s.heap.size = A at hD ⊢
  have hA : ∀ q : Nat, s.heap.size ≤ q → A q := fun q h => by rw [← hAe]; exact Or.inr h
  have hS : va_S A s.heap s.heap [] := va_S.rf
  have hl := lv_entry ([.ref (a 3), .int (nI n)]) (n := 2) (Nat.le_of_ble_eq_true rfl)
  rw [lg_entry_eq]
  generalize (lg_sl ([.ref (a 3), .int (nI n)]) ++ List.replicate (2 - (lg_sl ([.ref (a 3), .int (nI n)])).length) Slot.unset).toArray = ls at hl ⊢
  have hl : lv_has ls 2 [(0, .ref (a 3)), (1, .int (nI n))] := hl
  refine lv_aload_n hx hb dX1_insert_0 rfl (lv_at hl 0 rfl) ?_
  refine va_get (D := (dC, dI)) (ci := 1) (v := .ref (a 18)) (C := RX1) (T := TX1) (N := 4) hx hb htg inX1 hown hK hP 3 (wC_g3 a k _) rfl 0 (by decide) (htg _ q_96) (fun _ h9 => h9) rfl dX1_insert_1 ?_
  refine lv_aload_n hx hb dX1_insert_4 rfl (lv_at hl 0 rfl) ?_
  refine va_get (D := (dC, dI)) (ci := 1) (v := .int (nI (cu_N u 2))) (C := RX1) (T := TX1) (N := 4) hx hb htg inX1 hown hK hP 3 (wC_g3 a k _) rfl 1 (by decide) (htg _ q_98) (fun _ h9 => h9) rfl dX1_insert_5 ?_
  refine lv_iload_n hx hb dX1_insert_8 rfl (lv_at hl 1 rfl) ?_
  refine va_iast hx hb hK hP hD hS 18 0 (wC_g18 a k _) rfl (vp_in_nI (n := (cu_N u 2)) (N := 200) hp (by decide)) dX1_insert_9 (fun H locs hP hD hS => ?_)
  have hP := w_pE (wC_s18 a k _ (cu_N u 2) n (Nat.lt_trans (m := 200) hp (by decide))) hP
  have hD := w_dE (wC_s18 a k _ (cu_N u 2) n (Nat.lt_trans (m := 200) hp (by decide))) hD
  refine lv_aload_n hx hb dX1_insert_10 rfl (lv_at hl 0 rfl) ?_
  refine lv_aload_n hx hb dX1_insert_11 rfl (lv_at hl 0 rfl) ?_
  refine va_get (D := (dC, dI)) (ci := 1) (v := .int (nI (cu_N (cs_F u 6 (cu_N u 2) n) 2))) (C := RX1) (T := TX1) (N := 4) hx hb htg inX1 hown hK hP 3 (wC_g3 a k _) rfl 1 (by decide) (htg _ q_98) (fun _ h9 => h9) rfl dX1_insert_12 ?_
  have e6 : cu_F (cs_F u 6 (cu_N u 2) n) 6 (cu_N u 2) = n := by rw [cx_FF, if_pos rfl, if_pos rfl]
  have e7 : ∀ j, j ≠ cu_N u 2 → cu_F (cs_F u 6 (cu_N u 2) n) 6 j = cu_F u 6 j := fun j hj => by rw [cx_FF, if_pos rfl, if_neg hj]
  have ho6 : ∀ j, j ≤ cu_N u 2 → cu_F (cs_F u 6 (cu_N u 2) n) 6 j < cu_N u 0 := by
    intro j hj
    by_cases q : j = cu_N u 2
    · rw [q, e6]; exact hn
    · rw [e7 j q]; exact ho j (by omega)
  refine w_calv (w := wC a k) (va_runV (As := [.int (nI (cu_N (cs_F u 6 (cu_N u 2) n) 2))]) (rest := []) ⟨hx, hb, hml, hown, hts⟩ (c_X1_settle l dC dI a k (cs_F u 6 (cu_N u 2) n) _ h (cu_N u 2) hp ho6) (cwV 1 hts (wG_V wG_c q_367 q_369 p_3 q_4 q_370) rfl rfl rfl (by decide +kernel) ⟨Nat.le_of_ble_eq_true rfl, Nat.le_of_ble_eq_true rfl⟩) (w_muV hK hP hD (ci := 1) (q0 := 3) rfl (wC_g3 a k _) rfl) rfl rfl hl.1 rfl (lv_room (Nat.le_of_ble_eq_true rfl)) dX1_insert_15 ⟨Nat.le_of_ble_eq_true rfl, Nat.le_of_ble_eq_true rfl⟩) hD hS hA (fun u_1 H locs hq_1 hP hD hS => ?_)
  obtain ⟨t, ht, eu, h1, h2⟩ := hq_1
  rw [e6] at eu h1 h2
  have h3 : t = 0 ∨ c_lt u n (cu_F u 6 (t - 1)) = false := by
    by_cases z : t = 0
    · exact Or.inl z
    · rcases h1 with q | q
      · exact absurd q z
      · rw [e7 (t - 1) (by omega)] at q
        exact Or.inr q
  have h4 : ∀ j, t ≤ j → j < cu_N u 2 → c_lt u n (cu_F u 6 j) = true := by
    intro j q1 q2
    have q3 := h2 j q1 q2
    rw [e7 j (by omega)] at q3
    exact q3
  subst eu
  refine lv_aload_n hx hb dX1_insert_18 rfl (lv_at hl 0 rfl) ?_
  refine lv_dup hx hb dX1_insert_19 rfl ?_
  refine va_get (D := (dC, dI)) (ci := 1) (v := .int (nI (cu_N (cs_F (c_shift (cs_F u 6 (cu_N u 2) n) t (cu_N u 2)) 6 t n) 2))) (C := RX1) (T := TX1) (N := 4) hx hb htg inX1 hown hK hP 3 (wC_g3 a k _) rfl 1 (by decide) (htg _ q_98) (fun _ h9 => h9) rfl dX1_insert_20 ?_
  refine lv_iconst (v := 1) hx hb dX1_insert_23 (by decide) ?_
  refine lv_iadd hx hb dX1_insert_24 ?_
  refine wtopi (y := nI (cu_N u 2 + 1)) (nI_1 (cu_N u 2)) ?_
  refine va_put (D := (dC, dI)) (ci := 1) (v := .int (nI (cu_N u 2 + 1))) (ty := .int) (C := RX1) (T := TX1) (N := 4) hx hb htg inX1 tyX1 tyX1_ok nmX1 hown hK hP hD hS 3 (wC_g3 a k _) rfl 1 (by decide) (htg _ q_98) (fun _ h9 => h9) rfl (by decide +kernel) rfl rfl (Nat.le_of_ble_eq_true rfl) dX1_insert_25 (fun H locs hP hD hS => ?_)
  have hP := w_pE (wC_n2 a k _ (cu_N u 2 + 1)) hP
  have hD := w_dE (wC_n2 a k _ (cu_N u 2 + 1)) hD
  exact W.vret hx hb hr (fun t9 ht9 hW9 => ⟨⟨cs_N (cs_F (c_shift (cs_F u 6 (cu_N u 2) n) t (cu_N u 2)) 6 t n) 2 (cu_N u 2 + 1), rfl, ⟨t, ht, rfl, h3, h4⟩, by rw [ht9]; exact hP, va_K.moved hW9.alike hK, hD⟩, hS.F ht9⟩) hS.2.2 dX1_insert_28
set_option maxHeartbeats 4000000 in
set_option maxRecDepth 100000 in
theorem c_X1_remove (l : Launch) (dC : Nat → ClassId) (dI : Nat → Nat → Nat) (a : Nat → Nat) (k : c_K) (u : c_St) (sz : Nat) (n t : Nat) (hN : n < 200) (hp : cu_N u 2 ≤ 200) (ho : ∀ j, j < cu_N u 2 → cu_F u 6 j < 200) (ht : t < cu_N u 2) (he : cu_F u 6 t = n) (hu : ∀ j, j < cu_N u 2 → j ≠ t → cu_F u 6 j ≠ n) : Met l yX1_remove wsX1_remove ({ frames := 0, cells := 0, slots := 0, locals := 0 }) (va_Pc [.ref (a 3), .int (nI n)] (w_mu (dC, dI) vwCl (wC a k u) (tC k) sz)) (va_Qv (fun (u1 : c_St) => u1 = cs_N (c_cut u t (cu_N u 2)) 2 (cu_N u 2 - 1)) (w_at (dC, dI) vwCl (wC a k) (tC k) (va_A (wC a k u) sz)) (va_A (wC a k u) sz)) 0 0 (va_A (wC a k u) sz) := by
  refine Met.ofW (cc := cX1_remove) (maxL := 4) (ret := none) (by decide) rfl ?_
  intro p e s m args below meth c s₁ B hml hv
  obtain ⟨rfl, hsz, hP, hK, hD0⟩ := hv
  have hx := B.exec
  have hb := B.bytes
  have hr := B.returns
  have hts := atoms_spec (ws := wsX1_remove) B.pre
  have htg : ∀ w ∈ wG, w.before _ s = true := fun w h => hts w (List.mem_cons_of_mem _ h)
  have hown : s.vm.findClass RX1 = some m.cls := findClass_of_methodNamed B.named
  have hlocks := B.notSynchronized
  subst hsz
  have hD := hD0.self (sz := s.heap.size)
  generalize hAe : va_A (wC a k u) s.heap.size = A at hD ⊢
  have hA : ∀ q : Nat, s.heap.size ≤ q → A q := fun q h => by rw [← hAe]; exact Or.inr h
  have hS : va_S A s.heap s.heap [] := va_S.rf
  have hl := lv_entry ([.ref (a 3), .int (nI n)]) (n := 4) (Nat.le_of_ble_eq_true rfl)
  rw [lg_entry_eq]
  generalize (lg_sl ([.ref (a 3), .int (nI n)]) ++ List.replicate (4 - (lg_sl ([.ref (a 3), .int (nI n)])).length) Slot.unset).toArray = ls at hl ⊢
  have hl : lv_has ls 4 [(0, .ref (a 3)), (1, .int (nI n))] := hl
  refine lv_iconst (v := 0) hx hb dX1_remove_0 (by decide) ?_
  refine lv_istore_n (lv' := [(2, .int 0), (0, .ref (a 3)), (1, .int (nI n))]) hx hb dX1_remove_1 rfl hl (by decide) rfl (fun ls hl => ?_)
  refine lv_iconst (v := 0) hx hb dX1_remove_2 (by decide) ?_
  refine lv_istore_n (lv' := [(3, .int 0), (2, .int 0), (0, .ref (a 3)), (1, .int (nI n))]) hx hb dX1_remove_3 rfl hl (by decide) rfl (fun ls hl => ?_)
  have hP := w_pE (congrArg (wC a k) (c_cut_0 u (t := t) (k := 0) (by omega)).symm) hP
  have hD := w_dE (congrArg (wC a k) (c_cut_0 u (t := t) (k := 0) (by omega)).symm) hD
  refine w_loopH (fun j : Nat => cu_N u 2 - j) (fun j H locs ls => j ≤ cu_N u 2 ∧ va_P (dC, dI) vwCl (wC a k (c_cut u t j)) H ∧ va_D A (wC a k (c_cut u t j)) ∧ va_S A s.heap H locs ∧ lv_has ls 4 [(0, .ref (a 3)), (1, .int (nI n)), (2, .int (nI (if j ≤ t then j else j - 1))), (3, .int (nI j))]) ?_ 0 _ _ ls ⟨Nat.zero_le _, hP, hD, hS, lv_sub hl [2, 3, 1, 0] (by rw [if_pos (Nat.zero_le _)]; rfl)⟩
  clear hP hD hS hl
  intro j H locs ls hI ih
  obtain ⟨hj, hP, hD, hS, hl⟩ := hI
  refine lv_iload_n hx hb dX1_remove_4 rfl (lv_at hl 3 rfl) ?_
  refine lv_aload_n hx hb dX1_remove_5 rfl (lv_at hl 0 rfl) ?_
  refine va_get (D := (dC, dI)) (ci := 1) (v := .int (nI (cu_N (c_cut u t j) 2))) (C := RX1) (T := TX1) (N := 4) hx hb htg inX1 hown hK hP 3 (wC_g3 a k _) rfl 1 (by decide) (htg _ q_98) (fun _ h9 => h9) rfl dX1_remove_6 ?_
  refine wtopi (y := nI (cu_N u 2)) rfl ?_
  refine nb_ge (a := j) (b := (cu_N u 2)) (tgt := 43) hx hb (by omega) (by omega) rfl rfl dX1_remove_9 (by decide) (fun c_9 => ?_) (fun c_9 => ?_)
  · have ej : j = cu_N u 2 := by have : cu_N u 2 ≤ j := c_9; omega
    have el : (if j ≤ t then j else j - 1) = cu_N u 2 - 1 := by rw [if_neg (by omega)]; omega
    refine lv_aload_n hx hb dX1_remove_43 rfl (lv_at hl 0 rfl) ?_
    refine lv_iload_n hx hb dX1_remove_44 rfl (lv_at hl 2 rfl) ?_
    refine wtopi (y := nI (cu_N u 2 - 1)) (congrArg nI el) ?_
    refine va_put (D := (dC, dI)) (ci := 1) (v := .int (nI (cu_N u 2 - 1))) (ty := .int) (C := RX1) (T := TX1) (N := 4) hx hb htg inX1 tyX1 tyX1_ok nmX1 hown hK hP hD hS 3 (wC_g3 a k _) rfl 1 (by decide) (htg _ q_98) (fun _ h9 => h9) rfl (by decide +kernel) rfl rfl (Nat.le_of_ble_eq_true rfl) dX1_remove_45 (fun H locs hP hD hS => ?_)
    have hP := w_pE (wC_n2 a k _ (cu_N u 2 - 1)) hP
    have hD := w_dE (wC_n2 a k _ (cu_N u 2 - 1)) hD
    exact W.vret hx hb hr (fun t9 ht9 hW9 => ⟨⟨cs_N (c_cut u t j) 2 (cu_N u 2 - 1), rfl, (by rw [ej]), by rw [ht9]; exact hP, va_K.moved hW9.alike hK, hD⟩, hS.F ht9⟩) hS.2.2 dX1_remove_48
  · have hjl : j < cu_N u 2 := c_9
    have e17 : cu_F (c_cut u t j) 6 j = cu_F u 6 j := by
      show (if t ≤ j ∧ j + 1 < j then _ else _) = _
      rw [if_neg (by omega)]
    have hoj := ho j hjl
    refine lv_aload_n hx hb dX1_remove_12 rfl (lv_at hl 0 rfl) ?_
    refine va_get (D := (dC, dI)) (ci := 1) (v := .ref (a 18)) (C := RX1) (T := TX1) (N := 4) hx hb htg inX1 hown hK hP 3 (wC_g3 a k _) rfl 0 (by decide) (htg _ q_96) (fun _ h9 => h9) rfl dX1_remove_13 ?_
    refine lv_iload_n hx hb dX1_remove_16 rfl (lv_at hl 3 rfl) ?_
    refine va_iald hx hb hK hP 18 0 (wC_g18 a k _) rfl (vp_in_nI (n := j) (N := 200) (by omega) (by decide)) dX1_remove_17 ?_
    refine wtopi (nI (cu_F (c_cut u t j) 6 j)) (congrArg (fun j9 => nI (cu_F (c_cut u t j) 6 j9)) (nI_clamp (n := j) (Nat.lt_trans (m := 200) (by omega) (by decide)))) ?_
    refine wtopi (y := nI (cu_F u 6 j)) (congrArg nI e17) ?_
    refine lv_iload_n hx hb dX1_remove_18 rfl (lv_at hl 1 rfl) ?_
    refine nb_eq (a := (cu_F u 6 j)) (b := n) (tgt := 37) hx hb (by omega) (by omega) rfl rfl dX1_remove_19 (by decide) (fun c_19 => ?_) (fun c_19 => ?_)
    · have ejt : j = t := Classical.byContradiction (fun q => hu j hjl q c_19)
      refine lv_iinc (v := nI (j + 1)) (lv' := [(3, .int (nI (j + 1))), (0, .ref (a 3)), (1, .int (nI n)), (2, .int (nI (if j ≤ t then j else j - 1)))]) hx hb dX1_remove_37 hl (k := 3) rfl (nI_1 j) (by decide) rfl (fun ls hl => ?_)
      refine lv_goto (tgt := 4) hx hb dX1_remove_40 (by decide) ?_
      have hP := w_pE (congrArg (wC a k) (show c_cut u t j = c_cut u t (j + 1) from by rw [c_cut_0 u (by omega), c_cut_0 u (by omega)])) hP
      have hD := w_dE (congrArg (wC a k) (show c_cut u t j = c_cut u t (j + 1) from by rw [c_cut_0 u (by omega), c_cut_0 u (by omega)])) hD
      exact ih (j + 1) H locs ls (by omega) ⟨by omega, hP, hD, hS, lv_sub (l := _) hl [1, 2, 3, 0] (by rw [show (if j + 1 ≤ t then j + 1 else j + 1 - 1) = (if j ≤ t then j else j - 1) by split <;> split <;> omega]; rfl)⟩
    · have ejt : j ≠ t := fun q => c_19 (by rw [q]; exact he)
      have hlf : (if j ≤ t then j else j - 1) < 200 := by split <;> omega
      refine lv_aload_n hx hb dX1_remove_22 rfl (lv_at hl 0 rfl) ?_
      refine va_get (D := (dC, dI)) (ci := 1) (v := .ref (a 18)) (C := RX1) (T := TX1) (N := 4) hx hb htg inX1 hown hK hP 3 (wC_g3 a k _) rfl 0 (by decide) (htg _ q_96) (fun _ h9 => h9) rfl dX1_remove_23 ?_
      refine lv_iload_n hx hb dX1_remove_26 rfl (lv_at hl 2 rfl) ?_
      refine lv_aload_n hx hb dX1_remove_27 rfl (lv_at hl 0 rfl) ?_
      refine va_get (D := (dC, dI)) (ci := 1) (v := .ref (a 18)) (C := RX1) (T := TX1) (N := 4) hx hb htg inX1 hown hK hP 3 (wC_g3 a k _) rfl 0 (by decide) (htg _ q_96) (fun _ h9 => h9) rfl dX1_remove_28 ?_
      refine lv_iload_n hx hb dX1_remove_31 rfl (lv_at hl 3 rfl) ?_
      refine va_iald hx hb hK hP 18 0 (wC_g18 a k _) rfl (vp_in_nI (n := j) (N := 200) (by omega) (by decide)) dX1_remove_32 ?_
      refine wtopi (nI (cu_F (c_cut u t j) 6 j)) (congrArg (fun j9 => nI (cu_F (c_cut u t j) 6 j9)) (nI_clamp (n := j) (Nat.lt_trans (m := 200) (by omega) (by decide)))) ?_
      refine wtopi (y := nI (cu_F u 6 j)) (congrArg nI e17) ?_
      refine va_iast hx hb hK hP hD hS 18 0 (wC_g18 a k _) rfl (vp_in_nI (n := (if j ≤ t then j else j - 1)) (N := 200) hlf (by decide)) dX1_remove_33 (fun H locs hP hD hS => ?_)
      have hP := w_pE (wC_s18 a k _ (if j ≤ t then j else j - 1) (cu_F u 6 j) (Nat.lt_trans (m := 200) hlf (by decide))) hP
      have hD := w_dE (wC_s18 a k _ (if j ≤ t then j else j - 1) (cu_F u 6 j) (Nat.lt_trans (m := 200) hlf (by decide))) hD
      have es : cs_F (c_cut u t j) 6 (if j ≤ t then j else j - 1) (cu_F u 6 j) = c_cut u t (j + 1) := by
        by_cases q : j ≤ t
        · rw [if_pos q]; exact c_cut_same u (by omega)
        · rw [if_neg q]; exact c_cut_s u (by omega)
      have hP := w_pE (congrArg (wC a k) es) hP
      have hD := w_dE (congrArg (wC a k) es) hD
      refine lv_iinc (v := nI ((if j ≤ t then j else j - 1) + 1)) (lv' := [(2, .int (nI ((if j ≤ t then j else j - 1) + 1))), (0, .ref (a 3)), (1, .int (nI n)), (3, .int (nI j))]) hx hb dX1_remove_34 hl (k := 2) rfl (nI_1 (if j ≤ t then j else j - 1)) (by decide) rfl (fun ls hl => ?_)
      refine lv_iinc (v := nI (j + 1)) (lv' := [(3, .int (nI (j + 1))), (2, .int (nI ((if j ≤ t then j else j - 1) + 1))), (0, .ref (a 3)), (1, .int (nI n))]) hx hb dX1_remove_37 hl (k := 3) rfl (nI_1 j) (by decide) rfl (fun ls hl => ?_)
      refine lv_goto (tgt := 4) hx hb dX1_remove_40 (by decide) ?_
      exact ih (j + 1) H locs ls (by omega) ⟨by omega, hP, hD, hS, lv_sub (l := _) hl [2, 3, 1, 0] (by rw [show (if j + 1 ≤ t then j + 1 else j + 1 - 1) = (if j ≤ t then j else j - 1) + 1 by split <;> split <;> omega]; rfl)⟩
set_option maxHeartbeats 4000000 in
set_option maxRecDepth 100000 in
theorem c_X0_add (l : Launch) (dC : Nat → ClassId) (dI : Nat → Nat → Nat) (a : Nat → Nat) (k : c_K) (u : c_St) (sz : Nat) (n : Nat) (x1 x2 : Int32) (hN : cu_N u 3 < 200) : Met l yX0_add wsX0_add ({ frames := 0, cells := 0, slots := 0, locals := 0 }) (va_Pc [.ref (a 4), .int (nI n), .int x1, .int x2] (w_mu (dC, dI) vwCl (wC a k u) (tC k) sz)) (va_Qi (fun (r : Int32) (u1 : c_St) => r = nI (cu_N u 3) ∧ u1 = cs_N (cs_G (cs_G (cs_F u 7 (cu_N u 3) n) 1 (cu_N u 3) x1) 2 (cu_N u 3) x2) 3 (cu_N u 3 + 1)) (w_at (dC, dI) vwCl (wC a k) (tC k) (va_A (wC a k u) sz)) (va_A (wC a k u) sz)) 0 0 (va_A (wC a k u) sz) := by
  refine Met.ofW (cc := cX0_add) (maxL := 5) (ret := (some .int)) (by decide) rfl ?_
  intro p e s m args below meth c s₁ B hml hv
  obtain ⟨rfl, hsz, hP, hK, hD0⟩ := hv
  have hx := B.exec
  have hb := B.bytes
  have hr := B.returns
  have hts := atoms_spec (ws := wsX0_add) B.pre
  have htg : ∀ w ∈ wG, w.before _ s = true := fun w h => hts w (List.mem_cons_of_mem _ h)
  have hown : s.vm.findClass RX0 = some m.cls := findClass_of_methodNamed B.named
  have hlocks := B.notSynchronized
  subst hsz
  have hD := hD0.self (sz := s.heap.size)
  generalize hAe : va_A (wC a k u) s.heap.size = A at hD ⊢
  have hA : ∀ q : Nat, s.heap.size ≤ q → A q := fun q h => by rw [← hAe]; exact Or.inr h
  have hS : va_S A s.heap s.heap [] := va_S.rf
  have hl := lv_entry ([.ref (a 4), .int (nI n), .int x1, .int x2]) (n := 5) (Nat.le_of_ble_eq_true rfl)
  rw [lg_entry_eq]
  generalize (lg_sl ([.ref (a 4), .int (nI n), .int x1, .int x2]) ++ List.replicate (5 - (lg_sl ([.ref (a 4), .int (nI n), .int x1, .int x2])).length) Slot.unset).toArray = ls at hl ⊢
  have hl : lv_has ls 5 [(0, .ref (a 4)), (1, .int (nI n)), (2, .int x1), (3, .int x2)] := hl
  refine lv_aload_n hx hb dX0_add_0 rfl (lv_at hl 0 rfl) ?_
  refine va_get (D := (dC, dI)) (ci := 0) (v := .int (nI (cu_N u 3))) (C := RX0) (T := TX0) (N := 4) hx hb htg inX0 hown hK hP 4 (wC_g4 a k _) rfl 3 (by decide) (htg _ q_123) (fun _ h9 => h9) rfl dX0_add_1 ?_
  refine lv_istore (lv' := [(4, .int (nI (cu_N u 3))), (0, .ref (a 4)), (1, .int (nI n)), (2, .int x1), (3, .int x2)]) hx hb dX0_add_4 hl (by decide) rfl (fun ls hl => ?_)
  refine lv_aload_n hx hb dX0_add_6 rfl (lv_at hl 1 rfl) ?_
  refine va_get (D := (dC, dI)) (ci := 0) (v := .ref (a 19)) (C := RX0) (T := TX0) (N := 4) hx hb htg inX0 hown hK hP 4 (wC_g4 a k _) rfl 0 (by decide) (htg _ q_117) (fun _ h9 => h9) rfl dX0_add_7 ?_
  refine lv_iload hx hb dX0_add_10 (lv_at hl 0 rfl) ?_
  refine lv_iload_n hx hb dX0_add_12 rfl (lv_at hl 2 rfl) ?_
  refine va_iast hx hb hK hP hD hS 19 0 (wC_g19 a k _) rfl (vp_in_nI (n := (cu_N u 3)) (N := 200) hN (by decide)) dX0_add_13 (fun H locs hP hD hS => ?_)
  have hP := w_pE (wC_s19 a k _ (cu_N u 3) n (Nat.lt_trans (m := 200) hN (by decide))) hP
  have hD := w_dE (wC_s19 a k _ (cu_N u 3) n (Nat.lt_trans (m := 200) hN (by decide))) hD
  refine lv_aload_n hx hb dX0_add_14 rfl (lv_at hl 1 rfl) ?_
  refine va_get (D := (dC, dI)) (ci := 0) (v := .ref (a 20)) (C := RX0) (T := TX0) (N := 4) hx hb htg inX0 hown hK hP 4 (wC_g4 a k _) rfl 1 (by decide) (htg _ q_119) (fun _ h9 => h9) rfl dX0_add_15 ?_
  refine lv_iload hx hb dX0_add_18 (lv_at hl 0 rfl) ?_
  refine lv_iload_n hx hb dX0_add_20 rfl (lv_at hl 3 rfl) ?_
  refine va_iast hx hb hK hP hD hS 20 0 (wC_g20 a k _) rfl (vp_in_nI (n := (cu_N u 3)) (N := 200) hN (by decide)) dX0_add_21 (fun H locs hP hD hS => ?_)
  have hP := w_pE (wC_s20 a k _ (cu_N u 3) x1 (Nat.lt_trans (m := 200) hN (by decide))) hP
  have hD := w_dE (wC_s20 a k _ (cu_N u 3) x1 (Nat.lt_trans (m := 200) hN (by decide))) hD
  refine lv_aload_n hx hb dX0_add_22 rfl (lv_at hl 1 rfl) ?_
  refine va_get (D := (dC, dI)) (ci := 0) (v := .ref (a 21)) (C := RX0) (T := TX0) (N := 4) hx hb htg inX0 hown hK hP 4 (wC_g4 a k _) rfl 2 (by decide) (htg _ q_121) (fun _ h9 => h9) rfl dX0_add_23 ?_
  refine lv_iload hx hb dX0_add_26 (lv_at hl 0 rfl) ?_
  refine lv_iload_n hx hb dX0_add_28 rfl (lv_at hl 4 rfl) ?_
  refine va_iast hx hb hK hP hD hS 21 0 (wC_g21 a k _) rfl (vp_in_nI (n := (cu_N u 3)) (N := 200) hN (by decide)) dX0_add_29 (fun H locs hP hD hS => ?_)
  have hP := w_pE (wC_s21 a k _ (cu_N u 3) x2 (Nat.lt_trans (m := 200) hN (by decide))) hP
  have hD := w_dE (wC_s21 a k _ (cu_N u 3) x2 (Nat.lt_trans (m := 200) hN (by decide))) hD
  refine lv_aload_n hx hb dX0_add_30 rfl (lv_at hl 1 rfl) ?_
  refine lv_dup hx hb dX0_add_31 rfl ?_
  refine va_get (D := (dC, dI)) (ci := 0) (v := .int (nI (cu_N (cs_G (cs_G (cs_F u 7 (cu_N u 3) n) 1 (cu_N u 3) x1) 2 (cu_N u 3) x2) 3))) (C := RX0) (T := TX0) (N := 4) hx hb htg inX0 hown hK hP 4 (wC_g4 a k _) rfl 3 (by decide) (htg _ q_123) (fun _ h9 => h9) rfl dX0_add_32 ?_
  refine lv_iconst (v := 1) hx hb dX0_add_35 (by decide) ?_
  refine lv_iadd hx hb dX0_add_36 ?_
  refine wtopi (y := nI (cu_N u 3 + 1)) (nI_1 (cu_N u 3)) ?_
  refine va_put (D := (dC, dI)) (ci := 0) (v := .int (nI (cu_N u 3 + 1))) (ty := .int) (C := RX0) (T := TX0) (N := 4) hx hb htg inX0 tyX0 tyX0_ok nmX0 hown hK hP hD hS 4 (wC_g4 a k _) rfl 3 (by decide) (htg _ q_123) (fun _ h9 => h9) rfl (by decide +kernel) rfl rfl (Nat.le_of_ble_eq_true rfl) dX0_add_37 (fun H locs hP hD hS => ?_)
  have hP := w_pE (wC_n3 a k _ (cu_N u 3 + 1)) hP
  have hD := w_dE (wC_n3 a k _ (cu_N u 3 + 1)) hD
  refine lv_iload hx hb dX0_add_40 (lv_at hl 0 rfl) ?_
  exact W.iret (v := nI (cu_N u 3)) hx hb hr (fun t9 ht9 hW9 => ⟨⟨_, cs_N (cs_G (cs_G (cs_F u 7 (cu_N u 3) n) 1 (cu_N u 3) x1) 2 (cu_N u 3) x2) 3 (cu_N u 3 + 1), rfl, ⟨rfl, rfl⟩, by rw [ht9]; exact hP, va_K.moved hW9.alike hK, hD⟩, hS.F ht9⟩) hS.2.2 dX0_add_42
set_option maxHeartbeats 4000000 in
set_option maxRecDepth 100000 in
theorem c_X2_allow (l : Launch) (dC : Nat → ClassId) (dI : Nat → Nat → Nat) (a : Nat → Nat) (k : c_K) (u : c_St) (sz : Nat) (ps ic : Nat) (on : Bool) (hp : ps < 20) (hi : ic < 50) : Met l yX2_allow wsX2_allow ({ frames := 0, cells := 0, slots := 0, locals := 0 }) (va_Pc [.ref (a 5), .int (nI ps), .int (nI ic), .int (bI on)] (w_mu (dC, dI) vwCl (wC a k u) (tC k) sz)) (va_Qv (fun (u1 : c_St) => u1 = cs_B u 2 (ps * 50 + ic) on) (w_at (dC, dI) vwCl (wC a k) (tC k) (va_A (wC a k u) sz)) (va_A (wC a k u) sz)) 0 0 (va_A (wC a k u) sz) := by
  refine Met.ofW (cc := cX2_allow) (maxL := 4) (ret := none) (by decide) rfl ?_
  intro p e s m args below meth c s₁ B hml hv
  obtain ⟨rfl, hsz, hP, hK, hD0⟩ := hv
  have hx := B.exec
  have hb := B.bytes
  have hr := B.returns
  have hts := atoms_spec (ws := wsX2_allow) B.pre
  have htg : ∀ w ∈ wG, w.before _ s = true := fun w h => hts w (List.mem_cons_of_mem _ h)
  have hown : s.vm.findClass RX2 = some m.cls := findClass_of_methodNamed B.named
  have hlocks := B.notSynchronized
  subst hsz
  have hD := hD0.self (sz := s.heap.size)
  generalize hAe : va_A (wC a k u) s.heap.size = A at hD ⊢
  have hA : ∀ q : Nat, s.heap.size ≤ q → A q := fun q h => by rw [← hAe]; exact Or.inr h
  have hS : va_S A s.heap s.heap [] := va_S.rf
  have hl := lv_entry ([.ref (a 5), .int (nI ps), .int (nI ic), .int (bI on)]) (n := 4) (Nat.le_of_ble_eq_true rfl)
  rw [lg_entry_eq]
  generalize (lg_sl ([.ref (a 5), .int (nI ps), .int (nI ic), .int (bI on)]) ++ List.replicate (4 - (lg_sl ([.ref (a 5), .int (nI ps), .int (nI ic), .int (bI on)])).length) Slot.unset).toArray = ls at hl ⊢
  have hl : lv_has ls 4 [(0, .ref (a 5)), (1, .int (nI ps)), (2, .int (nI ic)), (3, .int (bI on))] := hl
  refine lv_aload_n hx hb dX2_allow_0 rfl (lv_at hl 0 rfl) ?_
  refine va_get (D := (dC, dI)) (ci := 2) (v := .ref (a 25)) (C := RX2) (T := TX2) (N := 5) hx hb htg inX2 hown hK hP 5 (wC_g5 a k _) rfl 4 (by decide) (htg _ q_148) (fun _ h9 => h9) rfl dX2_allow_1 ?_
  refine lv_iload_n hx hb dX2_allow_4 rfl (lv_at hl 1 rfl) ?_
  refine lv_bipush (v := 50) hx hb dX2_allow_5 (by decide) ?_
  refine lv_imul hx hb dX2_allow_7 ?_
  refine wtopi (y := nI (ps * 50)) (pk_mul ps 50) ?_
  refine lv_iload_n hx hb dX2_allow_8 rfl (lv_at hl 2 rfl) ?_
  refine lv_iadd hx hb dX2_allow_9 ?_
  refine wtopi (y := nI (ps * 50 + ic)) (nI_add _ _) ?_
  refine lv_iload_n hx hb dX2_allow_10 rfl (lv_at hl 3 rfl) ?_
  refine va_zast hx hb hK hP hD hS 25 2 (wC_g25 a k _) rfl (vp_in_nI (n := (ps * 50 + ic)) (N := 1000) (show ps * 50 + ic < 1000 by omega) (by decide)) dX2_allow_11 (fun H locs hP hD hS => ?_)
  have hP := w_pE (wC_s25 a k _ (ps * 50 + ic) on (Nat.lt_trans (m := 1000) (show ps * 50 + ic < 1000 by omega) (by decide))) hP
  have hD := w_dE (wC_s25 a k _ (ps * 50 + ic) on (Nat.lt_trans (m := 1000) (show ps * 50 + ic < 1000 by omega) (by decide))) hD
  exact W.vret hx hb hr (fun t9 ht9 hW9 => ⟨⟨cs_B u 2 (ps * 50 + ic) on, rfl, rfl, by rw [ht9]; exact hP, va_K.moved hW9.alike hK, hD⟩, hS.F ht9⟩) hS.2.2 dX2_allow_12
set_option maxHeartbeats 4000000 in
set_option maxRecDepth 100000 in
theorem c_X2_mayHear (l : Launch) (dC : Nat → ClassId) (dI : Nat → Nat → Nat) (a : Nat → Nat) (k : c_K) (u : c_St) (ps ic : Nat) (hp : ps < 20) (hi : ic < 50) : Met l yX2_mayHear wsX2_mayHear ({ frames := 0, cells := 0, slots := 0, locals := 0 }) (va_Pc [.ref (a 5), .int (nI ps), .int (nI ic)] (w_ro (dC, dI) vwCl (wC a k u) (tC k))) (vp_Si (fun r => r = bI (cu_B u 2 (ps * 50 + ic)))) 0 0 (fun _ => False) := by
  refine Met.ofW (cc := cX2_mayHear) (maxL := 3) (ret := (some .boolean)) (by decide) rfl ?_
  intro p e s m args below meth c s₁ B hml hv
  obtain ⟨rfl, hP, hK⟩ := hv
  have hx := B.exec
  have hb := B.bytes
  have hr := B.returns
  have hts := atoms_spec (ws := wsX2_mayHear) B.pre
  have htg : ∀ w ∈ wG, w.before _ s = true := fun w h => hts w (List.mem_cons_of_mem _ h)
  have hown : s.vm.findClass RX2 = some m.cls := findClass_of_methodNamed B.named
  have hlocks := B.notSynchronized
  have hl := lv_entry ([.ref (a 5), .int (nI ps), .int (nI ic)]) (n := 3) (Nat.le_of_ble_eq_true rfl)
  rw [lg_entry_eq]
  generalize (lg_sl ([.ref (a 5), .int (nI ps), .int (nI ic)]) ++ List.replicate (3 - (lg_sl ([.ref (a 5), .int (nI ps), .int (nI ic)])).length) Slot.unset).toArray = ls at hl ⊢
  have hl : lv_has ls 3 [(0, .ref (a 5)), (1, .int (nI ps)), (2, .int (nI ic))] := hl
  refine lv_aload_n hx hb dX2_mayHear_0 rfl (lv_at hl 0 rfl) ?_
  refine va_get (D := (dC, dI)) (ci := 2) (v := .ref (a 25)) (C := RX2) (T := TX2) (N := 5) hx hb htg inX2 hown hK hP 5 (wC_g5 a k _) rfl 4 (by decide) (htg _ q_148) (fun _ h9 => h9) rfl dX2_mayHear_1 ?_
  refine lv_iload_n hx hb dX2_mayHear_4 rfl (lv_at hl 1 rfl) ?_
  refine lv_bipush (v := 50) hx hb dX2_mayHear_5 (by decide) ?_
  refine lv_imul hx hb dX2_mayHear_7 ?_
  refine wtopi (y := nI (ps * 50)) (pk_mul ps 50) ?_
  refine lv_iload_n hx hb dX2_mayHear_8 rfl (lv_at hl 2 rfl) ?_
  refine lv_iadd hx hb dX2_mayHear_9 ?_
  refine wtopi (y := nI (ps * 50 + ic)) (nI_add _ _) ?_
  refine va_zald hx hb hK hP 25 2 (wC_g25 a k _) rfl (vp_in_nI (n := (ps * 50 + ic)) (N := 1000) (show ps * 50 + ic < 1000 by omega) (by decide)) dX2_mayHear_10 ?_
  refine wtopi (bI (cu_B u 2 (ps * 50 + ic))) (congrArg (fun j9 => bI (cu_B u 2 j9)) (nI_clamp (n := (ps * 50 + ic)) (Nat.lt_trans (m := 1000) (show ps * 50 + ic < 1000 by omega) (by decide)))) ?_
  exact W.zret (v := bI (cu_B u 2 (ps * 50 + ic))) hx hb hr (bI_narw _) (fun t9 ht9 hW9 => ⟨_, rfl, rfl, ht9⟩) (fun _ h => by cases h) dX2_mayHear_11
/-! the line: its order, and what a place found does to it -/
theorem c_lt_iff {u : c_St} {x y : Nat} : c_lt u x y = true ↔ (c_beg u x < c_beg u y ∨ (c_beg u x = c_beg u y ∧ (cu_F u 0 x < cu_F u 0 y ∨ (cu_F u 0 x = cu_F u 0 y ∧ x < y)))) := by
  unfold c_lt
  exact decide_eq_true_iff
theorem c_lt_f {u : c_St} {x y : Nat} : c_lt u x y = false ↔ ¬ (c_beg u x < c_beg u y ∨ (c_beg u x = c_beg u y ∧ (cu_F u 0 x < cu_F u 0 y ∨ (cu_F u 0 x = cu_F u 0 y ∧ x < y)))) := by
  unfold c_lt
  exact decide_eq_false_iff_not
theorem c_lt_tr {u : c_St} {x y z : Nat} (h1 : c_lt u x y = true) (h2 : c_lt u y z = true) : c_lt u x z = true := by
  rw [c_lt_iff] at h1 h2 ⊢
  omega
theorem c_lt_ne {u : c_St} {x y : Nat} (h1 : c_lt u x y = true) : x ≠ y := by
  rw [c_lt_iff] at h1
  intro h
  subst h
  omega
theorem c_lt_as {u : c_St} {x y : Nat} (h1 : c_lt u x y = true) : c_lt u y x = false := by
  rw [c_lt_iff] at h1
  rw [c_lt_f]
  omega
theorem c_lt_to {u : c_St} {x y : Nat} (h : x ≠ y) (h1 : c_lt u x y = false) : c_lt u y x = true := by
  rw [c_lt_f] at h1
  rw [c_lt_iff]
  omega
def c_srt (u : c_St) (f : Nat → Nat) (n : Nat) : Prop := ∀ i j, i < j → j < n → c_lt u (f i) (f j) = true
def c_put (f : Nat → Nat) (t pl num : Nat) : Nat → Nat := fun j => if j = t then num else if t < j ∧ j ≤ pl then f (j - 1) else f j
theorem c_put_lo {f : Nat → Nat} {t pl num j : Nat} (h : j < t) : c_put f t pl num j = f j := by
  unfold c_put
  rw [if_neg (by omega), if_neg (by omega)]
theorem c_put_at {f : Nat → Nat} {t pl num : Nat} : c_put f t pl num t = num := by
  unfold c_put
  rw [if_pos rfl]
theorem c_put_mi {f : Nat → Nat} {t pl num j : Nat} (h : t < j) (h2 : j ≤ pl) : c_put f t pl num j = f (j - 1) := by
  unfold c_put
  rw [if_neg (by omega), if_pos ⟨h, h2⟩]
theorem c_put_hi {f : Nat → Nat} {t pl num j : Nat} (h : t ≤ pl) (h2 : pl < j) : c_put f t pl num j = f j := by
  unfold c_put
  rw [if_neg (by omega), if_neg (by omega)]
theorem c_put_srt {u : c_St} {f : Nat → Nat} {t pl num : Nat} (hs : c_srt u f pl) (ht : t ≤ pl) (hne : ∀ j, j < pl → f j ≠ num) (h1 : t = 0 ∨ c_lt u num (f (t - 1)) = false) (h2 : ∀ j, t ≤ j → j < pl → c_lt u num (f j) = true) : c_srt u (c_put f t pl num) (pl + 1) := by
  have lo : ∀ i, i < t → c_lt u (f i) num = true := by
    intro i hi
    have h3 : c_lt u (f (t - 1)) num = true := by
      rcases h1 with h1 | h1
      · omega
      · exact c_lt_to (fun q => hne (t - 1) (by omega) q.symm) h1
    by_cases h4 : i = t - 1
    · rw [h4]; exact h3
    · exact c_lt_tr (hs i (t - 1) (by omega) (by omega)) h3
  intro i j hij hj
  rcases Nat.lt_trichotomy i t with a | a | a
  · rw [c_put_lo a]
    rcases Nat.lt_trichotomy j t with b | b | b
    · rw [c_put_lo b]; exact hs i j hij (by omega)
    · subst b; rw [c_put_at]; exact lo i a
    · rw [c_put_mi b (by omega)]
      exact hs i (j - 1) (by omega) (by omega)
  · subst a
    rw [c_put_at, c_put_mi hij (by omega)]
    exact h2 (j - 1) (by omega) (by omega)
  · rw [c_put_mi a (by omega), c_put_mi (by omega) (by omega)]
    exact hs (i - 1) (j - 1) (by omega) (by omega)
/-- where the numbers of the places come from -/
theorem c_put_from {f : Nat → Nat} {t pl num : Nat} (ht : t ≤ pl) {j : Nat} (hj : j < pl + 1) : c_put f t pl num j = num ∨ ∃ i, i < pl ∧ c_put f t pl num j = f i := by
  rcases Nat.lt_trichotomy j t with b | b | b
  · exact Or.inr ⟨j, by omega, c_put_lo b⟩
  · subst b; exact Or.inl c_put_at
  · exact Or.inr ⟨j - 1, by omega, c_put_mi b (by omega)⟩
theorem c_put_old {f : Nat → Nat} {t pl num : Nat} (ht : t ≤ pl) {i : Nat} (hi : i < pl) : ∃ j, j < pl + 1 ∧ c_put f t pl num j = f i := by
  by_cases h : i < t
  · exact ⟨i, by omega, c_put_lo h⟩
  · exact ⟨i + 1, by omega, by rw [c_put_mi (by omega) (by omega)]; rfl⟩
theorem c_set_F (u : c_St) (t pl num j : Nat) : cu_F (cs_F (c_shift u t pl) 6 t num) 6 j = c_put (cu_F u 6) t pl num j := rfl
def c_del (f : Nat → Nat) (t n : Nat) : Nat → Nat := fun j => if t ≤ j ∧ j + 1 < n then f (j + 1) else f j
theorem c_del_F (u : c_St) (t n j : Nat) : cu_F (c_cut u t n) 6 j = c_del (cu_F u 6) t n j := rfl
theorem c_del_lo {f : Nat → Nat} {t n j : Nat} (h : j < t) : c_del f t n j = f j := by
  unfold c_del
  rw [if_neg (by omega)]
theorem c_del_hi {f : Nat → Nat} {t n j : Nat} (h : t ≤ j) (h2 : j + 1 < n) : c_del f t n j = f (j + 1) := by
  unfold c_del
  rw [if_pos ⟨h, h2⟩]
theorem c_del_srt {u : c_St} {f : Nat → Nat} {t n : Nat} (hs : c_srt u f n) : c_srt u (c_del f t n) (n - 1) := by
  intro i j hij hj
  by_cases a : i < t
  · rw [c_del_lo a]
    by_cases b : j < t
    · rw [c_del_lo b]; exact hs i j hij (by omega)
    · rw [c_del_hi (by omega) (by omega)]; exact hs i (j + 1) (by omega) (by omega)
  · rw [c_del_hi (by omega) (by omega), c_del_hi (by omega) (by omega)]
    exact hs (i + 1) (j + 1) (by omega) (by omega)
/-- what always holds of the line -/
def c_line (u : c_St) : Prop := cu_N u 2 ≤ cu_N u 0 ∧ (∀ j, j < cu_N u 2 → cu_F u 6 j < cu_N u 0 ∧ cu_B u 0 (cu_F u 6 j) = true) ∧ (∀ n, n < cu_N u 0 → cu_B u 0 n = true → ∃ j, j < cu_N u 2 ∧ cu_F u 6 j = n) ∧ c_srt u (cu_F u 6) (cu_N u 2)
theorem c_srt_inj {u : c_St} {f : Nat → Nat} {n i j : Nat} (hs : c_srt u f n) (hi : i < n) (hj : j < n) (h : f i = f j) : i = j := by
  rcases Nat.lt_trichotomy i j with a | a | a
  · exact absurd h (c_lt_ne (hs i j a hj))
  · exact a
  · exact absurd h.symm (c_lt_ne (hs j i a hi))

theorem c_O_put (u : c_St) (f : Nat → Nat) {t pl num : Nat} : cs_F (c_shift (cs_O u f) t pl) 6 t num = cs_O u (c_put f t pl num) := by
  refine c_ext (fun _ => rfl) (fun q i => ?_) (fun _ _ => rfl) (fun _ _ => rfl) (fun _ _ => rfl) (fun _ => rfl)
  by_cases hq : q = 6
  · subst hq; rfl
  · show (if q = 6 then _ else (if q = 6 then _ else (if q = 6 then _ else cu_F u q i))) = (if q = 6 then _ else cu_F u q i)
    rw [if_neg hq, if_neg hq, if_neg hq, if_neg hq]
theorem c_O_self (u : c_St) : cs_O u (cu_F u 6) = u := by
  refine c_ext (fun _ => rfl) (fun q i => ?_) (fun _ _ => rfl) (fun _ _ => rfl) (fun _ _ => rfl) (fun _ => rfl)
  show (if q = 6 then cu_F u 6 i else cu_F u q i) = cu_F u q i
  split
  · rename_i h; rw [h]
  · rfl
/-- the line after some of its places have been found again -/
def c_mix (u : c_St) (f : Nat → Nat) (n k : Nat) : Prop := c_srt u f k ∧ (∀ j, j < n → ∃ i, i < n ∧ f j = cu_F u 6 i) ∧ (∀ i, i < n → ∃ j, j < n ∧ f j = cu_F u 6 i) ∧ (∀ i j, i < n → j < n → f i = f j → i = j)
theorem c_mix_s {u : c_St} {f : Nat → Nat} {n k t : Nat} (h : c_mix u f n k) (hk : k < n) (ht : t ≤ k) (h1 : t = 0 ∨ c_lt u (f k) (f (t - 1)) = false) (h2 : ∀ j, t ≤ j → j < k → c_lt u (f k) (f j) = true) : c_mix u (c_put f t k (f k)) n (k + 1) := by
  obtain ⟨a1, a2, a3, a4⟩ := h
  have inv : ∀ j, j < n → ∃ i, i < n ∧ c_put f t k (f k) j = f i ∧ (j < t → i = j) ∧ (j = t → i = k) ∧ (t < j → j ≤ k → i = j - 1) ∧ (k < j → i = j) := by
    intro j hj
    rcases Nat.lt_trichotomy j t with b | b | b
    · exact ⟨j, hj, c_put_lo b, fun _ => rfl, fun q => by omega, fun q => by omega, fun _ => rfl⟩
    · subst b; exact ⟨k, hk, c_put_at, fun q => by omega, fun _ => rfl, fun q => by omega, fun q => by omega⟩
    · by_cases b2 : j ≤ k
      · exact ⟨j - 1, by omega, c_put_mi b b2, fun q => by omega, fun q => by omega, fun _ _ => rfl, fun q => by omega⟩
      · exact ⟨j, hj, c_put_hi ht (by omega), fun _ => rfl, fun q => by omega, fun _ q => by omega, fun _ => rfl⟩
  refine ⟨c_put_srt a1 ht (fun j hj q => by have := a4 j k (by omega) hk q; omega) h1 h2, fun j hj => ?_, fun i hi => ?_, fun i j hi hj q => ?_⟩
  · obtain ⟨i, hi, e, -⟩ := inv j hj
    rw [e]; exact a2 i hi
  · obtain ⟨j, hj, e⟩ := a3 i hi
    by_cases b : j < t
    · exact ⟨j, hj, by rw [c_put_lo b]; exact e⟩
    · by_cases b2 : j < k
      · exact ⟨j + 1, by omega, by rw [c_put_mi (by omega) (by omega)]; exact e⟩
      · by_cases b3 : j = k
        · exact ⟨t, by omega, by rw [c_put_at, ← b3]; exact e⟩
        · exact ⟨j, hj, by rw [c_put_hi ht (by omega)]; exact e⟩
  · obtain ⟨x, hx, ex, x1, x2, x3, x4⟩ := inv i hi
    obtain ⟨y, hy, ey, y1, y2, y3, y4⟩ := inv j hj
    have := a4 x y hx hy (by rw [← ex, ← ey]; exact q)
    omega
set_option maxHeartbeats 4000000 in
set_option maxRecDepth 100000 in
theorem c_X1_sortAgain (l : Launch) (dC : Nat → ClassId) (dI : Nat → Nat → Nat) (a : Nat → Nat) (k : c_K) (u : c_St) (sz : Nat) (h : c_ok u) (hp : cu_N u 2 ≤ 200) (ho : ∀ j, j < cu_N u 2 → cu_F u 6 j < cu_N u 0) (hi : ∀ i j, i < cu_N u 2 → j < cu_N u 2 → cu_F u 6 i = cu_F u 6 j → i = j) : Met l yX1_sortAgain wsX1_sortAgain ({ frames := 4, cells := 0, slots := 0, locals := 90 }) (va_Pc [.ref (a 3)] (w_mu (dC, dI) vwCl (wC a k u) (tC k) sz)) (va_Qv (fun (u1 : c_St) => ∃ f : Nat → Nat, u1 = cs_O u f ∧ c_mix u f (cu_N u 2) (cu_N u 2)) (w_at (dC, dI) vwCl (wC a k) (tC k) (va_A (wC a k u) sz)) (va_A (wC a k u) sz)) 0 0 (va_A (wC a k u) sz) := by
  refine Met.ofW (cc := cX1_sortAgain) (maxL := 2) (ret := none) (by decide) rfl ?_
  intro p e s m args below meth c s₁ B hml hv
  obtain ⟨rfl, hsz, hP, hK, hD0⟩ := hv
  have hx := B.exec
  have hb := B.bytes
  have hr := B.returns
  have hts := atoms_spec (ws := wsX1_sortAgain) B.pre
  have htg : ∀ w ∈ wG, w.before _ s = true := fun w h => hts w (List.mem_cons_of_mem _ h)
  have hown : s.vm.findClass RX1 = some m.cls := findClass_of_methodNamed B.named
  have hlocks := B.notSynchronized
  subst hsz
  have hD := hD0.self (sz := s.heap.size)
  generalize hAe : va_A (wC a k u) s.heap.size = A at hD ⊢
  have hA : ∀ q : Nat, s.heap.size ≤ q → A q := fun q h => by rw [← hAe]; exact Or.inr h
  have hS : va_S A s.heap s.heap [] := va_S.rf
  have hl := lv_entry ([.ref (a 3)]) (n := 2) (Nat.le_of_ble_eq_true rfl)
  rw [lg_entry_eq]
  generalize (lg_sl ([.ref (a 3)]) ++ List.replicate (2 - (lg_sl ([.ref (a 3)])).length) Slot.unset).toArray = ls at hl ⊢
  have hl : lv_has ls 2 [(0, .ref (a 3))] := hl
  refine lv_iconst (v := 1) hx hb dX1_sortAgain_0 (by decide) ?_
  refine lv_istore_n (lv' := [(1, .int 1), (0, .ref (a 3))]) hx hb dX1_sortAgain_1 rfl hl (by decide) rfl (fun ls hl => ?_)
  have hP := w_pE (congrArg (wC a k) (c_O_self u).symm) hP
  have hD := w_dE (congrArg (wC a k) (c_O_self u).symm) hD
  refine w_loopH (σ := Nat × (Nat → Nat)) (fun x => cu_N u 2 - x.1) (fun x H locs ls => 1 ≤ x.1 ∧ c_mix u x.2 (cu_N u 2) x.1 ∧ va_P (dC, dI) vwCl (wC a k (cs_O u x.2)) H ∧ va_D A (wC a k (cs_O u x.2)) ∧ va_S A s.heap H locs ∧ lv_has ls 2 [(0, .ref (a 3)), (1, .int (nI x.1))] ∧ (x.1 ≤ cu_N u 2 ∨ x.1 = 1)) ?_ (1, cu_F u 6) _ _ ls ⟨Nat.le_refl _, ⟨fun i j q1 q2 => absurd q2 (by show ¬ j < 1; omega), fun j hj => ⟨j, hj, rfl⟩, fun j hj => ⟨j, hj, rfl⟩, hi⟩, hP, hD, hS, lv_sub hl [1, 0] rfl, Or.inr rfl⟩
  clear hP hD hS hl
  intro x H locs ls hI ih
  obtain ⟨hx1, hmx, hP, hD, hS, hl, hx3⟩ := hI
  refine lv_iload_n hx hb dX1_sortAgain_2 rfl (lv_at hl 1 rfl) ?_
  refine lv_aload_n hx hb dX1_sortAgain_3 rfl (lv_at hl 0 rfl) ?_
  refine va_get (D := (dC, dI)) (ci := 1) (v := .int (nI (cu_N (cs_O u x.2) 2))) (C := RX1) (T := TX1) (N := 4) hx hb htg inX1 hown hK hP 3 (wC_g3 a k _) rfl 1 (by decide) (htg _ q_98) (fun _ h9 => h9) rfl dX1_sortAgain_4 ?_
  refine wtopi (y := nI (cu_N u 2)) rfl ?_
  refine nb_ge (a := x.1) (b := (cu_N u 2)) (tgt := 21) hx hb (by omega) (by omega) rfl rfl dX1_sortAgain_7 (by decide) (fun c_7 => ?_) (fun c_7 => ?_)
  · have c_7 : cu_N u 2 ≤ x.1 := c_7
    have hfin : c_mix u x.2 (cu_N u 2) (cu_N u 2) := ⟨fun i j q1 q2 => hmx.1 i j q1 (by omega), hmx.2⟩
    exact W.vret hx hb hr (fun t9 ht9 hW9 => ⟨⟨cs_O u x.2, rfl, ⟨x.2, rfl, hfin⟩, by rw [ht9]; exact hP, va_K.moved hW9.alike hK, hD⟩, hS.F ht9⟩) hS.2.2 dX1_sortAgain_21
  · have c_7 : x.1 < cu_N u 2 := c_7
    have hom : ∀ j, j ≤ x.1 → x.2 j < cu_N u 0 := fun j hj => by
      obtain ⟨i, hi, e⟩ := hmx.2.1 j (by omega)
      rw [e]; exact ho i hi
    refine lv_aload_n hx hb dX1_sortAgain_10 rfl (lv_at hl 0 rfl) ?_
    refine lv_iload_n hx hb dX1_sortAgain_11 rfl (lv_at hl 1 rfl) ?_
    refine w_calv (w := wC a k) (va_runV (As := [.int (nI x.1)]) (rest := []) ⟨hx, hb, hml, hown, hts⟩ (c_X1_settle l dC dI a k (cs_O u x.2) _ h x.1 (by omega) hom) (cwV 1 hts (wG_V wG_c q_367 q_369 p_3 q_4 q_370) rfl rfl rfl (by decide +kernel) ⟨Nat.le_of_ble_eq_true rfl, Nat.le_of_ble_eq_true rfl⟩) (w_muV hK hP hD (ci := 1) (q0 := 3) rfl (wC_g3 a k _) rfl) rfl rfl hl.1 rfl (lv_room (Nat.le_of_ble_eq_true rfl)) dX1_sortAgain_12 ⟨Nat.le_of_ble_eq_true rfl, Nat.le_of_ble_eq_true rfl⟩) hD hS hA (fun u_1 H locs hq_1 hP hD hS => ?_)
    obtain ⟨t, ht, eu, h1, h2⟩ := hq_1
    have hmx := c_mix_s (t := t) hmx c_7 ht h1 h2
    have eu := eu.trans (c_O_put u x.2)
    subst eu
    refine lv_iinc (v := nI (x.1 + 1)) (lv' := [(1, .int (nI (x.1 + 1))), (0, .ref (a 3))]) hx hb dX1_sortAgain_15 hl (k := 1) rfl (nI_1 x.1) (by decide) rfl (fun ls hl => ?_)
    refine lv_goto (tgt := 2) hx hb dX1_sortAgain_18 (by decide) ?_
    exact ih (x.1 + 1, c_put x.2 t x.1 (x.2 x.1)) H locs ls (by show cu_N u 2 - (x.1 + 1) < cu_N u 2 - x.1; omega) ⟨by show 1 ≤ x.1 + 1; omega, hmx, hP, hD, hS, lv_sub hl [1, 0] rfl, Or.inl (by show x.1 + 1 ≤ cu_N u 2; omega)⟩
