/-! the reference's public methods in numbers -/
theorem inR_nat {x : Int32} {lo hi : Int32} {l9 h9 : Nat} (h : inR x lo hi = true) (e1 : lo = nI l9) (e2 : hi = nI h9) (hb : l9 ≤ h9 ∧ h9 < 2147483648) : ∃ j : Nat, l9 ≤ j ∧ j ≤ h9 ∧ x = nI j := by
  subst e1 e2
  unfold inR at h
  rw [decide_eq_true_iff, Int32.le_iff_toInt_le, Int32.le_iff_toInt_le, nI_toInt (by omega), nI_toInt (by omega)] at h
  refine ⟨x.toInt.toNat, by omega, by omega, ?_⟩
  rw [nI_iI, Int.toNat_of_nonneg (by omega)]
  exact iI_self x
def m_byte (b : Int64) (sh : Int32) : Int32 := (b >>> (sh.toInt64 &&& 63)).toInt32 &&& 255
/-- a new slot's bytes, the first k of them -/
def m_by (u : c_St) (s : Nat) (b : Int64) (n : Nat) : Nat → c_St
  | 0 => u
  | k + 1 => cs_G (m_by u s b n k) 2 (8 * s + k) (m_byte b (nI (8 * (n - 1 - k))))
theorem m_by_N (u : c_St) (s : Nat) (b : Int64) (n : Nat) : ∀ k, cu_N (m_by u s b n k) = cu_N u
  | 0 => rfl
  | k + 1 => m_by_N u s b n k
theorem m_by_F (u : c_St) (s : Nat) (b : Int64) (n : Nat) : ∀ k, cu_F (m_by u s b n k) = cu_F u
  | 0 => rfl
  | k + 1 => m_by_F u s b n k
def m_put (u : c_St) (sc tm n un ic : Nat) : c_St := cs_F (cs_F (cs_F (cs_F (cs_F u 0 (cu_N u 0) sc) 1 (cu_N u 0) tm) 2 (cu_N u 0) n) 3 (cu_N u 0) un) 4 (cu_N u 0) ic
def m_add (u : c_St) (sc tm n : Nat) (bt : Int64) (un ic : Nat) : c_St := cs_N (cs_G (m_by (m_put u sc tm n un ic) (cu_N u 0) bt n n) 0 (cu_N u 0) (m_sm (fun i => cu_G (m_by (m_put u sc tm n un ic) (cu_N u 0) bt n n) 2 (8 * cu_N u 0 + i)) 0 n)) 0 (cu_N u 0 + 1)
def m_ct (u : c_St) (m : Nat) : Bool := decide (cu_D u 0 m ≠ cu_D u 0 (m_first u (cu_F u 5 m)).toNat)
def m_cn (u : c_St) : Nat → Nat
  | 0 => 0
  | m + 1 => m_cn u m + (if m_ct u m = true then 1 else 0)
def m_con (u : c_St) (q : Nat) : Nat → Int
  | 0 => -1
  | m + 1 => if m_con u q m = -1 then (if m_ct u m = true ∧ m_cn u m = q then 100 * m_first u (cu_F u 5 m) + (m : Int) else -1) else m_con u q m
def m_sz (u : c_St) (t1 t2 : Int32) : Nat → Nat
  | 0 => 0
  | s + 1 => m_sz u t1 t2 s + (if cu_B u 0 s = true then 0 else m_wi (m_beg u s) t1 t2 (cu_F u 2 s))
def m_ex (u : c_St) (t1 t2 : Int32) : Nat → Int32
  | 0 => 0
  | k + 1 => m_sw (fun i => cu_G u 2 (8 * (m_fnd u t1 t2 (-1) (-1) k (cu_N u 0)).toNat + i)) (m_beg u (m_fnd u t1 t2 (-1) (-1) k (cu_N u 0)).toNat) t1 t2 (m_ex u t1 t2 k) (cu_F u 2 (m_fnd u t1 t2 (-1) (-1) k (cu_N u 0)).toNat)
def m_vf (u : c_St) : Nat → Int
  | 0 => -1
  | s + 1 => if m_vf u s = -1 then (if cu_B u 0 s = false ∧ m_sm (fun i => cu_G u 2 (8 * s + i)) 0 (cu_F u 2 s) ≠ cu_G u 0 s then (s : Int) else -1) else m_vf u s
def m_th (u : c_St) : Nat → Nat
  | 0 => 0
  | s + 1 => m_th u s + (if cu_B u 0 s = true then 0 else 1)
theorem m_fnd_b (u : c_St) (t1 t2 pu pi : Int32) (q : Nat) : ∀ k, -1 ≤ m_fnd u t1 t2 pu pi q k ∧ m_fnd u t1 t2 pu pi q k < (k : Int)
  | 0 => by unfold m_fnd; omega
  | k + 1 => by
    have := m_fnd_b u t1 t2 pu pi q k
    unfold m_fnd
    split
    · split <;> omega
    · omega
/-- who is found has just so many ahead -/
theorem m_fnd_q {u : c_St} {t1 t2 pu pi : Int32} {q : Nat} : ∀ k, 0 ≤ m_fnd u t1 t2 pu pi q k → m_fit u (m_fnd u t1 t2 pu pi q k).toNat t1 t2 pu pi = true ∧ m_ah u t1 t2 pu pi (m_fnd u t1 t2 pu pi q k).toNat (cu_N u 0) = q
  | 0 => by unfold m_fnd; omega
  | k + 1 => by
    have ih := m_fnd_q (u := u) (t1 := t1) (t2 := t2) (pu := pu) (pi := pi) (q := q) k
    unfold m_fnd
    split
    · split
      · rename_i h; intro _; rw [Int.toNat_natCast]; exact h
      · omega
    · exact ih

set_option maxHeartbeats 4000000 in
set_option maxRecDepth 100000 in
theorem c_X6_throwing (l : Launch) (dC : Nat → ClassId) (dI : Nat → Nat → Nat) (a : Nat → Nat) (k : c_K) (u : c_St) (sz : Nat) (b1 b2 b3 : Bool) : Met l yX6_throwing wsX6_throwing ({ frames := 0, cells := 0, slots := 0, locals := 0 }) (va_Pc [.ref (a 0), .int (bI b1), .int (bI b2), .int (bI b3)] (w_mu (dC, dI) vwCl (wR a k u) (tC k) sz)) (va_Qi (fun (r : Int32) (u1 : c_St) => r = bI (b1 || b2 || b3) ∧ u1 = cs_N u 4 (m_code b1 b2 b3)) (w_at (dC, dI) vwCl (wR a k) (tC k) (va_A (wR a k u) sz)) (va_A (wR a k u) sz)) 0 0 (va_A (wR a k u) sz) := by
  refine Met.ofW (cc := cX6_throwing) (maxL := 4) (ret := (some .boolean)) (by decide) rfl ?_
  intro p e s m args below meth c s₁ B hml hv
  obtain ⟨rfl, hsz, hP, hK, hD0⟩ := hv
  have hx := B.exec
  have hb := B.bytes
  have hr := B.returns
  have hts := atoms_spec (ws := wsX6_throwing) B.pre
  have htg : ∀ w ∈ wG, w.before _ s = true := fun w h => hts w (List.mem_cons_of_mem _ h)
  have hown : s.vm.findClass RX6 = some m.cls := findClass_of_methodNamed B.named
  have hlocks := B.notSynchronized
  subst hsz
  have hD := hD0.self (sz := s.heap.size)
  generalize hAe : va_A (wR a k u) s.heap.size = A at hD ⊢
  have hA : ∀ q : Nat, s.heap.size ≤ q → A q := fun q h => by rw [← hAe]; exact Or.inr h
  have hS : va_S A s.heap s.heap [] := va_S.rf
  have hl := lv_entry ([.ref (a 0), .int (bI b1), .int (bI b2), .int (bI b3)]) (n := 4) (Nat.le_of_ble_eq_true rfl)
  rw [lg_entry_eq]
  generalize (lg_sl ([.ref (a 0), .int (bI b1), .int (bI b2), .int (bI b3)]) ++ List.replicate (4 - (lg_sl ([.ref (a 0), .int (bI b1), .int (bI b2), .int (bI b3)])).length) Slot.unset).toArray = ls at hl ⊢
  have hl : lv_has ls 4 [(0, .ref (a 0)), (1, .int (bI b1)), (2, .int (bI b2)), (3, .int (bI b3))] := hl
  refine lv_aload_n hx hb dX6_throwing_0 rfl (lv_at hl 0 rfl) ?_
  refine lv_iload_n hx hb dX6_throwing_1 rfl (lv_at hl 1 rfl) ?_
  refine bz_eq (a := b1) (tgt := 9) hx hb dX6_throwing_2 (by decide) (fun c_2 => ?_) (fun c_2 => ?_)
  · refine lv_iload_n hx hb dX6_throwing_9 rfl (lv_at hl 2 rfl) ?_
    refine bz_eq (a := b2) (tgt := 17) hx hb dX6_throwing_10 (by decide) (fun c_10 => ?_) (fun c_10 => ?_)
    · refine lv_iload_n hx hb dX6_throwing_17 rfl (lv_at hl 3 rfl) ?_
      refine bz_eq (a := b3) (tgt := 25) hx hb dX6_throwing_18 (by decide) (fun c_18 => ?_) (fun c_18 => ?_)
      · refine lv_iconst (v := 0) hx hb dX6_throwing_25 (by decide) ?_
        refine va_put (D := (dC, dI)) (ci := 6) (v := .int 0) (ty := .int) (C := RX6) (T := TX6) (N := 20) hx hb htg inX6 tyX6 tyX6_ok nmX6 hown hK hP hD hS 0 (wR_g0 a k _) rfl 0 (by decide) (htg _ q_581) (fun _ h9 => h9) rfl (by decide +kernel) rfl rfl (Nat.le_of_ble_eq_true rfl) dX6_throwing_26 (fun H locs hP hD hS => ?_)
        have hP := w_pE (wR_n4 a k _ 0) hP
        have hD := w_dE (wR_n4 a k _ 0) hD
        refine lv_aload_n hx hb dX6_throwing_29 rfl (lv_at hl 0 rfl) ?_
        refine va_get (D := (dC, dI)) (ci := 6) (v := .int (nI (cu_N (cs_N u 4 0) 4))) (C := RX6) (T := TX6) (N := 20) hx hb htg inX6 hown hK hP 0 (wR_g0 a k _) rfl 0 (by decide) (htg _ q_581) (fun _ h9 => h9) rfl dX6_throwing_30 ?_
        refine wtopi (y := 0) rfl ?_
        refine lv_if_le (tgt := 40) hx hb dX6_throwing_33 (by decide) (fun _ => ?_) (fun h9 => absurd h9 (by decide))
        refine lv_iconst (v := 0) hx hb dX6_throwing_40 (by decide) ?_
        exact W.zret (v := bI false) hx hb hr (bI_narw _) (fun t9 ht9 hW9 => ⟨⟨_, cs_N u 4 0, rfl, ⟨congrArg bI (by simp [c_2, c_10, c_18]), by simp [m_code, c_2, c_10, c_18]⟩, by rw [ht9]; exact hP, va_K.moved hW9.alike hK, hD⟩, hS.F ht9⟩) hS.2.2 dX6_throwing_41
      · refine lv_iconst (v := 3) hx hb dX6_throwing_21 (by decide) ?_
        refine lv_goto (tgt := 26) hx hb dX6_throwing_22 (by decide) ?_
        refine va_put (D := (dC, dI)) (ci := 6) (v := .int 3) (ty := .int) (C := RX6) (T := TX6) (N := 20) hx hb htg inX6 tyX6 tyX6_ok nmX6 hown hK hP hD hS 0 (wR_g0 a k _) rfl 0 (by decide) (htg _ q_581) (fun _ h9 => h9) rfl (by decide +kernel) rfl rfl (Nat.le_of_ble_eq_true rfl) dX6_throwing_26 (fun H locs hP hD hS => ?_)
        have hP := w_pE (wR_n4 a k _ 3) hP
        have hD := w_dE (wR_n4 a k _ 3) hD
        refine lv_aload_n hx hb dX6_throwing_29 rfl (lv_at hl 0 rfl) ?_
        refine va_get (D := (dC, dI)) (ci := 6) (v := .int (nI (cu_N (cs_N u 4 3) 4))) (C := RX6) (T := TX6) (N := 20) hx hb htg inX6 hown hK hP 0 (wR_g0 a k _) rfl 0 (by decide) (htg _ q_581) (fun _ h9 => h9) rfl dX6_throwing_30 ?_
        refine wtopi (y := 3) rfl ?_
        refine lv_if_le (tgt := 40) hx hb dX6_throwing_33 (by decide) (fun h9 => absurd h9 (by decide)) (fun _ => ?_)
        refine lv_iconst (v := 1) hx hb dX6_throwing_36 (by decide) ?_
        refine lv_goto (tgt := 41) hx hb dX6_throwing_37 (by decide) ?_
        exact W.zret (v := bI true) hx hb hr (bI_narw _) (fun t9 ht9 hW9 => ⟨⟨_, cs_N u 4 3, rfl, ⟨congrArg bI (by simp [c_2, c_10, c_18]), by simp [m_code, c_2, c_10, c_18]⟩, by rw [ht9]; exact hP, va_K.moved hW9.alike hK, hD⟩, hS.F ht9⟩) hS.2.2 dX6_throwing_41
    · refine lv_iconst (v := 2) hx hb dX6_throwing_13 (by decide) ?_
      refine lv_goto (tgt := 26) hx hb dX6_throwing_14 (by decide) ?_
      refine va_put (D := (dC, dI)) (ci := 6) (v := .int 2) (ty := .int) (C := RX6) (T := TX6) (N := 20) hx hb htg inX6 tyX6 tyX6_ok nmX6 hown hK hP hD hS 0 (wR_g0 a k _) rfl 0 (by decide) (htg _ q_581) (fun _ h9 => h9) rfl (by decide +kernel) rfl rfl (Nat.le_of_ble_eq_true rfl) dX6_throwing_26 (fun H locs hP hD hS => ?_)
      have hP := w_pE (wR_n4 a k _ 2) hP
      have hD := w_dE (wR_n4 a k _ 2) hD
      refine lv_aload_n hx hb dX6_throwing_29 rfl (lv_at hl 0 rfl) ?_
      refine va_get (D := (dC, dI)) (ci := 6) (v := .int (nI (cu_N (cs_N u 4 2) 4))) (C := RX6) (T := TX6) (N := 20) hx hb htg inX6 hown hK hP 0 (wR_g0 a k _) rfl 0 (by decide) (htg _ q_581) (fun _ h9 => h9) rfl dX6_throwing_30 ?_
      refine wtopi (y := 2) rfl ?_
      refine lv_if_le (tgt := 40) hx hb dX6_throwing_33 (by decide) (fun h9 => absurd h9 (by decide)) (fun _ => ?_)
      refine lv_iconst (v := 1) hx hb dX6_throwing_36 (by decide) ?_
      refine lv_goto (tgt := 41) hx hb dX6_throwing_37 (by decide) ?_
      exact W.zret (v := bI true) hx hb hr (bI_narw _) (fun t9 ht9 hW9 => ⟨⟨_, cs_N u 4 2, rfl, ⟨congrArg bI (by simp [c_2, c_10]), by simp [m_code, c_2, c_10]⟩, by rw [ht9]; exact hP, va_K.moved hW9.alike hK, hD⟩, hS.F ht9⟩) hS.2.2 dX6_throwing_41
  · refine lv_iconst (v := 1) hx hb dX6_throwing_5 (by decide) ?_
    refine lv_goto (tgt := 26) hx hb dX6_throwing_6 (by decide) ?_
    refine va_put (D := (dC, dI)) (ci := 6) (v := .int 1) (ty := .int) (C := RX6) (T := TX6) (N := 20) hx hb htg inX6 tyX6 tyX6_ok nmX6 hown hK hP hD hS 0 (wR_g0 a k _) rfl 0 (by decide) (htg _ q_581) (fun _ h9 => h9) rfl (by decide +kernel) rfl rfl (Nat.le_of_ble_eq_true rfl) dX6_throwing_26 (fun H locs hP hD hS => ?_)
    have hP := w_pE (wR_n4 a k _ 1) hP
    have hD := w_dE (wR_n4 a k _ 1) hD
    refine lv_aload_n hx hb dX6_throwing_29 rfl (lv_at hl 0 rfl) ?_
    refine va_get (D := (dC, dI)) (ci := 6) (v := .int (nI (cu_N (cs_N u 4 1) 4))) (C := RX6) (T := TX6) (N := 20) hx hb htg inX6 hown hK hP 0 (wR_g0 a k _) rfl 0 (by decide) (htg _ q_581) (fun _ h9 => h9) rfl dX6_throwing_30 ?_
    refine wtopi (y := 1) rfl ?_
    refine lv_if_le (tgt := 40) hx hb dX6_throwing_33 (by decide) (fun h9 => absurd h9 (by decide)) (fun _ => ?_)
    refine lv_iconst (v := 1) hx hb dX6_throwing_36 (by decide) ?_
    refine lv_goto (tgt := 41) hx hb dX6_throwing_37 (by decide) ?_
    exact W.zret (v := bI true) hx hb hr (bI_narw _) (fun t9 ht9 hW9 => ⟨⟨_, cs_N u 4 1, rfl, ⟨congrArg bI (by simp [c_2]), by simp [m_code, c_2]⟩, by rw [ht9]; exact hP, va_K.moved hW9.alike hK, hD⟩, hS.F ht9⟩) hS.2.2 dX6_throwing_41
set_option maxHeartbeats 4000000 in
set_option maxRecDepth 100000 in
theorem c_X6_thrown (l : Launch) (dC : Nat → ClassId) (dI : Nat → Nat → Nat) (a : Nat → Nat) (k : c_K) (u : c_St)  : Met l yX6_thrown wsX6_thrown ({ frames := 0, cells := 0, slots := 0, locals := 0 }) (va_Pc [.ref (a 0)] (w_ro (dC, dI) vwCl (wR a k u) (tC k))) (vp_Si (fun r => r = nI (cu_N u 4))) 0 0 (fun _ => False) := by
  refine Met.ofW (cc := cX6_thrown) (maxL := 1) (ret := (some .int)) (by decide) rfl ?_
  intro p e s m args below meth c s₁ B hml hv
  obtain ⟨rfl, hP, hK⟩ := hv
  have hx := B.exec
  have hb := B.bytes
  have hr := B.returns
  have hts := atoms_spec (ws := wsX6_thrown) B.pre
  have htg : ∀ w ∈ wG, w.before _ s = true := fun w h => hts w (List.mem_cons_of_mem _ h)
  have hown : s.vm.findClass RX6 = some m.cls := findClass_of_methodNamed B.named
  have hlocks := B.notSynchronized
  have hl := lv_entry ([.ref (a 0)]) (n := 1) (Nat.le_of_ble_eq_true rfl)
  rw [lg_entry_eq]
  generalize (lg_sl ([.ref (a 0)]) ++ List.replicate (1 - (lg_sl ([.ref (a 0)])).length) Slot.unset).toArray = ls at hl ⊢
  have hl : lv_has ls 1 [(0, .ref (a 0))] := hl
  refine lv_aload_n hx hb dX6_thrown_0 rfl (lv_at hl 0 rfl) ?_
  refine va_get (D := (dC, dI)) (ci := 6) (v := .int (nI (cu_N u 4))) (C := RX6) (T := TX6) (N := 20) hx hb htg inX6 hown hK hP 0 (wR_g0 a k _) rfl 0 (by decide) (htg _ q_581) (fun _ h9 => h9) rfl dX6_thrown_1 ?_
  exact W.iret (v := nI (cu_N u 4)) hx hb hr (fun t9 ht9 hW9 => ⟨_, rfl, rfl, ht9⟩) (fun _ h => by cases h) dX6_thrown_4
set_option maxHeartbeats 4000000 in
set_option maxRecDepth 100000 in
theorem c_X6_slot (l : Launch) (dC : Nat → ClassId) (dI : Nat → Nat → Nat) (a : Nat → Nat) (k : c_K) (u : c_St) (sz : Nat) (h20 : cu_N u 0 ≤ 200) (p0 p1 p2 : Int32) (bt : Int64) (p4 p5 : Int32) : Met l yX6_slot wsX6_slot ({ frames := 2, cells := 0, slots := 0, locals := 45 }) (va_Pc [.ref (a 0), .int p0, .int p1, .int p2, .long bt, .int p4, .int p5] (w_mu (dC, dI) vwCl (wR a k u) (tC k) sz)) (va_Qi (fun (r : Int32) (u1 : c_St) => (m_code (!inR p0 0 9 || !inR p4 0 99 || !inR p5 0 49) (!inR p1 0 9999999 || !inR p2 1 8) (decide (cu_N u 0 = 200)) ≠ 0 → u1 = cs_N u 4 (m_code (!inR p0 0 9 || !inR p4 0 99 || !inR p5 0 49) (!inR p1 0 9999999 || !inR p2 1 8) (decide (cu_N u 0 = 200)))) ∧ (m_code (!inR p0 0 9 || !inR p4 0 99 || !inR p5 0 49) (!inR p1 0 9999999 || !inR p2 1 8) (decide (cu_N u 0 = 200)) = 0 → ∃ sc tm n un ic : Nat, p0 = nI sc ∧ p1 = nI tm ∧ p2 = nI n ∧ p4 = nI un ∧ p5 = nI ic ∧ sc ≤ 9 ∧ tm ≤ 9999999 ∧ 1 ≤ n ∧ n ≤ 8 ∧ un ≤ 99 ∧ ic ≤ 49 ∧ cu_N u 0 < 200 ∧ r = nI (cu_N u 0) ∧ u1 = m_add (cs_N u 4 0) sc tm n bt un ic)) (w_at (dC, dI) vwCl (wR a k) (tC k) (va_A (wR a k u) sz)) (va_A (wR a k u) sz)) 0 0 (va_A (wR a k u) sz) := by
  refine Met.ofW (cc := cX6_slot) (maxL := 11) (ret := (some .int)) (by decide) rfl ?_
  intro p e s m args below meth c s₁ B hml hv
  obtain ⟨rfl, hsz, hP, hK, hD0⟩ := hv
  have hx := B.exec
  have hb := B.bytes
  have hr := B.returns
  have hts := atoms_spec (ws := wsX6_slot) B.pre
  have htg : ∀ w ∈ wG, w.before _ s = true := fun w h => hts w (List.mem_cons_of_mem _ h)
  have hown : s.vm.findClass RX6 = some m.cls := findClass_of_methodNamed B.named
  have hlocks := B.notSynchronized
  subst hsz
  have hD := hD0.self (sz := s.heap.size)
  generalize hAe : va_A (wR a k u) s.heap.size = A at hD ⊢
  have hA : ∀ q : Nat, s.heap.size ≤ q → A q := fun q h => by rw [← hAe]; exact Or.inr h
  have hS : va_S A s.heap s.heap [] := va_S.rf
  have hl := lv_entry ([.ref (a 0), .int p0, .int p1, .int p2, .long bt, .int p4, .int p5]) (n := 11) (Nat.le_of_ble_eq_true rfl)
  rw [lg_entry_eq]
  generalize (lg_sl ([.ref (a 0), .int p0, .int p1, .int p2, .long bt, .int p4, .int p5]) ++ List.replicate (11 - (lg_sl ([.ref (a 0), .int p0, .int p1, .int p2, .long bt, .int p4, .int p5])).length) Slot.unset).toArray = ls at hl ⊢
  have hl : lv_has ls 11 [(0, .ref (a 0)), (1, .int p0), (2, .int p1), (3, .int p2), (4, .long bt), (6, .int p4), (7, .int p5)] := hl
  refine lv_iload_n hx hb dX6_slot_0 rfl (lv_at hl 1 rfl) ?_
  refine lv_iconst (v := 0) hx hb dX6_slot_1 (by decide) ?_
  refine lv_bipush (v := 9) hx hb dX6_slot_2 (by decide) ?_
  refine vp_callSi (W.runS (As := [.int p0, .int 0, .int 9]) (rest := []) ⟨hx, hb, hml, hown, hts⟩ (c_X6_in l dC dI a k u p0 0 9) (cwS 3 hts (wG_S wG_c q_650 q_651 q_7 q_652) rfl rfl rfl (by decide +kernel) ⟨Nat.le_of_ble_eq_true rfl, Nat.le_of_ble_eq_true rfl⟩) (w_roS hK hP) rfl rfl hl.1 rfl (lv_room (Nat.le_of_ble_eq_true rfl)) dX6_slot_4 ⟨Nat.le_of_ble_eq_true rfl, Nat.le_of_ble_eq_true rfl⟩) (fun r_1 hr_1 => ?_)
  subst hr_1
  refine bz_eq (a := (inR p0 0 9)) (tgt := 32) hx hb dX6_slot_7 (by decide) (fun c_7 => ?_) (fun c_7 => ?_)
  · refine lv_iconst (v := 1) hx hb dX6_slot_32 (by decide) ?_
    refine lv_goto (tgt := 37) hx hb dX6_slot_33 (by decide) ?_
    refine lv_istore (lv' := [(8, .int 1), (0, .ref (a 0)), (1, .int p0), (2, .int p1), (3, .int p2), (4, .long bt), (6, .int p4), (7, .int p5)]) hx hb dX6_slot_37 hl (by decide) rfl (fun ls hl => ?_)
    refine lv_aload_n hx hb dX6_slot_39 rfl (lv_at hl 1 rfl) ?_
    refine lv_iload hx hb dX6_slot_40 (lv_at hl 0 rfl) ?_
    refine lv_iload_n hx hb dX6_slot_42 rfl (lv_at hl 3 rfl) ?_
    refine lv_iconst (v := 0) hx hb dX6_slot_43 (by decide) ?_
    refine lv_ldc (v := 9999999) hx hb hown (htg _ q_653) dX6_slot_44 ?_
    refine vp_callSi (W.runS (As := [.int p1, .int 0, .int 9999999]) (rest := [.int 1, .ref (a 0)]) ⟨hx, hb, hml, hown, hts⟩ (c_X6_in l dC dI a k u p1 0 9999999) (cwS 3 hts (wG_S wG_c q_650 q_651 q_7 q_652) rfl rfl rfl (by decide +kernel) ⟨Nat.le_of_ble_eq_true rfl, Nat.le_of_ble_eq_true rfl⟩) (w_roS hK hP) rfl rfl hl.1 rfl (lv_room (Nat.le_of_ble_eq_true rfl)) dX6_slot_46 ⟨Nat.le_of_ble_eq_true rfl, Nat.le_of_ble_eq_true rfl⟩) (fun r_2 hr_2 => ?_)
    subst hr_2
    refine bz_eq (a := (inR p1 0 9999999)) (tgt := 62) hx hb dX6_slot_49 (by decide) (fun c_49 => ?_) (fun c_49 => ?_)
    · refine lv_iconst (v := 1) hx hb dX6_slot_62 (by decide) ?_
      refine lv_goto (tgt := 67) hx hb dX6_slot_63 (by decide) ?_
      refine lv_aload_n hx hb dX6_slot_67 rfl (lv_at hl 1 rfl) ?_
      refine va_get (D := (dC, dI)) (ci := 6) (v := .int (nI (cu_N u 0))) (C := RX6) (T := TX6) (N := 20) hx hb htg inX6 hown hK hP 0 (wR_g0 a k _) rfl 1 (by decide) (htg _ q_582) (fun _ h9 => h9) rfl dX6_slot_68 ?_
      refine lv_sipush (v := 200) hx hb dX6_slot_71 (by decide) ?_
      refine nb_ne (a := (cu_N u 0)) (b := 200) (tgt := 81) hx hb (by omega) (by omega) rfl rfl dX6_slot_74 (by decide) (fun c_74 => ?_) (fun c_74 => ?_)
      · refine lv_iconst (v := 0) hx hb dX6_slot_81 (by decide) ?_
        refine w_cali (w := wR a k) (va_runV (As := [.int 1, .int 1, .int 0]) (rest := []) ⟨hx, hb, hml, hown, hts⟩ (c_X6_throwing l dC dI a k u _ true true false) (cwV 3 hts (wG_V wG_c q_654 q_656 p_7 q_7 q_657) rfl rfl rfl (by decide +kernel) ⟨Nat.le_of_ble_eq_true rfl, Nat.le_of_ble_eq_true rfl⟩) (w_muV hK hP hD (ci := 6) (q0 := 0) rfl (wR_g0 a k _) rfl) rfl rfl hl.1 rfl (lv_room (Nat.le_of_ble_eq_true rfl)) dX6_slot_82 ⟨Nat.le_of_ble_eq_true rfl, Nat.le_of_ble_eq_true rfl⟩) hD hS hA (fun r_3 u_3 H locs hq_3 hP hD hS => ?_)
        obtain ⟨er9, eu9⟩ := hq_3
        subst er9 eu9
        refine wtopi (1) rfl ?_
        refine lv_if_eq (tgt := 90) hx hb dX6_slot_85 (by decide) (fun h9 => absurd h9 (by decide)) (fun _ => ?_)
        refine lv_iconst (v := 0) hx hb dX6_slot_88 (by decide) ?_
        exact W.iret (v := 0) hx hb hr (fun t9 ht9 hW9 => ⟨⟨_, cs_N u 4 (m_code true true false), rfl, ⟨fun _ => congrArg (cs_N u 4) (by simp [c_7, c_49, c_74]), fun h9 => absurd h9 (by simp [m_code, c_7, c_49, c_74])⟩, by rw [ht9]; exact hP, va_K.moved hW9.alike hK, hD⟩, hS.F ht9⟩) hS.2.2 dX6_slot_89
      · refine lv_iconst (v := 1) hx hb dX6_slot_77 (by decide) ?_
        refine lv_goto (tgt := 82) hx hb dX6_slot_78 (by decide) ?_
        refine w_cali (w := wR a k) (va_runV (As := [.int 1, .int 1, .int 1]) (rest := []) ⟨hx, hb, hml, hown, hts⟩ (c_X6_throwing l dC dI a k u _ true true true) (cwV 3 hts (wG_V wG_c q_654 q_656 p_7 q_7 q_657) rfl rfl rfl (by decide +kernel) ⟨Nat.le_of_ble_eq_true rfl, Nat.le_of_ble_eq_true rfl⟩) (w_muV hK hP hD (ci := 6) (q0 := 0) rfl (wR_g0 a k _) rfl) rfl rfl hl.1 rfl (lv_room (Nat.le_of_ble_eq_true rfl)) dX6_slot_82 ⟨Nat.le_of_ble_eq_true rfl, Nat.le_of_ble_eq_true rfl⟩) hD hS hA (fun r_4 u_4 H locs hq_4 hP hD hS => ?_)
        obtain ⟨er9, eu9⟩ := hq_4
        subst er9 eu9
        refine wtopi (1) rfl ?_
        refine lv_if_eq (tgt := 90) hx hb dX6_slot_85 (by decide) (fun h9 => absurd h9 (by decide)) (fun _ => ?_)
        refine lv_iconst (v := 0) hx hb dX6_slot_88 (by decide) ?_
        exact W.iret (v := 0) hx hb hr (fun t9 ht9 hW9 => ⟨⟨_, cs_N u 4 (m_code true true true), rfl, ⟨fun _ => congrArg (cs_N u 4) (by simp [c_7, c_49, c_74]), fun h9 => absurd h9 (by simp [m_code, c_7, c_49, c_74])⟩, by rw [ht9]; exact hP, va_K.moved hW9.alike hK, hD⟩, hS.F ht9⟩) hS.2.2 dX6_slot_89
    · refine lv_iload_n hx hb dX6_slot_52 rfl (lv_at hl 4 rfl) ?_
      refine lv_iconst (v := 1) hx hb dX6_slot_53 (by decide) ?_
      refine lv_bipush (v := 8) hx hb dX6_slot_54 (by decide) ?_
      refine vp_callSi (W.runS (As := [.int p2, .int 1, .int 8]) (rest := [.int 1, .ref (a 0)]) ⟨hx, hb, hml, hown, hts⟩ (c_X6_in l dC dI a k u p2 1 8) (cwS 3 hts (wG_S wG_c q_650 q_651 q_7 q_652) rfl rfl rfl (by decide +kernel) ⟨Nat.le_of_ble_eq_true rfl, Nat.le_of_ble_eq_true rfl⟩) (w_roS hK hP) rfl rfl hl.1 rfl (lv_room (Nat.le_of_ble_eq_true rfl)) dX6_slot_56 ⟨Nat.le_of_ble_eq_true rfl, Nat.le_of_ble_eq_true rfl⟩) (fun r_5 hr_5 => ?_)
      subst hr_5
      refine bz_ne (a := (inR p2 1 8)) (tgt := 66) hx hb dX6_slot_59 (by decide) (fun c_59 => ?_) (fun c_59 => ?_)
      · refine lv_iconst (v := 0) hx hb dX6_slot_66 (by decide) ?_
        refine lv_aload_n hx hb dX6_slot_67 rfl (lv_at hl 1 rfl) ?_
        refine va_get (D := (dC, dI)) (ci := 6) (v := .int (nI (cu_N u 0))) (C := RX6) (T := TX6) (N := 20) hx hb htg inX6 hown hK hP 0 (wR_g0 a k _) rfl 1 (by decide) (htg _ q_582) (fun _ h9 => h9) rfl dX6_slot_68 ?_
        refine lv_sipush (v := 200) hx hb dX6_slot_71 (by decide) ?_
        refine nb_ne (a := (cu_N u 0)) (b := 200) (tgt := 81) hx hb (by omega) (by omega) rfl rfl dX6_slot_74 (by decide) (fun c_74 => ?_) (fun c_74 => ?_)
        · refine lv_iconst (v := 0) hx hb dX6_slot_81 (by decide) ?_
          refine w_cali (w := wR a k) (va_runV (As := [.int 1, .int 0, .int 0]) (rest := []) ⟨hx, hb, hml, hown, hts⟩ (c_X6_throwing l dC dI a k u _ true false false) (cwV 3 hts (wG_V wG_c q_654 q_656 p_7 q_7 q_657) rfl rfl rfl (by decide +kernel) ⟨Nat.le_of_ble_eq_true rfl, Nat.le_of_ble_eq_true rfl⟩) (w_muV hK hP hD (ci := 6) (q0 := 0) rfl (wR_g0 a k _) rfl) rfl rfl hl.1 rfl (lv_room (Nat.le_of_ble_eq_true rfl)) dX6_slot_82 ⟨Nat.le_of_ble_eq_true rfl, Nat.le_of_ble_eq_true rfl⟩) hD hS hA (fun r_6 u_6 H locs hq_6 hP hD hS => ?_)
          obtain ⟨er9, eu9⟩ := hq_6
          subst er9 eu9
          refine wtopi (1) rfl ?_
          refine lv_if_eq (tgt := 90) hx hb dX6_slot_85 (by decide) (fun h9 => absurd h9 (by decide)) (fun _ => ?_)
          refine lv_iconst (v := 0) hx hb dX6_slot_88 (by decide) ?_
          exact W.iret (v := 0) hx hb hr (fun t9 ht9 hW9 => ⟨⟨_, cs_N u 4 (m_code true false false), rfl, ⟨fun _ => congrArg (cs_N u 4) (by simp [c_7, c_49, c_59, c_74]), fun h9 => absurd h9 (by simp [m_code, c_7, c_49, c_59, c_74])⟩, by rw [ht9]; exact hP, va_K.moved hW9.alike hK, hD⟩, hS.F ht9⟩) hS.2.2 dX6_slot_89
        · refine lv_iconst (v := 1) hx hb dX6_slot_77 (by decide) ?_
          refine lv_goto (tgt := 82) hx hb dX6_slot_78 (by decide) ?_
          refine w_cali (w := wR a k) (va_runV (As := [.int 1, .int 0, .int 1]) (rest := []) ⟨hx, hb, hml, hown, hts⟩ (c_X6_throwing l dC dI a k u _ true false true) (cwV 3 hts (wG_V wG_c q_654 q_656 p_7 q_7 q_657) rfl rfl rfl (by decide +kernel) ⟨Nat.le_of_ble_eq_true rfl, Nat.le_of_ble_eq_true rfl⟩) (w_muV hK hP hD (ci := 6) (q0 := 0) rfl (wR_g0 a k _) rfl) rfl rfl hl.1 rfl (lv_room (Nat.le_of_ble_eq_true rfl)) dX6_slot_82 ⟨Nat.le_of_ble_eq_true rfl, Nat.le_of_ble_eq_true rfl⟩) hD hS hA (fun r_7 u_7 H locs hq_7 hP hD hS => ?_)
          obtain ⟨er9, eu9⟩ := hq_7
          subst er9 eu9
          refine wtopi (1) rfl ?_
          refine lv_if_eq (tgt := 90) hx hb dX6_slot_85 (by decide) (fun h9 => absurd h9 (by decide)) (fun _ => ?_)
          refine lv_iconst (v := 0) hx hb dX6_slot_88 (by decide) ?_
          exact W.iret (v := 0) hx hb hr (fun t9 ht9 hW9 => ⟨⟨_, cs_N u 4 (m_code true false true), rfl, ⟨fun _ => congrArg (cs_N u 4) (by simp [c_7, c_49, c_59, c_74]), fun h9 => absurd h9 (by simp [m_code, c_7, c_49, c_59, c_74])⟩, by rw [ht9]; exact hP, va_K.moved hW9.alike hK, hD⟩, hS.F ht9⟩) hS.2.2 dX6_slot_89
      · refine lv_iconst (v := 1) hx hb dX6_slot_62 (by decide) ?_
        refine lv_goto (tgt := 67) hx hb dX6_slot_63 (by decide) ?_
        refine lv_aload_n hx hb dX6_slot_67 rfl (lv_at hl 1 rfl) ?_
        refine va_get (D := (dC, dI)) (ci := 6) (v := .int (nI (cu_N u 0))) (C := RX6) (T := TX6) (N := 20) hx hb htg inX6 hown hK hP 0 (wR_g0 a k _) rfl 1 (by decide) (htg _ q_582) (fun _ h9 => h9) rfl dX6_slot_68 ?_
        refine lv_sipush (v := 200) hx hb dX6_slot_71 (by decide) ?_
        refine nb_ne (a := (cu_N u 0)) (b := 200) (tgt := 81) hx hb (by omega) (by omega) rfl rfl dX6_slot_74 (by decide) (fun c_74 => ?_) (fun c_74 => ?_)
        · refine lv_iconst (v := 0) hx hb dX6_slot_81 (by decide) ?_
          refine w_cali (w := wR a k) (va_runV (As := [.int 1, .int 1, .int 0]) (rest := []) ⟨hx, hb, hml, hown, hts⟩ (c_X6_throwing l dC dI a k u _ true true false) (cwV 3 hts (wG_V wG_c q_654 q_656 p_7 q_7 q_657) rfl rfl rfl (by decide +kernel) ⟨Nat.le_of_ble_eq_true rfl, Nat.le_of_ble_eq_true rfl⟩) (w_muV hK hP hD (ci := 6) (q0 := 0) rfl (wR_g0 a k _) rfl) rfl rfl hl.1 rfl (lv_room (Nat.le_of_ble_eq_true rfl)) dX6_slot_82 ⟨Nat.le_of_ble_eq_true rfl, Nat.le_of_ble_eq_true rfl⟩) hD hS hA (fun r_8 u_8 H locs hq_8 hP hD hS => ?_)
          obtain ⟨er9, eu9⟩ := hq_8
          subst er9 eu9
          refine wtopi (1) rfl ?_
          refine lv_if_eq (tgt := 90) hx hb dX6_slot_85 (by decide) (fun h9 => absurd h9 (by decide)) (fun _ => ?_)
          refine lv_iconst (v := 0) hx hb dX6_slot_88 (by decide) ?_
          exact W.iret (v := 0) hx hb hr (fun t9 ht9 hW9 => ⟨⟨_, cs_N u 4 (m_code true true false), rfl, ⟨fun _ => congrArg (cs_N u 4) (by simp [c_7, c_49, c_59, c_74]), fun h9 => absurd h9 (by simp [m_code, c_7, c_49, c_59, c_74])⟩, by rw [ht9]; exact hP, va_K.moved hW9.alike hK, hD⟩, hS.F ht9⟩) hS.2.2 dX6_slot_89
        · refine lv_iconst (v := 1) hx hb dX6_slot_77 (by decide) ?_
          refine lv_goto (tgt := 82) hx hb dX6_slot_78 (by decide) ?_
          refine w_cali (w := wR a k) (va_runV (As := [.int 1, .int 1, .int 1]) (rest := []) ⟨hx, hb, hml, hown, hts⟩ (c_X6_throwing l dC dI a k u _ true true true) (cwV 3 hts (wG_V wG_c q_654 q_656 p_7 q_7 q_657) rfl rfl rfl (by decide +kernel) ⟨Nat.le_of_ble_eq_true rfl, Nat.le_of_ble_eq_true rfl⟩) (w_muV hK hP hD (ci := 6) (q0 := 0) rfl (wR_g0 a k _) rfl) rfl rfl hl.1 rfl (lv_room (Nat.le_of_ble_eq_true rfl)) dX6_slot_82 ⟨Nat.le_of_ble_eq_true rfl, Nat.le_of_ble_eq_true rfl⟩) hD hS hA (fun r_9 u_9 H locs hq_9 hP hD hS => ?_)
          obtain ⟨er9, eu9⟩ := hq_9
          subst er9 eu9
          refine wtopi (1) rfl ?_
          refine lv_if_eq (tgt := 90) hx hb dX6_slot_85 (by decide) (fun h9 => absurd h9 (by decide)) (fun _ => ?_)
          refine lv_iconst (v := 0) hx hb dX6_slot_88 (by decide) ?_
          exact W.iret (v := 0) hx hb hr (fun t9 ht9 hW9 => ⟨⟨_, cs_N u 4 (m_code true true true), rfl, ⟨fun _ => congrArg (cs_N u 4) (by simp [c_7, c_49, c_59, c_74]), fun h9 => absurd h9 (by simp [m_code, c_7, c_49, c_59, c_74])⟩, by rw [ht9]; exact hP, va_K.moved hW9.alike hK, hD⟩, hS.F ht9⟩) hS.2.2 dX6_slot_89
  · refine lv_iload hx hb dX6_slot_10 (lv_at hl 5 rfl) ?_
    refine lv_iconst (v := 0) hx hb dX6_slot_12 (by decide) ?_
    refine lv_bipush (v := 99) hx hb dX6_slot_13 (by decide) ?_
    refine vp_callSi (W.runS (As := [.int p4, .int 0, .int 99]) (rest := []) ⟨hx, hb, hml, hown, hts⟩ (c_X6_in l dC dI a k u p4 0 99) (cwS 3 hts (wG_S wG_c q_650 q_651 q_7 q_652) rfl rfl rfl (by decide +kernel) ⟨Nat.le_of_ble_eq_true rfl, Nat.le_of_ble_eq_true rfl⟩) (w_roS hK hP) rfl rfl hl.1 rfl (lv_room (Nat.le_of_ble_eq_true rfl)) dX6_slot_15 ⟨Nat.le_of_ble_eq_true rfl, Nat.le_of_ble_eq_true rfl⟩) (fun r_10 hr_10 => ?_)
    subst hr_10
    refine bz_eq (a := (inR p4 0 99)) (tgt := 32) hx hb dX6_slot_18 (by decide) (fun c_18 => ?_) (fun c_18 => ?_)
    · refine lv_iconst (v := 1) hx hb dX6_slot_32 (by decide) ?_
      refine lv_goto (tgt := 37) hx hb dX6_slot_33 (by decide) ?_
      refine lv_istore (lv' := [(8, .int 1), (0, .ref (a 0)), (1, .int p0), (2, .int p1), (3, .int p2), (4, .long bt), (6, .int p4), (7, .int p5)]) hx hb dX6_slot_37 hl (by decide) rfl (fun ls hl => ?_)
      refine lv_aload_n hx hb dX6_slot_39 rfl (lv_at hl 1 rfl) ?_
      refine lv_iload hx hb dX6_slot_40 (lv_at hl 0 rfl) ?_
      refine lv_iload_n hx hb dX6_slot_42 rfl (lv_at hl 3 rfl) ?_
      refine lv_iconst (v := 0) hx hb dX6_slot_43 (by decide) ?_
      refine lv_ldc (v := 9999999) hx hb hown (htg _ q_653) dX6_slot_44 ?_
      refine vp_callSi (W.runS (As := [.int p1, .int 0, .int 9999999]) (rest := [.int 1, .ref (a 0)]) ⟨hx, hb, hml, hown, hts⟩ (c_X6_in l dC dI a k u p1 0 9999999) (cwS 3 hts (wG_S wG_c q_650 q_651 q_7 q_652) rfl rfl rfl (by decide +kernel) ⟨Nat.le_of_ble_eq_true rfl, Nat.le_of_ble_eq_true rfl⟩) (w_roS hK hP) rfl rfl hl.1 rfl (lv_room (Nat.le_of_ble_eq_true rfl)) dX6_slot_46 ⟨Nat.le_of_ble_eq_true rfl, Nat.le_of_ble_eq_true rfl⟩) (fun r_11 hr_11 => ?_)
      subst hr_11
      refine bz_eq (a := (inR p1 0 9999999)) (tgt := 62) hx hb dX6_slot_49 (by decide) (fun c_49 => ?_) (fun c_49 => ?_)
      · refine lv_iconst (v := 1) hx hb dX6_slot_62 (by decide) ?_
        refine lv_goto (tgt := 67) hx hb dX6_slot_63 (by decide) ?_
        refine lv_aload_n hx hb dX6_slot_67 rfl (lv_at hl 1 rfl) ?_
        refine va_get (D := (dC, dI)) (ci := 6) (v := .int (nI (cu_N u 0))) (C := RX6) (T := TX6) (N := 20) hx hb htg inX6 hown hK hP 0 (wR_g0 a k _) rfl 1 (by decide) (htg _ q_582) (fun _ h9 => h9) rfl dX6_slot_68 ?_
        refine lv_sipush (v := 200) hx hb dX6_slot_71 (by decide) ?_
        refine nb_ne (a := (cu_N u 0)) (b := 200) (tgt := 81) hx hb (by omega) (by omega) rfl rfl dX6_slot_74 (by decide) (fun c_74 => ?_) (fun c_74 => ?_)
        · refine lv_iconst (v := 0) hx hb dX6_slot_81 (by decide) ?_
          refine w_cali (w := wR a k) (va_runV (As := [.int 1, .int 1, .int 0]) (rest := []) ⟨hx, hb, hml, hown, hts⟩ (c_X6_throwing l dC dI a k u _ true true false) (cwV 3 hts (wG_V wG_c q_654 q_656 p_7 q_7 q_657) rfl rfl rfl (by decide +kernel) ⟨Nat.le_of_ble_eq_true rfl, Nat.le_of_ble_eq_true rfl⟩) (w_muV hK hP hD (ci := 6) (q0 := 0) rfl (wR_g0 a k _) rfl) rfl rfl hl.1 rfl (lv_room (Nat.le_of_ble_eq_true rfl)) dX6_slot_82 ⟨Nat.le_of_ble_eq_true rfl, Nat.le_of_ble_eq_true rfl⟩) hD hS hA (fun r_12 u_12 H locs hq_12 hP hD hS => ?_)
          obtain ⟨er9, eu9⟩ := hq_12
          subst er9 eu9
          refine wtopi (1) rfl ?_
          refine lv_if_eq (tgt := 90) hx hb dX6_slot_85 (by decide) (fun h9 => absurd h9 (by decide)) (fun _ => ?_)
          refine lv_iconst (v := 0) hx hb dX6_slot_88 (by decide) ?_
          exact W.iret (v := 0) hx hb hr (fun t9 ht9 hW9 => ⟨⟨_, cs_N u 4 (m_code true true false), rfl, ⟨fun _ => congrArg (cs_N u 4) (by simp [c_7, c_18, c_49, c_74]), fun h9 => absurd h9 (by simp [m_code, c_7, c_18, c_49, c_74])⟩, by rw [ht9]; exact hP, va_K.moved hW9.alike hK, hD⟩, hS.F ht9⟩) hS.2.2 dX6_slot_89
        · refine lv_iconst (v := 1) hx hb dX6_slot_77 (by decide) ?_
          refine lv_goto (tgt := 82) hx hb dX6_slot_78 (by decide) ?_
          refine w_cali (w := wR a k) (va_runV (As := [.int 1, .int 1, .int 1]) (rest := []) ⟨hx, hb, hml, hown, hts⟩ (c_X6_throwing l dC dI a k u _ true true true) (cwV 3 hts (wG_V wG_c q_654 q_656 p_7 q_7 q_657) rfl rfl rfl (by decide +kernel) ⟨Nat.le_of_ble_eq_true rfl, Nat.le_of_ble_eq_true rfl⟩) (w_muV hK hP hD (ci := 6) (q0 := 0) rfl (wR_g0 a k _) rfl) rfl rfl hl.1 rfl (lv_room (Nat.le_of_ble_eq_true rfl)) dX6_slot_82 ⟨Nat.le_of_ble_eq_true rfl, Nat.le_of_ble_eq_true rfl⟩) hD hS hA (fun r_13 u_13 H locs hq_13 hP hD hS => ?_)
          obtain ⟨er9, eu9⟩ := hq_13
          subst er9 eu9
          refine wtopi (1) rfl ?_
          refine lv_if_eq (tgt := 90) hx hb dX6_slot_85 (by decide) (fun h9 => absurd h9 (by decide)) (fun _ => ?_)
          refine lv_iconst (v := 0) hx hb dX6_slot_88 (by decide) ?_
          exact W.iret (v := 0) hx hb hr (fun t9 ht9 hW9 => ⟨⟨_, cs_N u 4 (m_code true true true), rfl, ⟨fun _ => congrArg (cs_N u 4) (by simp [c_7, c_18, c_49, c_74]), fun h9 => absurd h9 (by simp [m_code, c_7, c_18, c_49, c_74])⟩, by rw [ht9]; exact hP, va_K.moved hW9.alike hK, hD⟩, hS.F ht9⟩) hS.2.2 dX6_slot_89
      · refine lv_iload_n hx hb dX6_slot_52 rfl (lv_at hl 4 rfl) ?_
        refine lv_iconst (v := 1) hx hb dX6_slot_53 (by decide) ?_
        refine lv_bipush (v := 8) hx hb dX6_slot_54 (by decide) ?_
        refine vp_callSi (W.runS (As := [.int p2, .int 1, .int 8]) (rest := [.int 1, .ref (a 0)]) ⟨hx, hb, hml, hown, hts⟩ (c_X6_in l dC dI a k u p2 1 8) (cwS 3 hts (wG_S wG_c q_650 q_651 q_7 q_652) rfl rfl rfl (by decide +kernel) ⟨Nat.le_of_ble_eq_true rfl, Nat.le_of_ble_eq_true rfl⟩) (w_roS hK hP) rfl rfl hl.1 rfl (lv_room (Nat.le_of_ble_eq_true rfl)) dX6_slot_56 ⟨Nat.le_of_ble_eq_true rfl, Nat.le_of_ble_eq_true rfl⟩) (fun r_14 hr_14 => ?_)
        subst hr_14
        refine bz_ne (a := (inR p2 1 8)) (tgt := 66) hx hb dX6_slot_59 (by decide) (fun c_59 => ?_) (fun c_59 => ?_)
        · refine lv_iconst (v := 0) hx hb dX6_slot_66 (by decide) ?_
          refine lv_aload_n hx hb dX6_slot_67 rfl (lv_at hl 1 rfl) ?_
          refine va_get (D := (dC, dI)) (ci := 6) (v := .int (nI (cu_N u 0))) (C := RX6) (T := TX6) (N := 20) hx hb htg inX6 hown hK hP 0 (wR_g0 a k _) rfl 1 (by decide) (htg _ q_582) (fun _ h9 => h9) rfl dX6_slot_68 ?_
          refine lv_sipush (v := 200) hx hb dX6_slot_71 (by decide) ?_
          refine nb_ne (a := (cu_N u 0)) (b := 200) (tgt := 81) hx hb (by omega) (by omega) rfl rfl dX6_slot_74 (by decide) (fun c_74 => ?_) (fun c_74 => ?_)
          · refine lv_iconst (v := 0) hx hb dX6_slot_81 (by decide) ?_
            refine w_cali (w := wR a k) (va_runV (As := [.int 1, .int 0, .int 0]) (rest := []) ⟨hx, hb, hml, hown, hts⟩ (c_X6_throwing l dC dI a k u _ true false false) (cwV 3 hts (wG_V wG_c q_654 q_656 p_7 q_7 q_657) rfl rfl rfl (by decide +kernel) ⟨Nat.le_of_ble_eq_true rfl, Nat.le_of_ble_eq_true rfl⟩) (w_muV hK hP hD (ci := 6) (q0 := 0) rfl (wR_g0 a k _) rfl) rfl rfl hl.1 rfl (lv_room (Nat.le_of_ble_eq_true rfl)) dX6_slot_82 ⟨Nat.le_of_ble_eq_true rfl, Nat.le_of_ble_eq_true rfl⟩) hD hS hA (fun r_15 u_15 H locs hq_15 hP hD hS => ?_)
            obtain ⟨er9, eu9⟩ := hq_15
            subst er9 eu9
            refine wtopi (1) rfl ?_
            refine lv_if_eq (tgt := 90) hx hb dX6_slot_85 (by decide) (fun h9 => absurd h9 (by decide)) (fun _ => ?_)
            refine lv_iconst (v := 0) hx hb dX6_slot_88 (by decide) ?_
            exact W.iret (v := 0) hx hb hr (fun t9 ht9 hW9 => ⟨⟨_, cs_N u 4 (m_code true false false), rfl, ⟨fun _ => congrArg (cs_N u 4) (by simp [c_7, c_18, c_49, c_59, c_74]), fun h9 => absurd h9 (by simp [m_code, c_7, c_18, c_49, c_59, c_74])⟩, by rw [ht9]; exact hP, va_K.moved hW9.alike hK, hD⟩, hS.F ht9⟩) hS.2.2 dX6_slot_89
          · refine lv_iconst (v := 1) hx hb dX6_slot_77 (by decide) ?_
            refine lv_goto (tgt := 82) hx hb dX6_slot_78 (by decide) ?_
            refine w_cali (w := wR a k) (va_runV (As := [.int 1, .int 0, .int 1]) (rest := []) ⟨hx, hb, hml, hown, hts⟩ (c_X6_throwing l dC dI a k u _ true false true) (cwV 3 hts (wG_V wG_c q_654 q_656 p_7 q_7 q_657) rfl rfl rfl (by decide +kernel) ⟨Nat.le_of_ble_eq_true rfl, Nat.le_of_ble_eq_true rfl⟩) (w_muV hK hP hD (ci := 6) (q0 := 0) rfl (wR_g0 a k _) rfl) rfl rfl hl.1 rfl (lv_room (Nat.le_of_ble_eq_true rfl)) dX6_slot_82 ⟨Nat.le_of_ble_eq_true rfl, Nat.le_of_ble_eq_true rfl⟩) hD hS hA (fun r_16 u_16 H locs hq_16 hP hD hS => ?_)
            obtain ⟨er9, eu9⟩ := hq_16
            subst er9 eu9
            refine wtopi (1) rfl ?_
            refine lv_if_eq (tgt := 90) hx hb dX6_slot_85 (by decide) (fun h9 => absurd h9 (by decide)) (fun _ => ?_)
            refine lv_iconst (v := 0) hx hb dX6_slot_88 (by decide) ?_
            exact W.iret (v := 0) hx hb hr (fun t9 ht9 hW9 => ⟨⟨_, cs_N u 4 (m_code true false true), rfl, ⟨fun _ => congrArg (cs_N u 4) (by simp [c_7, c_18, c_49, c_59, c_74]), fun h9 => absurd h9 (by simp [m_code, c_7, c_18, c_49, c_59, c_74])⟩, by rw [ht9]; exact hP, va_K.moved hW9.alike hK, hD⟩, hS.F ht9⟩) hS.2.2 dX6_slot_89
        · refine lv_iconst (v := 1) hx hb dX6_slot_62 (by decide) ?_
          refine lv_goto (tgt := 67) hx hb dX6_slot_63 (by decide) ?_
          refine lv_aload_n hx hb dX6_slot_67 rfl (lv_at hl 1 rfl) ?_
          refine va_get (D := (dC, dI)) (ci := 6) (v := .int (nI (cu_N u 0))) (C := RX6) (T := TX6) (N := 20) hx hb htg inX6 hown hK hP 0 (wR_g0 a k _) rfl 1 (by decide) (htg _ q_582) (fun _ h9 => h9) rfl dX6_slot_68 ?_
          refine lv_sipush (v := 200) hx hb dX6_slot_71 (by decide) ?_
          refine nb_ne (a := (cu_N u 0)) (b := 200) (tgt := 81) hx hb (by omega) (by omega) rfl rfl dX6_slot_74 (by decide) (fun c_74 => ?_) (fun c_74 => ?_)
          · refine lv_iconst (v := 0) hx hb dX6_slot_81 (by decide) ?_
            refine w_cali (w := wR a k) (va_runV (As := [.int 1, .int 1, .int 0]) (rest := []) ⟨hx, hb, hml, hown, hts⟩ (c_X6_throwing l dC dI a k u _ true true false) (cwV 3 hts (wG_V wG_c q_654 q_656 p_7 q_7 q_657) rfl rfl rfl (by decide +kernel) ⟨Nat.le_of_ble_eq_true rfl, Nat.le_of_ble_eq_true rfl⟩) (w_muV hK hP hD (ci := 6) (q0 := 0) rfl (wR_g0 a k _) rfl) rfl rfl hl.1 rfl (lv_room (Nat.le_of_ble_eq_true rfl)) dX6_slot_82 ⟨Nat.le_of_ble_eq_true rfl, Nat.le_of_ble_eq_true rfl⟩) hD hS hA (fun r_17 u_17 H locs hq_17 hP hD hS => ?_)
            obtain ⟨er9, eu9⟩ := hq_17
            subst er9 eu9
            refine wtopi (1) rfl ?_
            refine lv_if_eq (tgt := 90) hx hb dX6_slot_85 (by decide) (fun h9 => absurd h9 (by decide)) (fun _ => ?_)
            refine lv_iconst (v := 0) hx hb dX6_slot_88 (by decide) ?_
            exact W.iret (v := 0) hx hb hr (fun t9 ht9 hW9 => ⟨⟨_, cs_N u 4 (m_code true true false), rfl, ⟨fun _ => congrArg (cs_N u 4) (by simp [c_7, c_18, c_49, c_59, c_74]), fun h9 => absurd h9 (by simp [m_code, c_7, c_18, c_49, c_59, c_74])⟩, by rw [ht9]; exact hP, va_K.moved hW9.alike hK, hD⟩, hS.F ht9⟩) hS.2.2 dX6_slot_89
          · refine lv_iconst (v := 1) hx hb dX6_slot_77 (by decide) ?_
            refine lv_goto (tgt := 82) hx hb dX6_slot_78 (by decide) ?_
            refine w_cali (w := wR a k) (va_runV (As := [.int 1, .int 1, .int 1]) (rest := []) ⟨hx, hb, hml, hown, hts⟩ (c_X6_throwing l dC dI a k u _ true true true) (cwV 3 hts (wG_V wG_c q_654 q_656 p_7 q_7 q_657) rfl rfl rfl (by decide +kernel) ⟨Nat.le_of_ble_eq_true rfl, Nat.le_of_ble_eq_true rfl⟩) (w_muV hK hP hD (ci := 6) (q0 := 0) rfl (wR_g0 a k _) rfl) rfl rfl hl.1 rfl (lv_room (Nat.le_of_ble_eq_true rfl)) dX6_slot_82 ⟨Nat.le_of_ble_eq_true rfl, Nat.le_of_ble_eq_true rfl⟩) hD hS hA (fun r_18 u_18 H locs hq_18 hP hD hS => ?_)
            obtain ⟨er9, eu9⟩ := hq_18
            subst er9 eu9
            refine wtopi (1) rfl ?_
            refine lv_if_eq (tgt := 90) hx hb dX6_slot_85 (by decide) (fun h9 => absurd h9 (by decide)) (fun _ => ?_)
            refine lv_iconst (v := 0) hx hb dX6_slot_88 (by decide) ?_
            exact W.iret (v := 0) hx hb hr (fun t9 ht9 hW9 => ⟨⟨_, cs_N u 4 (m_code true true true), rfl, ⟨fun _ => congrArg (cs_N u 4) (by simp [c_7, c_18, c_49, c_59, c_74]), fun h9 => absurd h9 (by simp [m_code, c_7, c_18, c_49, c_59, c_74])⟩, by rw [ht9]; exact hP, va_K.moved hW9.alike hK, hD⟩, hS.F ht9⟩) hS.2.2 dX6_slot_89
    · refine lv_iload hx hb dX6_slot_21 (lv_at hl 6 rfl) ?_
      refine lv_iconst (v := 0) hx hb dX6_slot_23 (by decide) ?_
      refine lv_bipush (v := 49) hx hb dX6_slot_24 (by decide) ?_
      refine vp_callSi (W.runS (As := [.int p5, .int 0, .int 49]) (rest := []) ⟨hx, hb, hml, hown, hts⟩ (c_X6_in l dC dI a k u p5 0 49) (cwS 3 hts (wG_S wG_c q_650 q_651 q_7 q_652) rfl rfl rfl (by decide +kernel) ⟨Nat.le_of_ble_eq_true rfl, Nat.le_of_ble_eq_true rfl⟩) (w_roS hK hP) rfl rfl hl.1 rfl (lv_room (Nat.le_of_ble_eq_true rfl)) dX6_slot_26 ⟨Nat.le_of_ble_eq_true rfl, Nat.le_of_ble_eq_true rfl⟩) (fun r_19 hr_19 => ?_)
      subst hr_19
      refine bz_ne (a := (inR p5 0 49)) (tgt := 36) hx hb dX6_slot_29 (by decide) (fun c_29 => ?_) (fun c_29 => ?_)
      · refine lv_iconst (v := 0) hx hb dX6_slot_36 (by decide) ?_
        refine lv_istore (lv' := [(8, .int 0), (0, .ref (a 0)), (1, .int p0), (2, .int p1), (3, .int p2), (4, .long bt), (6, .int p4), (7, .int p5)]) hx hb dX6_slot_37 hl (by decide) rfl (fun ls hl => ?_)
        refine lv_aload_n hx hb dX6_slot_39 rfl (lv_at hl 1 rfl) ?_
        refine lv_iload hx hb dX6_slot_40 (lv_at hl 0 rfl) ?_
        refine lv_iload_n hx hb dX6_slot_42 rfl (lv_at hl 3 rfl) ?_
        refine lv_iconst (v := 0) hx hb dX6_slot_43 (by decide) ?_
        refine lv_ldc (v := 9999999) hx hb hown (htg _ q_653) dX6_slot_44 ?_
        refine vp_callSi (W.runS (As := [.int p1, .int 0, .int 9999999]) (rest := [.int 0, .ref (a 0)]) ⟨hx, hb, hml, hown, hts⟩ (c_X6_in l dC dI a k u p1 0 9999999) (cwS 3 hts (wG_S wG_c q_650 q_651 q_7 q_652) rfl rfl rfl (by decide +kernel) ⟨Nat.le_of_ble_eq_true rfl, Nat.le_of_ble_eq_true rfl⟩) (w_roS hK hP) rfl rfl hl.1 rfl (lv_room (Nat.le_of_ble_eq_true rfl)) dX6_slot_46 ⟨Nat.le_of_ble_eq_true rfl, Nat.le_of_ble_eq_true rfl⟩) (fun r_20 hr_20 => ?_)
        subst hr_20
        refine bz_eq (a := (inR p1 0 9999999)) (tgt := 62) hx hb dX6_slot_49 (by decide) (fun c_49 => ?_) (fun c_49 => ?_)
        · refine lv_iconst (v := 1) hx hb dX6_slot_62 (by decide) ?_
          refine lv_goto (tgt := 67) hx hb dX6_slot_63 (by decide) ?_
          refine lv_aload_n hx hb dX6_slot_67 rfl (lv_at hl 1 rfl) ?_
          refine va_get (D := (dC, dI)) (ci := 6) (v := .int (nI (cu_N u 0))) (C := RX6) (T := TX6) (N := 20) hx hb htg inX6 hown hK hP 0 (wR_g0 a k _) rfl 1 (by decide) (htg _ q_582) (fun _ h9 => h9) rfl dX6_slot_68 ?_
          refine lv_sipush (v := 200) hx hb dX6_slot_71 (by decide) ?_
          refine nb_ne (a := (cu_N u 0)) (b := 200) (tgt := 81) hx hb (by omega) (by omega) rfl rfl dX6_slot_74 (by decide) (fun c_74 => ?_) (fun c_74 => ?_)
          · refine lv_iconst (v := 0) hx hb dX6_slot_81 (by decide) ?_
            refine w_cali (w := wR a k) (va_runV (As := [.int 0, .int 1, .int 0]) (rest := []) ⟨hx, hb, hml, hown, hts⟩ (c_X6_throwing l dC dI a k u _ false true false) (cwV 3 hts (wG_V wG_c q_654 q_656 p_7 q_7 q_657) rfl rfl rfl (by decide +kernel) ⟨Nat.le_of_ble_eq_true rfl, Nat.le_of_ble_eq_true rfl⟩) (w_muV hK hP hD (ci := 6) (q0 := 0) rfl (wR_g0 a k _) rfl) rfl rfl hl.1 rfl (lv_room (Nat.le_of_ble_eq_true rfl)) dX6_slot_82 ⟨Nat.le_of_ble_eq_true rfl, Nat.le_of_ble_eq_true rfl⟩) hD hS hA (fun r_21 u_21 H locs hq_21 hP hD hS => ?_)
            obtain ⟨er9, eu9⟩ := hq_21
            subst er9 eu9
            refine wtopi (1) rfl ?_
            refine lv_if_eq (tgt := 90) hx hb dX6_slot_85 (by decide) (fun h9 => absurd h9 (by decide)) (fun _ => ?_)
            refine lv_iconst (v := 0) hx hb dX6_slot_88 (by decide) ?_
            exact W.iret (v := 0) hx hb hr (fun t9 ht9 hW9 => ⟨⟨_, cs_N u 4 (m_code false true false), rfl, ⟨fun _ => congrArg (cs_N u 4) (by simp [c_7, c_18, c_29, c_49, c_74]), fun h9 => absurd h9 (by simp [m_code, c_7, c_18, c_29, c_49, c_74])⟩, by rw [ht9]; exact hP, va_K.moved hW9.alike hK, hD⟩, hS.F ht9⟩) hS.2.2 dX6_slot_89
          · refine lv_iconst (v := 1) hx hb dX6_slot_77 (by decide) ?_
            refine lv_goto (tgt := 82) hx hb dX6_slot_78 (by decide) ?_
            refine w_cali (w := wR a k) (va_runV (As := [.int 0, .int 1, .int 1]) (rest := []) ⟨hx, hb, hml, hown, hts⟩ (c_X6_throwing l dC dI a k u _ false true true) (cwV 3 hts (wG_V wG_c q_654 q_656 p_7 q_7 q_657) rfl rfl rfl (by decide +kernel) ⟨Nat.le_of_ble_eq_true rfl, Nat.le_of_ble_eq_true rfl⟩) (w_muV hK hP hD (ci := 6) (q0 := 0) rfl (wR_g0 a k _) rfl) rfl rfl hl.1 rfl (lv_room (Nat.le_of_ble_eq_true rfl)) dX6_slot_82 ⟨Nat.le_of_ble_eq_true rfl, Nat.le_of_ble_eq_true rfl⟩) hD hS hA (fun r_22 u_22 H locs hq_22 hP hD hS => ?_)
            obtain ⟨er9, eu9⟩ := hq_22
            subst er9 eu9
            refine wtopi (1) rfl ?_
            refine lv_if_eq (tgt := 90) hx hb dX6_slot_85 (by decide) (fun h9 => absurd h9 (by decide)) (fun _ => ?_)
            refine lv_iconst (v := 0) hx hb dX6_slot_88 (by decide) ?_
            exact W.iret (v := 0) hx hb hr (fun t9 ht9 hW9 => ⟨⟨_, cs_N u 4 (m_code false true true), rfl, ⟨fun _ => congrArg (cs_N u 4) (by simp [c_7, c_18, c_29, c_49, c_74]), fun h9 => absurd h9 (by simp [m_code, c_7, c_18, c_29, c_49, c_74])⟩, by rw [ht9]; exact hP, va_K.moved hW9.alike hK, hD⟩, hS.F ht9⟩) hS.2.2 dX6_slot_89
        · refine lv_iload_n hx hb dX6_slot_52 rfl (lv_at hl 4 rfl) ?_
          refine lv_iconst (v := 1) hx hb dX6_slot_53 (by decide) ?_
          refine lv_bipush (v := 8) hx hb dX6_slot_54 (by decide) ?_
          refine vp_callSi (W.runS (As := [.int p2, .int 1, .int 8]) (rest := [.int 0, .ref (a 0)]) ⟨hx, hb, hml, hown, hts⟩ (c_X6_in l dC dI a k u p2 1 8) (cwS 3 hts (wG_S wG_c q_650 q_651 q_7 q_652) rfl rfl rfl (by decide +kernel) ⟨Nat.le_of_ble_eq_true rfl, Nat.le_of_ble_eq_true rfl⟩) (w_roS hK hP) rfl rfl hl.1 rfl (lv_room (Nat.le_of_ble_eq_true rfl)) dX6_slot_56 ⟨Nat.le_of_ble_eq_true rfl, Nat.le_of_ble_eq_true rfl⟩) (fun r_23 hr_23 => ?_)
          subst hr_23
          refine bz_ne (a := (inR p2 1 8)) (tgt := 66) hx hb dX6_slot_59 (by decide) (fun c_59 => ?_) (fun c_59 => ?_)
          · refine lv_iconst (v := 0) hx hb dX6_slot_66 (by decide) ?_
            refine lv_aload_n hx hb dX6_slot_67 rfl (lv_at hl 1 rfl) ?_
            refine va_get (D := (dC, dI)) (ci := 6) (v := .int (nI (cu_N u 0))) (C := RX6) (T := TX6) (N := 20) hx hb htg inX6 hown hK hP 0 (wR_g0 a k _) rfl 1 (by decide) (htg _ q_582) (fun _ h9 => h9) rfl dX6_slot_68 ?_
            refine lv_sipush (v := 200) hx hb dX6_slot_71 (by decide) ?_
            refine nb_ne (a := (cu_N u 0)) (b := 200) (tgt := 81) hx hb (by omega) (by omega) rfl rfl dX6_slot_74 (by decide) (fun c_74 => ?_) (fun c_74 => ?_)
            · refine lv_iconst (v := 0) hx hb dX6_slot_81 (by decide) ?_
              refine w_cali (w := wR a k) (va_runV (As := [.int 0, .int 0, .int 0]) (rest := []) ⟨hx, hb, hml, hown, hts⟩ (c_X6_throwing l dC dI a k u _ false false false) (cwV 3 hts (wG_V wG_c q_654 q_656 p_7 q_7 q_657) rfl rfl rfl (by decide +kernel) ⟨Nat.le_of_ble_eq_true rfl, Nat.le_of_ble_eq_true rfl⟩) (w_muV hK hP hD (ci := 6) (q0 := 0) rfl (wR_g0 a k _) rfl) rfl rfl hl.1 rfl (lv_room (Nat.le_of_ble_eq_true rfl)) dX6_slot_82 ⟨Nat.le_of_ble_eq_true rfl, Nat.le_of_ble_eq_true rfl⟩) hD hS hA (fun r_24 u_24 H locs hq_24 hP hD hS => ?_)
              obtain ⟨er9, eu9⟩ := hq_24
              subst er9 eu9
              refine wtopi (0) rfl ?_
              refine lv_if_eq (tgt := 90) hx hb dX6_slot_85 (by decide) (fun _ => ?_) (fun h9 => absurd h9 (by decide))
              obtain ⟨sc, l_sc, h_sc, e_sc⟩ := inR_nat (l9 := 0) (h9 := 9) c_7 rfl rfl (by decide)
              subst e_sc
              obtain ⟨un, l_un, h_un, e_un⟩ := inR_nat (l9 := 0) (h9 := 99) c_18 rfl rfl (by decide)
              subst e_un
              obtain ⟨ic, l_ic, h_ic, e_ic⟩ := inR_nat (l9 := 0) (h9 := 49) c_29 rfl rfl (by decide)
              subst e_ic
              obtain ⟨tm, l_tm, h_tm, e_tm⟩ := inR_nat (l9 := 0) (h9 := 9999999) c_49 rfl rfl (by decide)
              subst e_tm
              obtain ⟨n, l_n, h_n, e_n⟩ := inR_nat (l9 := 1) (h9 := 8) c_59 rfl rfl (by decide)
              subst e_n
              have hN2 : cu_N u 0 < 200 := by omega
              refine lv_aload_n hx hb dX6_slot_90 rfl (lv_at hl 1 rfl) ?_
              refine va_get (D := (dC, dI)) (ci := 6) (v := .int (nI (cu_N (cs_N u 4 (m_code false false false)) 0))) (C := RX6) (T := TX6) (N := 20) hx hb htg inX6 hown hK hP 0 (wR_g0 a k _) rfl 1 (by decide) (htg _ q_582) (fun _ h9 => h9) rfl dX6_slot_91 ?_
              refine wtopi (y := nI (cu_N u 0)) rfl ?_
              refine lv_istore (lv' := [(9, .int (nI (cu_N u 0))), (8, .int 0), (0, .ref (a 0)), (1, .int (nI sc)), (2, .int (nI tm)), (3, .int (nI n)), (4, .long bt), (6, .int (nI un)), (7, .int (nI ic))]) hx hb dX6_slot_94 hl (by decide) rfl (fun ls hl => ?_)
              refine lv_aload_n hx hb dX6_slot_96 rfl (lv_at hl 2 rfl) ?_
              refine va_get (D := (dC, dI)) (ci := 6) (v := .ref (a 1)) (C := RX6) (T := TX6) (N := 20) hx hb htg inX6 hown hK hP 0 (wR_g0 a k _) rfl 2 (by decide) (htg _ q_583) (fun _ h9 => h9) rfl dX6_slot_97 ?_
              refine lv_iload hx hb dX6_slot_100 (lv_at hl 0 rfl) ?_
              refine lv_iload_n hx hb dX6_slot_102 rfl (lv_at hl 3 rfl) ?_
              refine va_iast hx hb hK hP hD hS 1 0 (wR_g1 a k _) rfl (vp_in_nI (n := (cu_N u 0)) (N := 200) hN2 (by decide)) dX6_slot_103 (fun H locs hP hD hS => ?_)
              have hP := w_pE (wR_s1 a k _ (cu_N u 0) sc (Nat.lt_trans (m := 200) hN2 (by decide))) hP
              have hD := w_dE (wR_s1 a k _ (cu_N u 0) sc (Nat.lt_trans (m := 200) hN2 (by decide))) hD
              refine lv_aload_n hx hb dX6_slot_104 rfl (lv_at hl 2 rfl) ?_
              refine va_get (D := (dC, dI)) (ci := 6) (v := .ref (a 2)) (C := RX6) (T := TX6) (N := 20) hx hb htg inX6 hown hK hP 0 (wR_g0 a k _) rfl 3 (by decide) (htg _ q_584) (fun _ h9 => h9) rfl dX6_slot_105 ?_
              refine lv_iload hx hb dX6_slot_108 (lv_at hl 0 rfl) ?_
              refine lv_iload_n hx hb dX6_slot_110 rfl (lv_at hl 4 rfl) ?_
              refine va_iast hx hb hK hP hD hS 2 0 (wR_g2 a k _) rfl (vp_in_nI (n := (cu_N u 0)) (N := 200) hN2 (by decide)) dX6_slot_111 (fun H locs hP hD hS => ?_)
              have hP := w_pE (wR_s2 a k _ (cu_N u 0) tm (Nat.lt_trans (m := 200) hN2 (by decide))) hP
              have hD := w_dE (wR_s2 a k _ (cu_N u 0) tm (Nat.lt_trans (m := 200) hN2 (by decide))) hD
              refine lv_aload_n hx hb dX6_slot_112 rfl (lv_at hl 2 rfl) ?_
              refine va_get (D := (dC, dI)) (ci := 6) (v := .ref (a 3)) (C := RX6) (T := TX6) (N := 20) hx hb htg inX6 hown hK hP 0 (wR_g0 a k _) rfl 4 (by decide) (htg _ q_585) (fun _ h9 => h9) rfl dX6_slot_113 ?_
              refine lv_iload hx hb dX6_slot_116 (lv_at hl 0 rfl) ?_
              refine lv_iload_n hx hb dX6_slot_118 rfl (lv_at hl 5 rfl) ?_
              refine va_iast hx hb hK hP hD hS 3 0 (wR_g3 a k _) rfl (vp_in_nI (n := (cu_N u 0)) (N := 200) hN2 (by decide)) dX6_slot_119 (fun H locs hP hD hS => ?_)
              have hP := w_pE (wR_s3 a k _ (cu_N u 0) n (Nat.lt_trans (m := 200) hN2 (by decide))) hP
              have hD := w_dE (wR_s3 a k _ (cu_N u 0) n (Nat.lt_trans (m := 200) hN2 (by decide))) hD
              refine lv_aload_n hx hb dX6_slot_120 rfl (lv_at hl 2 rfl) ?_
              refine va_get (D := (dC, dI)) (ci := 6) (v := .ref (a 4)) (C := RX6) (T := TX6) (N := 20) hx hb htg inX6 hown hK hP 0 (wR_g0 a k _) rfl 6 (by decide) (htg _ q_587) (fun _ h9 => h9) rfl dX6_slot_121 ?_
              refine lv_iload hx hb dX6_slot_124 (lv_at hl 0 rfl) ?_
              refine lv_iload hx hb dX6_slot_126 (lv_at hl 7 rfl) ?_
              refine va_iast hx hb hK hP hD hS 4 0 (wR_g4 a k _) rfl (vp_in_nI (n := (cu_N u 0)) (N := 200) hN2 (by decide)) dX6_slot_128 (fun H locs hP hD hS => ?_)
              have hP := w_pE (wR_s4 a k _ (cu_N u 0) un (Nat.lt_trans (m := 200) hN2 (by decide))) hP
              have hD := w_dE (wR_s4 a k _ (cu_N u 0) un (Nat.lt_trans (m := 200) hN2 (by decide))) hD
              refine lv_aload_n hx hb dX6_slot_129 rfl (lv_at hl 2 rfl) ?_
              refine va_get (D := (dC, dI)) (ci := 6) (v := .ref (a 5)) (C := RX6) (T := TX6) (N := 20) hx hb htg inX6 hown hK hP 0 (wR_g0 a k _) rfl 7 (by decide) (htg _ q_588) (fun _ h9 => h9) rfl dX6_slot_130 ?_
              refine lv_iload hx hb dX6_slot_133 (lv_at hl 0 rfl) ?_
              refine lv_iload hx hb dX6_slot_135 (lv_at hl 8 rfl) ?_
              refine va_iast hx hb hK hP hD hS 5 0 (wR_g5 a k _) rfl (vp_in_nI (n := (cu_N u 0)) (N := 200) hN2 (by decide)) dX6_slot_137 (fun H locs hP hD hS => ?_)
              have hP := w_pE (wR_s5 a k _ (cu_N u 0) ic (Nat.lt_trans (m := 200) hN2 (by decide))) hP
              have hD := w_dE (wR_s5 a k _ (cu_N u 0) ic (Nat.lt_trans (m := 200) hN2 (by decide))) hD
              refine lv_iconst (v := 0) hx hb dX6_slot_138 (by decide) ?_
              refine lv_istore (lv' := [(10, .int 0), (9, .int (nI (cu_N u 0))), (8, .int 0), (0, .ref (a 0)), (1, .int (nI sc)), (2, .int (nI tm)), (3, .int (nI n)), (4, .long bt), (6, .int (nI un)), (7, .int (nI ic))]) hx hb dX6_slot_139 hl (by decide) rfl (fun ls hl => ?_)
              refine w_loopH (fun j : Nat => n - j) (fun j H locs ls => j ≤ n ∧ va_P (dC, dI) vwCl (wR a k (m_by (m_put (cs_N u 4 0) sc tm n un ic) (cu_N u 0) bt n j)) H ∧ va_D A (wR a k (m_by (m_put (cs_N u 4 0) sc tm n un ic) (cu_N u 0) bt n j)) ∧ va_S A s.heap H locs ∧ lv_has ls 11 [(0, .ref (a 0)), (3, .int (nI n)), (4, .long bt), (9, .int (nI (cu_N u 0))), (10, .int (nI j))]) ?_ 0 _ _ ls ⟨Nat.zero_le _, hP, hD, hS, lv_sub hl [3, 6, 7, 1, 0] rfl⟩
              clear hP hD hS hl
              intro j H locs ls hI ih
              obtain ⟨hj, hP, hD, hS, hl⟩ := hI
              refine lv_iload hx hb dX6_slot_141 (lv_at hl 4 rfl) ?_
              refine lv_iload_n hx hb dX6_slot_143 rfl (lv_at hl 1 rfl) ?_
              refine nb_ge (a := j) (b := n) (tgt := 183) hx hb (by omega) (by omega) rfl rfl dX6_slot_144 (by decide) (fun c_144 => ?_) (fun c_144 => ?_)
              · have ejn : j = n := by omega
                subst ejn
                refine lv_aload_n hx hb dX6_slot_183 rfl (lv_at hl 0 rfl) ?_
                refine va_get (D := (dC, dI)) (ci := 6) (v := .ref (a 12)) (C := RX6) (T := TX6) (N := 20) hx hb htg inX6 hown hK hP 0 (wR_g0 a k _) rfl 8 (by decide) (htg _ q_589) (fun _ h9 => h9) rfl dX6_slot_184 ?_
                refine lv_iload hx hb dX6_slot_187 (lv_at hl 3 rfl) ?_
                refine lv_aload_n hx hb dX6_slot_189 rfl (lv_at hl 0 rfl) ?_
                refine lv_iload hx hb dX6_slot_190 (lv_at hl 3 rfl) ?_
                have eF : cu_F (m_by (m_put (cs_N u 4 0) sc tm j un ic) (cu_N u 0) bt j j) 2 (cu_N u 0) = j := by rw [m_by_F]; simp [m_put, cx_FF, cx_NN, cx_FN, cx_NF]
                refine vp_callSi (W.runV (As := [.int (nI (cu_N u 0))]) (rest := [.int (nI (cu_N u 0)), .ref (a 12)]) ⟨hx, hb, hml, hown, hts⟩ (c_X6_sumOf l dC dI a k (m_by (m_put (cs_N u 4 0) sc tm j un ic) (cu_N u 0) bt j j) (cu_N u 0) hN2 (by rw [eF]; omega)) (cwV 1 hts (wG_V wG_c q_658 q_660 p_8 q_7 q_661) rfl rfl rfl (by decide +kernel) ⟨Nat.le_of_ble_eq_true rfl, Nat.le_of_ble_eq_true rfl⟩) (w_roV hK hP (ci := 6) (q0 := 0) rfl (wR_g0 a k _) rfl) rfl rfl hl.1 rfl (lv_room (Nat.le_of_ble_eq_true rfl)) dX6_slot_192 ⟨Nat.le_of_ble_eq_true rfl, Nat.le_of_ble_eq_true rfl⟩) (fun r_25 hr_25 => ?_)
                subst hr_25
                refine wtopi (m_sm (fun i => cu_G (m_by (m_put (cs_N u 4 0) sc tm j un ic) (cu_N u 0) bt j j) 2 (8 * cu_N u 0 + i)) 0 j) (by rw [eF]) ?_
                refine va_iast hx hb hK hP hD hS 12 0 (wR_g12 a k _) rfl (vp_in_nI (n := (cu_N u 0)) (N := 200) hN2 (by decide)) dX6_slot_195 (fun H locs hP hD hS => ?_)
                have hP := w_pE (wR_s12 a k _ (cu_N u 0) (m_sm (fun i => cu_G (m_by (m_put (cs_N u 4 0) sc tm j un ic) (cu_N u 0) bt j j) 2 (8 * cu_N u 0 + i)) 0 j) (Nat.lt_trans (m := 200) hN2 (by decide))) hP
                have hD := w_dE (wR_s12 a k _ (cu_N u 0) (m_sm (fun i => cu_G (m_by (m_put (cs_N u 4 0) sc tm j un ic) (cu_N u 0) bt j j) 2 (8 * cu_N u 0 + i)) 0 j) (Nat.lt_trans (m := 200) hN2 (by decide))) hD
                refine lv_aload_n hx hb dX6_slot_196 rfl (lv_at hl 0 rfl) ?_
                refine lv_dup hx hb dX6_slot_197 rfl ?_
                have eN : cu_N (cs_G (m_by (m_put (cs_N u 4 0) sc tm j un ic) (cu_N u 0) bt j j) 0 (cu_N u 0) (m_sm (fun i => cu_G (m_by (m_put (cs_N u 4 0) sc tm j un ic) (cu_N u 0) bt j j) 2 (8 * cu_N u 0 + i)) 0 j)) 0 = cu_N u 0 := by show cu_N (m_by _ _ _ _ _) 0 = _; rw [m_by_N]; rfl
                refine va_get (D := (dC, dI)) (ci := 6) (v := .int (nI (cu_N (cs_G (m_by (m_put (cs_N u 4 0) sc tm j un ic) (cu_N u 0) bt j j) 0 (cu_N u 0) (m_sm (fun i => cu_G (m_by (m_put (cs_N u 4 0) sc tm j un ic) (cu_N u 0) bt j j) 2 (8 * cu_N u 0 + i)) 0 j)) 0))) (C := RX6) (T := TX6) (N := 20) hx hb htg inX6 hown hK hP 0 (wR_g0 a k _) rfl 1 (by decide) (htg _ q_582) (fun _ h9 => h9) rfl dX6_slot_198 ?_
                refine wtopi (y := nI (cu_N u 0)) (congrArg nI eN) ?_
                refine lv_iconst (v := 1) hx hb dX6_slot_201 (by decide) ?_
                refine lv_iadd hx hb dX6_slot_202 ?_
                refine wtopi (y := nI (cu_N u 0 + 1)) (nI_1 (cu_N u 0)) ?_
                refine va_put (D := (dC, dI)) (ci := 6) (v := .int (nI (cu_N u 0 + 1))) (ty := .int) (C := RX6) (T := TX6) (N := 20) hx hb htg inX6 tyX6 tyX6_ok nmX6 hown hK hP hD hS 0 (wR_g0 a k _) rfl 1 (by decide) (htg _ q_582) (fun _ h9 => h9) rfl (by decide +kernel) rfl rfl (Nat.le_of_ble_eq_true rfl) dX6_slot_203 (fun H locs hP hD hS => ?_)
                have hP := w_pE (wR_n0 a k _ (cu_N u 0 + 1)) hP
                have hD := w_dE (wR_n0 a k _ (cu_N u 0 + 1)) hD
                refine lv_iload hx hb dX6_slot_206 (lv_at hl 3 rfl) ?_
                exact W.iret (v := nI (cu_N u 0)) hx hb hr (fun t9 ht9 hW9 => ⟨⟨_, cs_N (cs_G (m_by (m_put (cs_N u 4 0) sc tm j un ic) (cu_N u 0) bt j j) 0 (cu_N u 0) (m_sm (fun i => cu_G (m_by (m_put (cs_N u 4 0) sc tm j un ic) (cu_N u 0) bt j j) 2 (8 * cu_N u 0 + i)) 0 j)) 0 (cu_N u 0 + 1), rfl, ⟨fun h9 => absurd (by simp [m_code, c_7, c_18, c_29, c_49, c_59, c_74]) h9, fun _ => ⟨sc, tm, j, un, ic, rfl, rfl, rfl, rfl, rfl, h_sc, h_tm, l_n, h_n, h_un, h_ic, hN2, rfl, rfl⟩⟩, by rw [ht9]; exact hP, va_K.moved hW9.alike hK, hD⟩, hS.F ht9⟩) hS.2.2 dX6_slot_208
              · refine lv_aload_n hx hb dX6_slot_147 rfl (lv_at hl 0 rfl) ?_
                refine va_get (D := (dC, dI)) (ci := 6) (v := .ref (a 14)) (C := RX6) (T := TX6) (N := 20) hx hb htg inX6 hown hK hP 0 (wR_g0 a k _) rfl 5 (by decide) (htg _ q_586) (fun _ h9 => h9) rfl dX6_slot_148 ?_
                refine lv_bipush (v := 8) hx hb dX6_slot_151 (by decide) ?_
                refine lv_iload hx hb dX6_slot_153 (lv_at hl 3 rfl) ?_
                refine lv_imul hx hb dX6_slot_155 ?_
                refine wtopi (y := nI (8 * cu_N u 0)) (pk_mul 8 (cu_N u 0)) ?_
                refine lv_iload hx hb dX6_slot_156 (lv_at hl 4 rfl) ?_
                refine lv_iadd hx hb dX6_slot_158 ?_
                refine wtopi (y := nI (8 * cu_N u 0 + j)) (nI_add _ _) ?_
                refine lv_lload hx hb dX6_slot_159 (lv_at hl 2 rfl) ?_
                refine lv_bipush (v := 8) hx hb dX6_slot_161 (by decide) ?_
                refine lv_iload_n hx hb dX6_slot_163 rfl (lv_at hl 1 rfl) ?_
                refine lv_iconst (v := 1) hx hb dX6_slot_164 (by decide) ?_
                refine lv_isub hx hb dX6_slot_165 ?_
                refine wtopi (y := nI (n - 1)) (pk_sub (a := n) (b := 1) (by omega)) ?_
                refine lv_iload hx hb dX6_slot_166 (lv_at hl 4 rfl) ?_
                refine lv_isub hx hb dX6_slot_168 ?_
                refine wtopi (y := nI (n - 1 - j)) (pk_sub (a := n - 1) (b := j) (by omega)) ?_
                refine lv_imul hx hb dX6_slot_169 ?_
                refine wtopi (y := nI (8 * (n - 1 - j))) (pk_mul 8 (n - 1 - j)) ?_
                refine lv_lshr hx hb dX6_slot_170 rfl ?_
                refine lv_l2i hx hb dX6_slot_171 rfl ?_
                refine lv_sipush (v := 255) hx hb dX6_slot_172 (by decide) ?_
                refine lv_iand hx hb dX6_slot_175 ?_
                refine wtopi (y := m_byte bt (nI (8 * (n - 1 - j)))) rfl ?_
                refine va_iast hx hb hK hP hD hS 14 0 (wR_g14 a k _) rfl (vp_in_nI (n := (8 * cu_N u 0 + j)) (N := 1600) (show 8 * cu_N u 0 + j < 1600 by omega) (by decide)) dX6_slot_176 (fun H locs hP hD hS => ?_)
                have hP := w_pE (wR_s14 a k _ (8 * cu_N u 0 + j) (m_byte bt (nI (8 * (n - 1 - j)))) (Nat.lt_trans (m := 1600) (show 8 * cu_N u 0 + j < 1600 by omega) (by decide))) hP
                have hD := w_dE (wR_s14 a k _ (8 * cu_N u 0 + j) (m_byte bt (nI (8 * (n - 1 - j)))) (Nat.lt_trans (m := 1600) (show 8 * cu_N u 0 + j < 1600 by omega) (by decide))) hD
                refine lv_iinc (v := nI (j + 1)) (lv' := [(10, .int (nI (j + 1))), (0, .ref (a 0)), (3, .int (nI n)), (4, .long bt), (9, .int (nI (cu_N u 0)))]) hx hb dX6_slot_177 hl (k := 4) rfl (nI_1 j) (by decide) rfl (fun ls hl => ?_)
                refine lv_goto (tgt := 141) hx hb dX6_slot_180 (by decide) ?_
                exact ih (j + 1) H locs ls (by omega) ⟨by omega, hP, hD, hS, lv_sub hl [1, 2, 3, 4, 0] rfl⟩
            · refine lv_iconst (v := 1) hx hb dX6_slot_77 (by decide) ?_
              refine lv_goto (tgt := 82) hx hb dX6_slot_78 (by decide) ?_
              refine w_cali (w := wR a k) (va_runV (As := [.int 0, .int 0, .int 1]) (rest := []) ⟨hx, hb, hml, hown, hts⟩ (c_X6_throwing l dC dI a k u _ false false true) (cwV 3 hts (wG_V wG_c q_654 q_656 p_7 q_7 q_657) rfl rfl rfl (by decide +kernel) ⟨Nat.le_of_ble_eq_true rfl, Nat.le_of_ble_eq_true rfl⟩) (w_muV hK hP hD (ci := 6) (q0 := 0) rfl (wR_g0 a k _) rfl) rfl rfl hl.1 rfl (lv_room (Nat.le_of_ble_eq_true rfl)) dX6_slot_82 ⟨Nat.le_of_ble_eq_true rfl, Nat.le_of_ble_eq_true rfl⟩) hD hS hA (fun r_26 u_26 H locs hq_26 hP hD hS => ?_)
              obtain ⟨er9, eu9⟩ := hq_26
              subst er9 eu9
              refine wtopi (1) rfl ?_
              refine lv_if_eq (tgt := 90) hx hb dX6_slot_85 (by decide) (fun h9 => absurd h9 (by decide)) (fun _ => ?_)
              refine lv_iconst (v := 0) hx hb dX6_slot_88 (by decide) ?_
              exact W.iret (v := 0) hx hb hr (fun t9 ht9 hW9 => ⟨⟨_, cs_N u 4 (m_code false false true), rfl, ⟨fun _ => congrArg (cs_N u 4) (by simp [c_7, c_18, c_29, c_49, c_59, c_74]), fun h9 => absurd h9 (by simp [m_code, c_7, c_18, c_29, c_49, c_59, c_74])⟩, by rw [ht9]; exact hP, va_K.moved hW9.alike hK, hD⟩, hS.F ht9⟩) hS.2.2 dX6_slot_89
          · refine lv_iconst (v := 1) hx hb dX6_slot_62 (by decide) ?_
            refine lv_goto (tgt := 67) hx hb dX6_slot_63 (by decide) ?_
            refine lv_aload_n hx hb dX6_slot_67 rfl (lv_at hl 1 rfl) ?_
            refine va_get (D := (dC, dI)) (ci := 6) (v := .int (nI (cu_N u 0))) (C := RX6) (T := TX6) (N := 20) hx hb htg inX6 hown hK hP 0 (wR_g0 a k _) rfl 1 (by decide) (htg _ q_582) (fun _ h9 => h9) rfl dX6_slot_68 ?_
            refine lv_sipush (v := 200) hx hb dX6_slot_71 (by decide) ?_
            refine nb_ne (a := (cu_N u 0)) (b := 200) (tgt := 81) hx hb (by omega) (by omega) rfl rfl dX6_slot_74 (by decide) (fun c_74 => ?_) (fun c_74 => ?_)
            · refine lv_iconst (v := 0) hx hb dX6_slot_81 (by decide) ?_
              refine w_cali (w := wR a k) (va_runV (As := [.int 0, .int 1, .int 0]) (rest := []) ⟨hx, hb, hml, hown, hts⟩ (c_X6_throwing l dC dI a k u _ false true false) (cwV 3 hts (wG_V wG_c q_654 q_656 p_7 q_7 q_657) rfl rfl rfl (by decide +kernel) ⟨Nat.le_of_ble_eq_true rfl, Nat.le_of_ble_eq_true rfl⟩) (w_muV hK hP hD (ci := 6) (q0 := 0) rfl (wR_g0 a k _) rfl) rfl rfl hl.1 rfl (lv_room (Nat.le_of_ble_eq_true rfl)) dX6_slot_82 ⟨Nat.le_of_ble_eq_true rfl, Nat.le_of_ble_eq_true rfl⟩) hD hS hA (fun r_27 u_27 H locs hq_27 hP hD hS => ?_)
              obtain ⟨er9, eu9⟩ := hq_27
              subst er9 eu9
              refine wtopi (1) rfl ?_
              refine lv_if_eq (tgt := 90) hx hb dX6_slot_85 (by decide) (fun h9 => absurd h9 (by decide)) (fun _ => ?_)
              refine lv_iconst (v := 0) hx hb dX6_slot_88 (by decide) ?_
              exact W.iret (v := 0) hx hb hr (fun t9 ht9 hW9 => ⟨⟨_, cs_N u 4 (m_code false true false), rfl, ⟨fun _ => congrArg (cs_N u 4) (by simp [c_7, c_18, c_29, c_49, c_59, c_74]), fun h9 => absurd h9 (by simp [m_code, c_7, c_18, c_29, c_49, c_59, c_74])⟩, by rw [ht9]; exact hP, va_K.moved hW9.alike hK, hD⟩, hS.F ht9⟩) hS.2.2 dX6_slot_89
            · refine lv_iconst (v := 1) hx hb dX6_slot_77 (by decide) ?_
              refine lv_goto (tgt := 82) hx hb dX6_slot_78 (by decide) ?_
              refine w_cali (w := wR a k) (va_runV (As := [.int 0, .int 1, .int 1]) (rest := []) ⟨hx, hb, hml, hown, hts⟩ (c_X6_throwing l dC dI a k u _ false true true) (cwV 3 hts (wG_V wG_c q_654 q_656 p_7 q_7 q_657) rfl rfl rfl (by decide +kernel) ⟨Nat.le_of_ble_eq_true rfl, Nat.le_of_ble_eq_true rfl⟩) (w_muV hK hP hD (ci := 6) (q0 := 0) rfl (wR_g0 a k _) rfl) rfl rfl hl.1 rfl (lv_room (Nat.le_of_ble_eq_true rfl)) dX6_slot_82 ⟨Nat.le_of_ble_eq_true rfl, Nat.le_of_ble_eq_true rfl⟩) hD hS hA (fun r_28 u_28 H locs hq_28 hP hD hS => ?_)
              obtain ⟨er9, eu9⟩ := hq_28
              subst er9 eu9
              refine wtopi (1) rfl ?_
              refine lv_if_eq (tgt := 90) hx hb dX6_slot_85 (by decide) (fun h9 => absurd h9 (by decide)) (fun _ => ?_)
              refine lv_iconst (v := 0) hx hb dX6_slot_88 (by decide) ?_
              exact W.iret (v := 0) hx hb hr (fun t9 ht9 hW9 => ⟨⟨_, cs_N u 4 (m_code false true true), rfl, ⟨fun _ => congrArg (cs_N u 4) (by simp [c_7, c_18, c_29, c_49, c_59, c_74]), fun h9 => absurd h9 (by simp [m_code, c_7, c_18, c_29, c_49, c_59, c_74])⟩, by rw [ht9]; exact hP, va_K.moved hW9.alike hK, hD⟩, hS.F ht9⟩) hS.2.2 dX6_slot_89
      · refine lv_iconst (v := 1) hx hb dX6_slot_32 (by decide) ?_
        refine lv_goto (tgt := 37) hx hb dX6_slot_33 (by decide) ?_
        refine lv_istore (lv' := [(8, .int 1), (0, .ref (a 0)), (1, .int p0), (2, .int p1), (3, .int p2), (4, .long bt), (6, .int p4), (7, .int p5)]) hx hb dX6_slot_37 hl (by decide) rfl (fun ls hl => ?_)
        refine lv_aload_n hx hb dX6_slot_39 rfl (lv_at hl 1 rfl) ?_
        refine lv_iload hx hb dX6_slot_40 (lv_at hl 0 rfl) ?_
        refine lv_iload_n hx hb dX6_slot_42 rfl (lv_at hl 3 rfl) ?_
        refine lv_iconst (v := 0) hx hb dX6_slot_43 (by decide) ?_
        refine lv_ldc (v := 9999999) hx hb hown (htg _ q_653) dX6_slot_44 ?_
        refine vp_callSi (W.runS (As := [.int p1, .int 0, .int 9999999]) (rest := [.int 1, .ref (a 0)]) ⟨hx, hb, hml, hown, hts⟩ (c_X6_in l dC dI a k u p1 0 9999999) (cwS 3 hts (wG_S wG_c q_650 q_651 q_7 q_652) rfl rfl rfl (by decide +kernel) ⟨Nat.le_of_ble_eq_true rfl, Nat.le_of_ble_eq_true rfl⟩) (w_roS hK hP) rfl rfl hl.1 rfl (lv_room (Nat.le_of_ble_eq_true rfl)) dX6_slot_46 ⟨Nat.le_of_ble_eq_true rfl, Nat.le_of_ble_eq_true rfl⟩) (fun r_29 hr_29 => ?_)
        subst hr_29
        refine bz_eq (a := (inR p1 0 9999999)) (tgt := 62) hx hb dX6_slot_49 (by decide) (fun c_49 => ?_) (fun c_49 => ?_)
        · refine lv_iconst (v := 1) hx hb dX6_slot_62 (by decide) ?_
          refine lv_goto (tgt := 67) hx hb dX6_slot_63 (by decide) ?_
          refine lv_aload_n hx hb dX6_slot_67 rfl (lv_at hl 1 rfl) ?_
          refine va_get (D := (dC, dI)) (ci := 6) (v := .int (nI (cu_N u 0))) (C := RX6) (T := TX6) (N := 20) hx hb htg inX6 hown hK hP 0 (wR_g0 a k _) rfl 1 (by decide) (htg _ q_582) (fun _ h9 => h9) rfl dX6_slot_68 ?_
          refine lv_sipush (v := 200) hx hb dX6_slot_71 (by decide) ?_
          refine nb_ne (a := (cu_N u 0)) (b := 200) (tgt := 81) hx hb (by omega) (by omega) rfl rfl dX6_slot_74 (by decide) (fun c_74 => ?_) (fun c_74 => ?_)
          · refine lv_iconst (v := 0) hx hb dX6_slot_81 (by decide) ?_
            refine w_cali (w := wR a k) (va_runV (As := [.int 1, .int 1, .int 0]) (rest := []) ⟨hx, hb, hml, hown, hts⟩ (c_X6_throwing l dC dI a k u _ true true false) (cwV 3 hts (wG_V wG_c q_654 q_656 p_7 q_7 q_657) rfl rfl rfl (by decide +kernel) ⟨Nat.le_of_ble_eq_true rfl, Nat.le_of_ble_eq_true rfl⟩) (w_muV hK hP hD (ci := 6) (q0 := 0) rfl (wR_g0 a k _) rfl) rfl rfl hl.1 rfl (lv_room (Nat.le_of_ble_eq_true rfl)) dX6_slot_82 ⟨Nat.le_of_ble_eq_true rfl, Nat.le_of_ble_eq_true rfl⟩) hD hS hA (fun r_30 u_30 H locs hq_30 hP hD hS => ?_)
            obtain ⟨er9, eu9⟩ := hq_30
            subst er9 eu9
            refine wtopi (1) rfl ?_
            refine lv_if_eq (tgt := 90) hx hb dX6_slot_85 (by decide) (fun h9 => absurd h9 (by decide)) (fun _ => ?_)
            refine lv_iconst (v := 0) hx hb dX6_slot_88 (by decide) ?_
            exact W.iret (v := 0) hx hb hr (fun t9 ht9 hW9 => ⟨⟨_, cs_N u 4 (m_code true true false), rfl, ⟨fun _ => congrArg (cs_N u 4) (by simp [c_7, c_18, c_29, c_49, c_74]), fun h9 => absurd h9 (by simp [m_code, c_7, c_18, c_29, c_49, c_74])⟩, by rw [ht9]; exact hP, va_K.moved hW9.alike hK, hD⟩, hS.F ht9⟩) hS.2.2 dX6_slot_89
          · refine lv_iconst (v := 1) hx hb dX6_slot_77 (by decide) ?_
            refine lv_goto (tgt := 82) hx hb dX6_slot_78 (by decide) ?_
            refine w_cali (w := wR a k) (va_runV (As := [.int 1, .int 1, .int 1]) (rest := []) ⟨hx, hb, hml, hown, hts⟩ (c_X6_throwing l dC dI a k u _ true true true) (cwV 3 hts (wG_V wG_c q_654 q_656 p_7 q_7 q_657) rfl rfl rfl (by decide +kernel) ⟨Nat.le_of_ble_eq_true rfl, Nat.le_of_ble_eq_true rfl⟩) (w_muV hK hP hD (ci := 6) (q0 := 0) rfl (wR_g0 a k _) rfl) rfl rfl hl.1 rfl (lv_room (Nat.le_of_ble_eq_true rfl)) dX6_slot_82 ⟨Nat.le_of_ble_eq_true rfl, Nat.le_of_ble_eq_true rfl⟩) hD hS hA (fun r_31 u_31 H locs hq_31 hP hD hS => ?_)
            obtain ⟨er9, eu9⟩ := hq_31
            subst er9 eu9
            refine wtopi (1) rfl ?_
            refine lv_if_eq (tgt := 90) hx hb dX6_slot_85 (by decide) (fun h9 => absurd h9 (by decide)) (fun _ => ?_)
            refine lv_iconst (v := 0) hx hb dX6_slot_88 (by decide) ?_
            exact W.iret (v := 0) hx hb hr (fun t9 ht9 hW9 => ⟨⟨_, cs_N u 4 (m_code true true true), rfl, ⟨fun _ => congrArg (cs_N u 4) (by simp [c_7, c_18, c_29, c_49, c_74]), fun h9 => absurd h9 (by simp [m_code, c_7, c_18, c_29, c_49, c_74])⟩, by rw [ht9]; exact hP, va_K.moved hW9.alike hK, hD⟩, hS.F ht9⟩) hS.2.2 dX6_slot_89
        · refine lv_iload_n hx hb dX6_slot_52 rfl (lv_at hl 4 rfl) ?_
          refine lv_iconst (v := 1) hx hb dX6_slot_53 (by decide) ?_
          refine lv_bipush (v := 8) hx hb dX6_slot_54 (by decide) ?_
          refine vp_callSi (W.runS (As := [.int p2, .int 1, .int 8]) (rest := [.int 1, .ref (a 0)]) ⟨hx, hb, hml, hown, hts⟩ (c_X6_in l dC dI a k u p2 1 8) (cwS 3 hts (wG_S wG_c q_650 q_651 q_7 q_652) rfl rfl rfl (by decide +kernel) ⟨Nat.le_of_ble_eq_true rfl, Nat.le_of_ble_eq_true rfl⟩) (w_roS hK hP) rfl rfl hl.1 rfl (lv_room (Nat.le_of_ble_eq_true rfl)) dX6_slot_56 ⟨Nat.le_of_ble_eq_true rfl, Nat.le_of_ble_eq_true rfl⟩) (fun r_32 hr_32 => ?_)
          subst hr_32
          refine bz_ne (a := (inR p2 1 8)) (tgt := 66) hx hb dX6_slot_59 (by decide) (fun c_59 => ?_) (fun c_59 => ?_)
          · refine lv_iconst (v := 0) hx hb dX6_slot_66 (by decide) ?_
            refine lv_aload_n hx hb dX6_slot_67 rfl (lv_at hl 1 rfl) ?_
            refine va_get (D := (dC, dI)) (ci := 6) (v := .int (nI (cu_N u 0))) (C := RX6) (T := TX6) (N := 20) hx hb htg inX6 hown hK hP 0 (wR_g0 a k _) rfl 1 (by decide) (htg _ q_582) (fun _ h9 => h9) rfl dX6_slot_68 ?_
            refine lv_sipush (v := 200) hx hb dX6_slot_71 (by decide) ?_
            refine nb_ne (a := (cu_N u 0)) (b := 200) (tgt := 81) hx hb (by omega) (by omega) rfl rfl dX6_slot_74 (by decide) (fun c_74 => ?_) (fun c_74 => ?_)
            · refine lv_iconst (v := 0) hx hb dX6_slot_81 (by decide) ?_
              refine w_cali (w := wR a k) (va_runV (As := [.int 1, .int 0, .int 0]) (rest := []) ⟨hx, hb, hml, hown, hts⟩ (c_X6_throwing l dC dI a k u _ true false false) (cwV 3 hts (wG_V wG_c q_654 q_656 p_7 q_7 q_657) rfl rfl rfl (by decide +kernel) ⟨Nat.le_of_ble_eq_true rfl, Nat.le_of_ble_eq_true rfl⟩) (w_muV hK hP hD (ci := 6) (q0 := 0) rfl (wR_g0 a k _) rfl) rfl rfl hl.1 rfl (lv_room (Nat.le_of_ble_eq_true rfl)) dX6_slot_82 ⟨Nat.le_of_ble_eq_true rfl, Nat.le_of_ble_eq_true rfl⟩) hD hS hA (fun r_33 u_33 H locs hq_33 hP hD hS => ?_)
              obtain ⟨er9, eu9⟩ := hq_33
              subst er9 eu9
              refine wtopi (1) rfl ?_
              refine lv_if_eq (tgt := 90) hx hb dX6_slot_85 (by decide) (fun h9 => absurd h9 (by decide)) (fun _ => ?_)
              refine lv_iconst (v := 0) hx hb dX6_slot_88 (by decide) ?_
              exact W.iret (v := 0) hx hb hr (fun t9 ht9 hW9 => ⟨⟨_, cs_N u 4 (m_code true false false), rfl, ⟨fun _ => congrArg (cs_N u 4) (by simp [c_7, c_18, c_29, c_49, c_59, c_74]), fun h9 => absurd h9 (by simp [m_code, c_7, c_18, c_29, c_49, c_59, c_74])⟩, by rw [ht9]; exact hP, va_K.moved hW9.alike hK, hD⟩, hS.F ht9⟩) hS.2.2 dX6_slot_89
            · refine lv_iconst (v := 1) hx hb dX6_slot_77 (by decide) ?_
              refine lv_goto (tgt := 82) hx hb dX6_slot_78 (by decide) ?_
              refine w_cali (w := wR a k) (va_runV (As := [.int 1, .int 0, .int 1]) (rest := []) ⟨hx, hb, hml, hown, hts⟩ (c_X6_throwing l dC dI a k u _ true false true) (cwV 3 hts (wG_V wG_c q_654 q_656 p_7 q_7 q_657) rfl rfl rfl (by decide +kernel) ⟨Nat.le_of_ble_eq_true rfl, Nat.le_of_ble_eq_true rfl⟩) (w_muV hK hP hD (ci := 6) (q0 := 0) rfl (wR_g0 a k _) rfl) rfl rfl hl.1 rfl (lv_room (Nat.le_of_ble_eq_true rfl)) dX6_slot_82 ⟨Nat.le_of_ble_eq_true rfl, Nat.le_of_ble_eq_true rfl⟩) hD hS hA (fun r_34 u_34 H locs hq_34 hP hD hS => ?_)
              obtain ⟨er9, eu9⟩ := hq_34
              subst er9 eu9
              refine wtopi (1) rfl ?_
              refine lv_if_eq (tgt := 90) hx hb dX6_slot_85 (by decide) (fun h9 => absurd h9 (by decide)) (fun _ => ?_)
              refine lv_iconst (v := 0) hx hb dX6_slot_88 (by decide) ?_
              exact W.iret (v := 0) hx hb hr (fun t9 ht9 hW9 => ⟨⟨_, cs_N u 4 (m_code true false true), rfl, ⟨fun _ => congrArg (cs_N u 4) (by simp [c_7, c_18, c_29, c_49, c_59, c_74]), fun h9 => absurd h9 (by simp [m_code, c_7, c_18, c_29, c_49, c_59, c_74])⟩, by rw [ht9]; exact hP, va_K.moved hW9.alike hK, hD⟩, hS.F ht9⟩) hS.2.2 dX6_slot_89
          · refine lv_iconst (v := 1) hx hb dX6_slot_62 (by decide) ?_
            refine lv_goto (tgt := 67) hx hb dX6_slot_63 (by decide) ?_
            refine lv_aload_n hx hb dX6_slot_67 rfl (lv_at hl 1 rfl) ?_
            refine va_get (D := (dC, dI)) (ci := 6) (v := .int (nI (cu_N u 0))) (C := RX6) (T := TX6) (N := 20) hx hb htg inX6 hown hK hP 0 (wR_g0 a k _) rfl 1 (by decide) (htg _ q_582) (fun _ h9 => h9) rfl dX6_slot_68 ?_
            refine lv_sipush (v := 200) hx hb dX6_slot_71 (by decide) ?_
            refine nb_ne (a := (cu_N u 0)) (b := 200) (tgt := 81) hx hb (by omega) (by omega) rfl rfl dX6_slot_74 (by decide) (fun c_74 => ?_) (fun c_74 => ?_)
            · refine lv_iconst (v := 0) hx hb dX6_slot_81 (by decide) ?_
              refine w_cali (w := wR a k) (va_runV (As := [.int 1, .int 1, .int 0]) (rest := []) ⟨hx, hb, hml, hown, hts⟩ (c_X6_throwing l dC dI a k u _ true true false) (cwV 3 hts (wG_V wG_c q_654 q_656 p_7 q_7 q_657) rfl rfl rfl (by decide +kernel) ⟨Nat.le_of_ble_eq_true rfl, Nat.le_of_ble_eq_true rfl⟩) (w_muV hK hP hD (ci := 6) (q0 := 0) rfl (wR_g0 a k _) rfl) rfl rfl hl.1 rfl (lv_room (Nat.le_of_ble_eq_true rfl)) dX6_slot_82 ⟨Nat.le_of_ble_eq_true rfl, Nat.le_of_ble_eq_true rfl⟩) hD hS hA (fun r_35 u_35 H locs hq_35 hP hD hS => ?_)
              obtain ⟨er9, eu9⟩ := hq_35
              subst er9 eu9
              refine wtopi (1) rfl ?_
              refine lv_if_eq (tgt := 90) hx hb dX6_slot_85 (by decide) (fun h9 => absurd h9 (by decide)) (fun _ => ?_)
              refine lv_iconst (v := 0) hx hb dX6_slot_88 (by decide) ?_
              exact W.iret (v := 0) hx hb hr (fun t9 ht9 hW9 => ⟨⟨_, cs_N u 4 (m_code true true false), rfl, ⟨fun _ => congrArg (cs_N u 4) (by simp [c_7, c_18, c_29, c_49, c_59, c_74]), fun h9 => absurd h9 (by simp [m_code, c_7, c_18, c_29, c_49, c_59, c_74])⟩, by rw [ht9]; exact hP, va_K.moved hW9.alike hK, hD⟩, hS.F ht9⟩) hS.2.2 dX6_slot_89
            · refine lv_iconst (v := 1) hx hb dX6_slot_77 (by decide) ?_
              refine lv_goto (tgt := 82) hx hb dX6_slot_78 (by decide) ?_
              refine w_cali (w := wR a k) (va_runV (As := [.int 1, .int 1, .int 1]) (rest := []) ⟨hx, hb, hml, hown, hts⟩ (c_X6_throwing l dC dI a k u _ true true true) (cwV 3 hts (wG_V wG_c q_654 q_656 p_7 q_7 q_657) rfl rfl rfl (by decide +kernel) ⟨Nat.le_of_ble_eq_true rfl, Nat.le_of_ble_eq_true rfl⟩) (w_muV hK hP hD (ci := 6) (q0 := 0) rfl (wR_g0 a k _) rfl) rfl rfl hl.1 rfl (lv_room (Nat.le_of_ble_eq_true rfl)) dX6_slot_82 ⟨Nat.le_of_ble_eq_true rfl, Nat.le_of_ble_eq_true rfl⟩) hD hS hA (fun r_36 u_36 H locs hq_36 hP hD hS => ?_)
              obtain ⟨er9, eu9⟩ := hq_36
              subst er9 eu9
              refine wtopi (1) rfl ?_
              refine lv_if_eq (tgt := 90) hx hb dX6_slot_85 (by decide) (fun h9 => absurd h9 (by decide)) (fun _ => ?_)
              refine lv_iconst (v := 0) hx hb dX6_slot_88 (by decide) ?_
              exact W.iret (v := 0) hx hb hr (fun t9 ht9 hW9 => ⟨⟨_, cs_N u 4 (m_code true true true), rfl, ⟨fun _ => congrArg (cs_N u 4) (by simp [c_7, c_18, c_29, c_49, c_59, c_74]), fun h9 => absurd h9 (by simp [m_code, c_7, c_18, c_29, c_49, c_59, c_74])⟩, by rw [ht9]; exact hP, va_K.moved hW9.alike hK, hD⟩, hS.F ht9⟩) hS.2.2 dX6_slot_89
set_option maxHeartbeats 4000000 in
set_option maxRecDepth 100000 in
theorem c_X6_mark (l : Launch) (dC : Nat → ClassId) (dI : Nat → Nat → Nat) (a : Nat → Nat) (k : c_K) (u : c_St) (sz : Nat) (h60 : cu_N u 1 ≤ 60) (p0 p1 p2 : Int32) : Met l yX6_mark wsX6_mark ({ frames := 1, cells := 0, slots := 0, locals := 23 }) (va_Pc [.ref (a 0), .int p0, .int p1, .int p2] (w_mu (dC, dI) vwCl (wR a k u) (tC k) sz)) (va_Qi (fun (r : Int32) (u1 : c_St) => (m_code (!inR p0 0 9) (!inR p1 0 9999999 || !inR p2 0 9999999) (decide (cu_N u 1 = 60)) ≠ 0 → u1 = cs_N u 4 (m_code (!inR p0 0 9) (!inR p1 0 9999999 || !inR p2 0 9999999) (decide (cu_N u 1 = 60)))) ∧ (m_code (!inR p0 0 9) (!inR p1 0 9999999 || !inR p2 0 9999999) (decide (cu_N u 1 = 60)) = 0 → ∃ sc ck tr : Nat, p0 = nI sc ∧ p1 = nI ck ∧ p2 = nI tr ∧ sc ≤ 9 ∧ ck ≤ 9999999 ∧ tr ≤ 9999999 ∧ cu_N u 1 < 60 ∧ r = nI (cu_N u 1) ∧ u1 = cs_N (cs_D (cs_F (cs_N u 4 0) 5 (cu_N u 1) sc) 0 (cu_N u 1) ((tr : Int) - (ck : Int))) 1 (cu_N u 1 + 1))) (w_at (dC, dI) vwCl (wR a k) (tC k) (va_A (wR a k u) sz)) (va_A (wR a k u) sz)) 0 0 (va_A (wR a k u) sz) := by
  refine Met.ofW (cc := cX6_mark) (maxL := 4) (ret := (some .int)) (by decide) rfl ?_
  intro p e s m args below meth c s₁ B hml hv
  obtain ⟨rfl, hsz, hP, hK, hD0⟩ := hv
  have hx := B.exec
  have hb := B.bytes
  have hr := B.returns
  have hts := atoms_spec (ws := wsX6_mark) B.pre
  have htg : ∀ w ∈ wG, w.before _ s = true := fun w h => hts w (List.mem_cons_of_mem _ h)
  have hown : s.vm.findClass RX6 = some m.cls := findClass_of_methodNamed B.named
  have hlocks := B.notSynchronized
  subst hsz
  have hD := hD0.self (sz := s.heap.size)
  generalize hAe : va_A (wR a k u) s.heap.size = A at hD ⊢
  have hA : ∀ q : Nat, s.heap.size ≤ q → A q := fun q h => by rw [← hAe]; exact Or.inr h
  have hS : va_S A s.heap s.heap [] := va_S.rf
  have hl := lv_entry ([.ref (a 0), .int p0, .int p1, .int p2]) (n := 4) (Nat.le_of_ble_eq_true rfl)
  rw [lg_entry_eq]
  generalize (lg_sl ([.ref (a 0), .int p0, .int p1, .int p2]) ++ List.replicate (4 - (lg_sl ([.ref (a 0), .int p0, .int p1, .int p2])).length) Slot.unset).toArray = ls at hl ⊢
  have hl : lv_has ls 4 [(0, .ref (a 0)), (1, .int p0), (2, .int p1), (3, .int p2)] := hl
  refine lv_aload_n hx hb dX6_mark_0 rfl (lv_at hl 0 rfl) ?_
  refine lv_iload_n hx hb dX6_mark_1 rfl (lv_at hl 1 rfl) ?_
  refine lv_iconst (v := 0) hx hb dX6_mark_2 (by decide) ?_
  refine lv_bipush (v := 9) hx hb dX6_mark_3 (by decide) ?_
  refine vp_callSi (W.runS (As := [.int p0, .int 0, .int 9]) (rest := [.ref (a 0)]) ⟨hx, hb, hml, hown, hts⟩ (c_X6_in l dC dI a k u p0 0 9) (cwS 3 hts (wG_S wG_c q_650 q_651 q_7 q_652) rfl rfl rfl (by decide +kernel) ⟨Nat.le_of_ble_eq_true rfl, Nat.le_of_ble_eq_true rfl⟩) (w_roS hK hP) rfl rfl hl.1 rfl (lv_room (Nat.le_of_ble_eq_true rfl)) dX6_mark_5 ⟨Nat.le_of_ble_eq_true rfl, Nat.le_of_ble_eq_true rfl⟩) (fun r_1 hr_1 => ?_)
  subst hr_1
  refine bz_ne (a := (inR p0 0 9)) (tgt := 15) hx hb dX6_mark_8 (by decide) (fun c_8 => ?_) (fun c_8 => ?_)
  · refine lv_iconst (v := 0) hx hb dX6_mark_15 (by decide) ?_
    refine lv_iload_n hx hb dX6_mark_16 rfl (lv_at hl 2 rfl) ?_
    refine lv_iconst (v := 0) hx hb dX6_mark_17 (by decide) ?_
    refine lv_ldc (v := 9999999) hx hb hown (htg _ q_653) dX6_mark_18 ?_
    refine vp_callSi (W.runS (As := [.int p1, .int 0, .int 9999999]) (rest := [.int 0, .ref (a 0)]) ⟨hx, hb, hml, hown, hts⟩ (c_X6_in l dC dI a k u p1 0 9999999) (cwS 3 hts (wG_S wG_c q_650 q_651 q_7 q_652) rfl rfl rfl (by decide +kernel) ⟨Nat.le_of_ble_eq_true rfl, Nat.le_of_ble_eq_true rfl⟩) (w_roS hK hP) rfl rfl hl.1 rfl (lv_room (Nat.le_of_ble_eq_true rfl)) dX6_mark_20 ⟨Nat.le_of_ble_eq_true rfl, Nat.le_of_ble_eq_true rfl⟩) (fun r_2 hr_2 => ?_)
    subst hr_2
    refine bz_eq (a := (inR p1 0 9999999)) (tgt := 36) hx hb dX6_mark_23 (by decide) (fun c_23 => ?_) (fun c_23 => ?_)
    · refine lv_iconst (v := 1) hx hb dX6_mark_36 (by decide) ?_
      refine lv_goto (tgt := 41) hx hb dX6_mark_37 (by decide) ?_
      refine lv_aload_n hx hb dX6_mark_41 rfl (lv_at hl 0 rfl) ?_
      refine va_get (D := (dC, dI)) (ci := 6) (v := .int (nI (cu_N u 1))) (C := RX6) (T := TX6) (N := 20) hx hb htg inX6 hown hK hP 0 (wR_g0 a k _) rfl 10 (by decide) (htg _ q_591) (fun _ h9 => h9) rfl dX6_mark_42 ?_
      refine lv_bipush (v := 60) hx hb dX6_mark_45 (by decide) ?_
      refine nb_ne (a := (cu_N u 1)) (b := 60) (tgt := 54) hx hb (by omega) (by omega) rfl rfl dX6_mark_47 (by decide) (fun c_47 => ?_) (fun c_47 => ?_)
      · refine lv_iconst (v := 0) hx hb dX6_mark_54 (by decide) ?_
        refine w_cali (w := wR a k) (va_runV (As := [.int 0, .int 1, .int 0]) (rest := []) ⟨hx, hb, hml, hown, hts⟩ (c_X6_throwing l dC dI a k u _ false true false) (cwV 3 hts (wG_V wG_c q_654 q_656 p_7 q_7 q_657) rfl rfl rfl (by decide +kernel) ⟨Nat.le_of_ble_eq_true rfl, Nat.le_of_ble_eq_true rfl⟩) (w_muV hK hP hD (ci := 6) (q0 := 0) rfl (wR_g0 a k _) rfl) rfl rfl hl.1 rfl (lv_room (Nat.le_of_ble_eq_true rfl)) dX6_mark_55 ⟨Nat.le_of_ble_eq_true rfl, Nat.le_of_ble_eq_true rfl⟩) hD hS hA (fun r_3 u_3 H locs hq_3 hP hD hS => ?_)
        obtain ⟨er9, eu9⟩ := hq_3
        subst er9 eu9
        refine wtopi (1) rfl ?_
        refine lv_if_eq (tgt := 63) hx hb dX6_mark_58 (by decide) (fun h9 => absurd h9 (by decide)) (fun _ => ?_)
        refine lv_iconst (v := 0) hx hb dX6_mark_61 (by decide) ?_
        exact W.iret (v := 0) hx hb hr (fun t9 ht9 hW9 => ⟨⟨_, cs_N u 4 (m_code false true false), rfl, ⟨fun _ => congrArg (cs_N u 4) (by simp [c_8, c_23, c_47]), fun h9 => absurd h9 (by simp [m_code, c_8, c_23, c_47])⟩, by rw [ht9]; exact hP, va_K.moved hW9.alike hK, hD⟩, hS.F ht9⟩) hS.2.2 dX6_mark_62
      · refine lv_iconst (v := 1) hx hb dX6_mark_50 (by decide) ?_
        refine lv_goto (tgt := 55) hx hb dX6_mark_51 (by decide) ?_
        refine w_cali (w := wR a k) (va_runV (As := [.int 0, .int 1, .int 1]) (rest := []) ⟨hx, hb, hml, hown, hts⟩ (c_X6_throwing l dC dI a k u _ false true true) (cwV 3 hts (wG_V wG_c q_654 q_656 p_7 q_7 q_657) rfl rfl rfl (by decide +kernel) ⟨Nat.le_of_ble_eq_true rfl, Nat.le_of_ble_eq_true rfl⟩) (w_muV hK hP hD (ci := 6) (q0 := 0) rfl (wR_g0 a k _) rfl) rfl rfl hl.1 rfl (lv_room (Nat.le_of_ble_eq_true rfl)) dX6_mark_55 ⟨Nat.le_of_ble_eq_true rfl, Nat.le_of_ble_eq_true rfl⟩) hD hS hA (fun r_4 u_4 H locs hq_4 hP hD hS => ?_)
        obtain ⟨er9, eu9⟩ := hq_4
        subst er9 eu9
        refine wtopi (1) rfl ?_
        refine lv_if_eq (tgt := 63) hx hb dX6_mark_58 (by decide) (fun h9 => absurd h9 (by decide)) (fun _ => ?_)
        refine lv_iconst (v := 0) hx hb dX6_mark_61 (by decide) ?_
        exact W.iret (v := 0) hx hb hr (fun t9 ht9 hW9 => ⟨⟨_, cs_N u 4 (m_code false true true), rfl, ⟨fun _ => congrArg (cs_N u 4) (by simp [c_8, c_23, c_47]), fun h9 => absurd h9 (by simp [m_code, c_8, c_23, c_47])⟩, by rw [ht9]; exact hP, va_K.moved hW9.alike hK, hD⟩, hS.F ht9⟩) hS.2.2 dX6_mark_62
    · refine lv_iload_n hx hb dX6_mark_26 rfl (lv_at hl 3 rfl) ?_
      refine lv_iconst (v := 0) hx hb dX6_mark_27 (by decide) ?_
      refine lv_ldc (v := 9999999) hx hb hown (htg _ q_653) dX6_mark_28 ?_
      refine vp_callSi (W.runS (As := [.int p2, .int 0, .int 9999999]) (rest := [.int 0, .ref (a 0)]) ⟨hx, hb, hml, hown, hts⟩ (c_X6_in l dC dI a k u p2 0 9999999) (cwS 3 hts (wG_S wG_c q_650 q_651 q_7 q_652) rfl rfl rfl (by decide +kernel) ⟨Nat.le_of_ble_eq_true rfl, Nat.le_of_ble_eq_true rfl⟩) (w_roS hK hP) rfl rfl hl.1 rfl (lv_room (Nat.le_of_ble_eq_true rfl)) dX6_mark_30 ⟨Nat.le_of_ble_eq_true rfl, Nat.le_of_ble_eq_true rfl⟩) (fun r_5 hr_5 => ?_)
      subst hr_5
      refine bz_ne (a := (inR p2 0 9999999)) (tgt := 40) hx hb dX6_mark_33 (by decide) (fun c_33 => ?_) (fun c_33 => ?_)
      · refine lv_iconst (v := 0) hx hb dX6_mark_40 (by decide) ?_
        refine lv_aload_n hx hb dX6_mark_41 rfl (lv_at hl 0 rfl) ?_
        refine va_get (D := (dC, dI)) (ci := 6) (v := .int (nI (cu_N u 1))) (C := RX6) (T := TX6) (N := 20) hx hb htg inX6 hown hK hP 0 (wR_g0 a k _) rfl 10 (by decide) (htg _ q_591) (fun _ h9 => h9) rfl dX6_mark_42 ?_
        refine lv_bipush (v := 60) hx hb dX6_mark_45 (by decide) ?_
        refine nb_ne (a := (cu_N u 1)) (b := 60) (tgt := 54) hx hb (by omega) (by omega) rfl rfl dX6_mark_47 (by decide) (fun c_47 => ?_) (fun c_47 => ?_)
        · refine lv_iconst (v := 0) hx hb dX6_mark_54 (by decide) ?_
          refine w_cali (w := wR a k) (va_runV (As := [.int 0, .int 0, .int 0]) (rest := []) ⟨hx, hb, hml, hown, hts⟩ (c_X6_throwing l dC dI a k u _ false false false) (cwV 3 hts (wG_V wG_c q_654 q_656 p_7 q_7 q_657) rfl rfl rfl (by decide +kernel) ⟨Nat.le_of_ble_eq_true rfl, Nat.le_of_ble_eq_true rfl⟩) (w_muV hK hP hD (ci := 6) (q0 := 0) rfl (wR_g0 a k _) rfl) rfl rfl hl.1 rfl (lv_room (Nat.le_of_ble_eq_true rfl)) dX6_mark_55 ⟨Nat.le_of_ble_eq_true rfl, Nat.le_of_ble_eq_true rfl⟩) hD hS hA (fun r_6 u_6 H locs hq_6 hP hD hS => ?_)
          obtain ⟨er9, eu9⟩ := hq_6
          subst er9 eu9
          refine wtopi (0) rfl ?_
          refine lv_if_eq (tgt := 63) hx hb dX6_mark_58 (by decide) (fun _ => ?_) (fun h9 => absurd h9 (by decide))
          obtain ⟨sc, l_sc, h_sc, e_sc⟩ := inR_nat (l9 := 0) (h9 := 9) c_8 rfl rfl (by decide)
          subst e_sc
          obtain ⟨ck, l_ck, h_ck, e_ck⟩ := inR_nat (l9 := 0) (h9 := 9999999) c_23 rfl rfl (by decide)
          subst e_ck
          obtain ⟨tr, l_tr, h_tr, e_tr⟩ := inR_nat (l9 := 0) (h9 := 9999999) c_33 rfl rfl (by decide)
          subst e_tr
          have hN2 : cu_N u 1 < 60 := by omega
          refine lv_aload_n hx hb dX6_mark_63 rfl (lv_at hl 0 rfl) ?_
          refine va_get (D := (dC, dI)) (ci := 6) (v := .ref (a 6)) (C := RX6) (T := TX6) (N := 20) hx hb htg inX6 hown hK hP 0 (wR_g0 a k _) rfl 11 (by decide) (htg _ q_592) (fun _ h9 => h9) rfl dX6_mark_64 ?_
          refine lv_aload_n hx hb dX6_mark_67 rfl (lv_at hl 0 rfl) ?_
          refine va_get (D := (dC, dI)) (ci := 6) (v := .int (nI (cu_N (cs_N u 4 (m_code false false false)) 1))) (C := RX6) (T := TX6) (N := 20) hx hb htg inX6 hown hK hP 0 (wR_g0 a k _) rfl 10 (by decide) (htg _ q_591) (fun _ h9 => h9) rfl dX6_mark_68 ?_
          refine wtopi (y := nI (cu_N u 1)) rfl ?_
          refine lv_iload_n hx hb dX6_mark_71 rfl (lv_at hl 1 rfl) ?_
          refine va_iast hx hb hK hP hD hS 6 0 (wR_g6 a k _) rfl (vp_in_nI (n := (cu_N u 1)) (N := 60) hN2 (by decide)) dX6_mark_72 (fun H locs hP hD hS => ?_)
          have hP := w_pE (wR_s6 a k _ (cu_N u 1) sc (Nat.lt_trans (m := 60) hN2 (by decide))) hP
          have hD := w_dE (wR_s6 a k _ (cu_N u 1) sc (Nat.lt_trans (m := 60) hN2 (by decide))) hD
          refine lv_aload_n hx hb dX6_mark_73 rfl (lv_at hl 0 rfl) ?_
          refine va_get (D := (dC, dI)) (ci := 6) (v := .ref (a 15)) (C := RX6) (T := TX6) (N := 20) hx hb htg inX6 hown hK hP 0 (wR_g0 a k _) rfl 12 (by decide) (htg _ q_593) (fun _ h9 => h9) rfl dX6_mark_74 ?_
          refine lv_aload_n hx hb dX6_mark_77 rfl (lv_at hl 0 rfl) ?_
          refine va_get (D := (dC, dI)) (ci := 6) (v := .int (nI (cu_N (cs_F (cs_N u 4 (m_code false false false)) 5 (cu_N u 1) sc) 1))) (C := RX6) (T := TX6) (N := 20) hx hb htg inX6 hown hK hP 0 (wR_g0 a k _) rfl 10 (by decide) (htg _ q_591) (fun _ h9 => h9) rfl dX6_mark_78 ?_
          refine wtopi (y := nI (cu_N u 1)) rfl ?_
          refine lv_iload_n hx hb dX6_mark_81 rfl (lv_at hl 3 rfl) ?_
          refine lv_iload_n hx hb dX6_mark_82 rfl (lv_at hl 2 rfl) ?_
          refine lv_isub hx hb dX6_mark_83 ?_
          refine wtopi (y := iI ((tr : Int) - (ck : Int))) (by rw [nI_iI, nI_iI, iI_sub]) ?_
          refine va_iast hx hb hK hP hD hS 15 0 (wR_g15 a k _) rfl (vp_in_nI (n := (cu_N u 1)) (N := 60) hN2 (by decide)) dX6_mark_84 (fun H locs hP hD hS => ?_)
          have hP := w_pE (wR_s15 a k _ (cu_N u 1) ((tr : Int) - (ck : Int)) (Nat.lt_trans (m := 60) hN2 (by decide))) hP
          have hD := w_dE (wR_s15 a k _ (cu_N u 1) ((tr : Int) - (ck : Int)) (Nat.lt_trans (m := 60) hN2 (by decide))) hD
          refine lv_aload_n hx hb dX6_mark_85 rfl (lv_at hl 0 rfl) ?_
          refine lv_dup hx hb dX6_mark_86 rfl ?_
          refine va_get (D := (dC, dI)) (ci := 6) (v := .int (nI (cu_N (cs_D (cs_F (cs_N u 4 (m_code false false false)) 5 (cu_N u 1) sc) 0 (cu_N u 1) ((tr : Int) - (ck : Int))) 1))) (C := RX6) (T := TX6) (N := 20) hx hb htg inX6 hown hK hP 0 (wR_g0 a k _) rfl 10 (by decide) (htg _ q_591) (fun _ h9 => h9) rfl dX6_mark_87 ?_
          refine lv_iconst (v := 1) hx hb dX6_mark_90 (by decide) ?_
          refine lv_iadd hx hb dX6_mark_91 ?_
          refine wtopi (y := nI (cu_N u 1 + 1)) (nI_1 (cu_N u 1)) ?_
          refine va_put (D := (dC, dI)) (ci := 6) (v := .int (nI (cu_N u 1 + 1))) (ty := .int) (C := RX6) (T := TX6) (N := 20) hx hb htg inX6 tyX6 tyX6_ok nmX6 hown hK hP hD hS 0 (wR_g0 a k _) rfl 10 (by decide) (htg _ q_591) (fun _ h9 => h9) rfl (by decide +kernel) rfl rfl (Nat.le_of_ble_eq_true rfl) dX6_mark_92 (fun H locs hP hD hS => ?_)
          have hP := w_pE (wR_n1 a k _ (cu_N u 1 + 1)) hP
          have hD := w_dE (wR_n1 a k _ (cu_N u 1 + 1)) hD
          refine lv_aload_n hx hb dX6_mark_95 rfl (lv_at hl 0 rfl) ?_
          refine va_get (D := (dC, dI)) (ci := 6) (v := .int (nI (cu_N (cs_N (cs_D (cs_F (cs_N u 4 (m_code false false false)) 5 (cu_N u 1) sc) 0 (cu_N u 1) ((tr : Int) - (ck : Int))) 1 (cu_N u 1 + 1)) 1))) (C := RX6) (T := TX6) (N := 20) hx hb htg inX6 hown hK hP 0 (wR_g0 a k _) rfl 10 (by decide) (htg _ q_591) (fun _ h9 => h9) rfl dX6_mark_96 ?_
          refine wtopi (y := nI (cu_N u 1 + 1)) rfl ?_
          refine lv_iconst (v := 1) hx hb dX6_mark_99 (by decide) ?_
          refine lv_isub hx hb dX6_mark_100 ?_
          refine wtopi (y := nI (cu_N u 1)) (pk_sub (a := cu_N u 1 + 1) (b := 1) (by omega)) ?_
          exact W.iret (v := nI (cu_N u 1)) hx hb hr (fun t9 ht9 hW9 => ⟨⟨_, cs_N (cs_D (cs_F (cs_N u 4 (m_code false false false)) 5 (cu_N u 1) sc) 0 (cu_N u 1) ((tr : Int) - (ck : Int))) 1 (cu_N u 1 + 1), rfl, ⟨fun h9 => absurd (by simp [m_code, c_8, c_23, c_33, c_47]) h9, fun _ => ⟨sc, ck, tr, rfl, rfl, rfl, h_sc, h_ck, h_tr, hN2, rfl, rfl⟩⟩, by rw [ht9]; exact hP, va_K.moved hW9.alike hK, hD⟩, hS.F ht9⟩) hS.2.2 dX6_mark_101
        · refine lv_iconst (v := 1) hx hb dX6_mark_50 (by decide) ?_
          refine lv_goto (tgt := 55) hx hb dX6_mark_51 (by decide) ?_
          refine w_cali (w := wR a k) (va_runV (As := [.int 0, .int 0, .int 1]) (rest := []) ⟨hx, hb, hml, hown, hts⟩ (c_X6_throwing l dC dI a k u _ false false true) (cwV 3 hts (wG_V wG_c q_654 q_656 p_7 q_7 q_657) rfl rfl rfl (by decide +kernel) ⟨Nat.le_of_ble_eq_true rfl, Nat.le_of_ble_eq_true rfl⟩) (w_muV hK hP hD (ci := 6) (q0 := 0) rfl (wR_g0 a k _) rfl) rfl rfl hl.1 rfl (lv_room (Nat.le_of_ble_eq_true rfl)) dX6_mark_55 ⟨Nat.le_of_ble_eq_true rfl, Nat.le_of_ble_eq_true rfl⟩) hD hS hA (fun r_7 u_7 H locs hq_7 hP hD hS => ?_)
          obtain ⟨er9, eu9⟩ := hq_7
          subst er9 eu9
          refine wtopi (1) rfl ?_
          refine lv_if_eq (tgt := 63) hx hb dX6_mark_58 (by decide) (fun h9 => absurd h9 (by decide)) (fun _ => ?_)
          refine lv_iconst (v := 0) hx hb dX6_mark_61 (by decide) ?_
          exact W.iret (v := 0) hx hb hr (fun t9 ht9 hW9 => ⟨⟨_, cs_N u 4 (m_code false false true), rfl, ⟨fun _ => congrArg (cs_N u 4) (by simp [c_8, c_23, c_33, c_47]), fun h9 => absurd h9 (by simp [m_code, c_8, c_23, c_33, c_47])⟩, by rw [ht9]; exact hP, va_K.moved hW9.alike hK, hD⟩, hS.F ht9⟩) hS.2.2 dX6_mark_62
      · refine lv_iconst (v := 1) hx hb dX6_mark_36 (by decide) ?_
        refine lv_goto (tgt := 41) hx hb dX6_mark_37 (by decide) ?_
        refine lv_aload_n hx hb dX6_mark_41 rfl (lv_at hl 0 rfl) ?_
        refine va_get (D := (dC, dI)) (ci := 6) (v := .int (nI (cu_N u 1))) (C := RX6) (T := TX6) (N := 20) hx hb htg inX6 hown hK hP 0 (wR_g0 a k _) rfl 10 (by decide) (htg _ q_591) (fun _ h9 => h9) rfl dX6_mark_42 ?_
        refine lv_bipush (v := 60) hx hb dX6_mark_45 (by decide) ?_
        refine nb_ne (a := (cu_N u 1)) (b := 60) (tgt := 54) hx hb (by omega) (by omega) rfl rfl dX6_mark_47 (by decide) (fun c_47 => ?_) (fun c_47 => ?_)
        · refine lv_iconst (v := 0) hx hb dX6_mark_54 (by decide) ?_
          refine w_cali (w := wR a k) (va_runV (As := [.int 0, .int 1, .int 0]) (rest := []) ⟨hx, hb, hml, hown, hts⟩ (c_X6_throwing l dC dI a k u _ false true false) (cwV 3 hts (wG_V wG_c q_654 q_656 p_7 q_7 q_657) rfl rfl rfl (by decide +kernel) ⟨Nat.le_of_ble_eq_true rfl, Nat.le_of_ble_eq_true rfl⟩) (w_muV hK hP hD (ci := 6) (q0 := 0) rfl (wR_g0 a k _) rfl) rfl rfl hl.1 rfl (lv_room (Nat.le_of_ble_eq_true rfl)) dX6_mark_55 ⟨Nat.le_of_ble_eq_true rfl, Nat.le_of_ble_eq_true rfl⟩) hD hS hA (fun r_8 u_8 H locs hq_8 hP hD hS => ?_)
          obtain ⟨er9, eu9⟩ := hq_8
          subst er9 eu9
          refine wtopi (1) rfl ?_
          refine lv_if_eq (tgt := 63) hx hb dX6_mark_58 (by decide) (fun h9 => absurd h9 (by decide)) (fun _ => ?_)
          refine lv_iconst (v := 0) hx hb dX6_mark_61 (by decide) ?_
          exact W.iret (v := 0) hx hb hr (fun t9 ht9 hW9 => ⟨⟨_, cs_N u 4 (m_code false true false), rfl, ⟨fun _ => congrArg (cs_N u 4) (by simp [c_8, c_23, c_33, c_47]), fun h9 => absurd h9 (by simp [m_code, c_8, c_23, c_33, c_47])⟩, by rw [ht9]; exact hP, va_K.moved hW9.alike hK, hD⟩, hS.F ht9⟩) hS.2.2 dX6_mark_62
        · refine lv_iconst (v := 1) hx hb dX6_mark_50 (by decide) ?_
          refine lv_goto (tgt := 55) hx hb dX6_mark_51 (by decide) ?_
          refine w_cali (w := wR a k) (va_runV (As := [.int 0, .int 1, .int 1]) (rest := []) ⟨hx, hb, hml, hown, hts⟩ (c_X6_throwing l dC dI a k u _ false true true) (cwV 3 hts (wG_V wG_c q_654 q_656 p_7 q_7 q_657) rfl rfl rfl (by decide +kernel) ⟨Nat.le_of_ble_eq_true rfl, Nat.le_of_ble_eq_true rfl⟩) (w_muV hK hP hD (ci := 6) (q0 := 0) rfl (wR_g0 a k _) rfl) rfl rfl hl.1 rfl (lv_room (Nat.le_of_ble_eq_true rfl)) dX6_mark_55 ⟨Nat.le_of_ble_eq_true rfl, Nat.le_of_ble_eq_true rfl⟩) hD hS hA (fun r_9 u_9 H locs hq_9 hP hD hS => ?_)
          obtain ⟨er9, eu9⟩ := hq_9
          subst er9 eu9
          refine wtopi (1) rfl ?_
          refine lv_if_eq (tgt := 63) hx hb dX6_mark_58 (by decide) (fun h9 => absurd h9 (by decide)) (fun _ => ?_)
          refine lv_iconst (v := 0) hx hb dX6_mark_61 (by decide) ?_
          exact W.iret (v := 0) hx hb hr (fun t9 ht9 hW9 => ⟨⟨_, cs_N u 4 (m_code false true true), rfl, ⟨fun _ => congrArg (cs_N u 4) (by simp [c_8, c_23, c_33, c_47]), fun h9 => absurd h9 (by simp [m_code, c_8, c_23, c_33, c_47])⟩, by rw [ht9]; exact hP, va_K.moved hW9.alike hK, hD⟩, hS.F ht9⟩) hS.2.2 dX6_mark_62
  · refine lv_iconst (v := 1) hx hb dX6_mark_11 (by decide) ?_
    refine lv_goto (tgt := 16) hx hb dX6_mark_12 (by decide) ?_
    refine lv_iload_n hx hb dX6_mark_16 rfl (lv_at hl 2 rfl) ?_
    refine lv_iconst (v := 0) hx hb dX6_mark_17 (by decide) ?_
    refine lv_ldc (v := 9999999) hx hb hown (htg _ q_653) dX6_mark_18 ?_
    refine vp_callSi (W.runS (As := [.int p1, .int 0, .int 9999999]) (rest := [.int 1, .ref (a 0)]) ⟨hx, hb, hml, hown, hts⟩ (c_X6_in l dC dI a k u p1 0 9999999) (cwS 3 hts (wG_S wG_c q_650 q_651 q_7 q_652) rfl rfl rfl (by decide +kernel) ⟨Nat.le_of_ble_eq_true rfl, Nat.le_of_ble_eq_true rfl⟩) (w_roS hK hP) rfl rfl hl.1 rfl (lv_room (Nat.le_of_ble_eq_true rfl)) dX6_mark_20 ⟨Nat.le_of_ble_eq_true rfl, Nat.le_of_ble_eq_true rfl⟩) (fun r_10 hr_10 => ?_)
    subst hr_10
    refine bz_eq (a := (inR p1 0 9999999)) (tgt := 36) hx hb dX6_mark_23 (by decide) (fun c_23 => ?_) (fun c_23 => ?_)
    · refine lv_iconst (v := 1) hx hb dX6_mark_36 (by decide) ?_
      refine lv_goto (tgt := 41) hx hb dX6_mark_37 (by decide) ?_
      refine lv_aload_n hx hb dX6_mark_41 rfl (lv_at hl 0 rfl) ?_
      refine va_get (D := (dC, dI)) (ci := 6) (v := .int (nI (cu_N u 1))) (C := RX6) (T := TX6) (N := 20) hx hb htg inX6 hown hK hP 0 (wR_g0 a k _) rfl 10 (by decide) (htg _ q_591) (fun _ h9 => h9) rfl dX6_mark_42 ?_
      refine lv_bipush (v := 60) hx hb dX6_mark_45 (by decide) ?_
      refine nb_ne (a := (cu_N u 1)) (b := 60) (tgt := 54) hx hb (by omega) (by omega) rfl rfl dX6_mark_47 (by decide) (fun c_47 => ?_) (fun c_47 => ?_)
      · refine lv_iconst (v := 0) hx hb dX6_mark_54 (by decide) ?_
        refine w_cali (w := wR a k) (va_runV (As := [.int 1, .int 1, .int 0]) (rest := []) ⟨hx, hb, hml, hown, hts⟩ (c_X6_throwing l dC dI a k u _ true true false) (cwV 3 hts (wG_V wG_c q_654 q_656 p_7 q_7 q_657) rfl rfl rfl (by decide +kernel) ⟨Nat.le_of_ble_eq_true rfl, Nat.le_of_ble_eq_true rfl⟩) (w_muV hK hP hD (ci := 6) (q0 := 0) rfl (wR_g0 a k _) rfl) rfl rfl hl.1 rfl (lv_room (Nat.le_of_ble_eq_true rfl)) dX6_mark_55 ⟨Nat.le_of_ble_eq_true rfl, Nat.le_of_ble_eq_true rfl⟩) hD hS hA (fun r_11 u_11 H locs hq_11 hP hD hS => ?_)
        obtain ⟨er9, eu9⟩ := hq_11
        subst er9 eu9
        refine wtopi (1) rfl ?_
        refine lv_if_eq (tgt := 63) hx hb dX6_mark_58 (by decide) (fun h9 => absurd h9 (by decide)) (fun _ => ?_)
        refine lv_iconst (v := 0) hx hb dX6_mark_61 (by decide) ?_
        exact W.iret (v := 0) hx hb hr (fun t9 ht9 hW9 => ⟨⟨_, cs_N u 4 (m_code true true false), rfl, ⟨fun _ => congrArg (cs_N u 4) (by simp [c_8, c_23, c_47]), fun h9 => absurd h9 (by simp [m_code, c_8, c_23, c_47])⟩, by rw [ht9]; exact hP, va_K.moved hW9.alike hK, hD⟩, hS.F ht9⟩) hS.2.2 dX6_mark_62
      · refine lv_iconst (v := 1) hx hb dX6_mark_50 (by decide) ?_
        refine lv_goto (tgt := 55) hx hb dX6_mark_51 (by decide) ?_
        refine w_cali (w := wR a k) (va_runV (As := [.int 1, .int 1, .int 1]) (rest := []) ⟨hx, hb, hml, hown, hts⟩ (c_X6_throwing l dC dI a k u _ true true true) (cwV 3 hts (wG_V wG_c q_654 q_656 p_7 q_7 q_657) rfl rfl rfl (by decide +kernel) ⟨Nat.le_of_ble_eq_true rfl, Nat.le_of_ble_eq_true rfl⟩) (w_muV hK hP hD (ci := 6) (q0 := 0) rfl (wR_g0 a k _) rfl) rfl rfl hl.1 rfl (lv_room (Nat.le_of_ble_eq_true rfl)) dX6_mark_55 ⟨Nat.le_of_ble_eq_true rfl, Nat.le_of_ble_eq_true rfl⟩) hD hS hA (fun r_12 u_12 H locs hq_12 hP hD hS => ?_)
        obtain ⟨er9, eu9⟩ := hq_12
        subst er9 eu9
        refine wtopi (1) rfl ?_
        refine lv_if_eq (tgt := 63) hx hb dX6_mark_58 (by decide) (fun h9 => absurd h9 (by decide)) (fun _ => ?_)
        refine lv_iconst (v := 0) hx hb dX6_mark_61 (by decide) ?_
        exact W.iret (v := 0) hx hb hr (fun t9 ht9 hW9 => ⟨⟨_, cs_N u 4 (m_code true true true), rfl, ⟨fun _ => congrArg (cs_N u 4) (by simp [c_8, c_23, c_47]), fun h9 => absurd h9 (by simp [m_code, c_8, c_23, c_47])⟩, by rw [ht9]; exact hP, va_K.moved hW9.alike hK, hD⟩, hS.F ht9⟩) hS.2.2 dX6_mark_62
    · refine lv_iload_n hx hb dX6_mark_26 rfl (lv_at hl 3 rfl) ?_
      refine lv_iconst (v := 0) hx hb dX6_mark_27 (by decide) ?_
      refine lv_ldc (v := 9999999) hx hb hown (htg _ q_653) dX6_mark_28 ?_
      refine vp_callSi (W.runS (As := [.int p2, .int 0, .int 9999999]) (rest := [.int 1, .ref (a 0)]) ⟨hx, hb, hml, hown, hts⟩ (c_X6_in l dC dI a k u p2 0 9999999) (cwS 3 hts (wG_S wG_c q_650 q_651 q_7 q_652) rfl rfl rfl (by decide +kernel) ⟨Nat.le_of_ble_eq_true rfl, Nat.le_of_ble_eq_true rfl⟩) (w_roS hK hP) rfl rfl hl.1 rfl (lv_room (Nat.le_of_ble_eq_true rfl)) dX6_mark_30 ⟨Nat.le_of_ble_eq_true rfl, Nat.le_of_ble_eq_true rfl⟩) (fun r_13 hr_13 => ?_)
      subst hr_13
      refine bz_ne (a := (inR p2 0 9999999)) (tgt := 40) hx hb dX6_mark_33 (by decide) (fun c_33 => ?_) (fun c_33 => ?_)
      · refine lv_iconst (v := 0) hx hb dX6_mark_40 (by decide) ?_
        refine lv_aload_n hx hb dX6_mark_41 rfl (lv_at hl 0 rfl) ?_
        refine va_get (D := (dC, dI)) (ci := 6) (v := .int (nI (cu_N u 1))) (C := RX6) (T := TX6) (N := 20) hx hb htg inX6 hown hK hP 0 (wR_g0 a k _) rfl 10 (by decide) (htg _ q_591) (fun _ h9 => h9) rfl dX6_mark_42 ?_
        refine lv_bipush (v := 60) hx hb dX6_mark_45 (by decide) ?_
        refine nb_ne (a := (cu_N u 1)) (b := 60) (tgt := 54) hx hb (by omega) (by omega) rfl rfl dX6_mark_47 (by decide) (fun c_47 => ?_) (fun c_47 => ?_)
        · refine lv_iconst (v := 0) hx hb dX6_mark_54 (by decide) ?_
          refine w_cali (w := wR a k) (va_runV (As := [.int 1, .int 0, .int 0]) (rest := []) ⟨hx, hb, hml, hown, hts⟩ (c_X6_throwing l dC dI a k u _ true false false) (cwV 3 hts (wG_V wG_c q_654 q_656 p_7 q_7 q_657) rfl rfl rfl (by decide +kernel) ⟨Nat.le_of_ble_eq_true rfl, Nat.le_of_ble_eq_true rfl⟩) (w_muV hK hP hD (ci := 6) (q0 := 0) rfl (wR_g0 a k _) rfl) rfl rfl hl.1 rfl (lv_room (Nat.le_of_ble_eq_true rfl)) dX6_mark_55 ⟨Nat.le_of_ble_eq_true rfl, Nat.le_of_ble_eq_true rfl⟩) hD hS hA (fun r_14 u_14 H locs hq_14 hP hD hS => ?_)
          obtain ⟨er9, eu9⟩ := hq_14
          subst er9 eu9
          refine wtopi (1) rfl ?_
          refine lv_if_eq (tgt := 63) hx hb dX6_mark_58 (by decide) (fun h9 => absurd h9 (by decide)) (fun _ => ?_)
          refine lv_iconst (v := 0) hx hb dX6_mark_61 (by decide) ?_
          exact W.iret (v := 0) hx hb hr (fun t9 ht9 hW9 => ⟨⟨_, cs_N u 4 (m_code true false false), rfl, ⟨fun _ => congrArg (cs_N u 4) (by simp [c_8, c_23, c_33, c_47]), fun h9 => absurd h9 (by simp [m_code, c_8, c_23, c_33, c_47])⟩, by rw [ht9]; exact hP, va_K.moved hW9.alike hK, hD⟩, hS.F ht9⟩) hS.2.2 dX6_mark_62
        · refine lv_iconst (v := 1) hx hb dX6_mark_50 (by decide) ?_
          refine lv_goto (tgt := 55) hx hb dX6_mark_51 (by decide) ?_
          refine w_cali (w := wR a k) (va_runV (As := [.int 1, .int 0, .int 1]) (rest := []) ⟨hx, hb, hml, hown, hts⟩ (c_X6_throwing l dC dI a k u _ true false true) (cwV 3 hts (wG_V wG_c q_654 q_656 p_7 q_7 q_657) rfl rfl rfl (by decide +kernel) ⟨Nat.le_of_ble_eq_true rfl, Nat.le_of_ble_eq_true rfl⟩) (w_muV hK hP hD (ci := 6) (q0 := 0) rfl (wR_g0 a k _) rfl) rfl rfl hl.1 rfl (lv_room (Nat.le_of_ble_eq_true rfl)) dX6_mark_55 ⟨Nat.le_of_ble_eq_true rfl, Nat.le_of_ble_eq_true rfl⟩) hD hS hA (fun r_15 u_15 H locs hq_15 hP hD hS => ?_)
          obtain ⟨er9, eu9⟩ := hq_15
          subst er9 eu9
          refine wtopi (1) rfl ?_
          refine lv_if_eq (tgt := 63) hx hb dX6_mark_58 (by decide) (fun h9 => absurd h9 (by decide)) (fun _ => ?_)
          refine lv_iconst (v := 0) hx hb dX6_mark_61 (by decide) ?_
          exact W.iret (v := 0) hx hb hr (fun t9 ht9 hW9 => ⟨⟨_, cs_N u 4 (m_code true false true), rfl, ⟨fun _ => congrArg (cs_N u 4) (by simp [c_8, c_23, c_33, c_47]), fun h9 => absurd h9 (by simp [m_code, c_8, c_23, c_33, c_47])⟩, by rw [ht9]; exact hP, va_K.moved hW9.alike hK, hD⟩, hS.F ht9⟩) hS.2.2 dX6_mark_62
      · refine lv_iconst (v := 1) hx hb dX6_mark_36 (by decide) ?_
        refine lv_goto (tgt := 41) hx hb dX6_mark_37 (by decide) ?_
        refine lv_aload_n hx hb dX6_mark_41 rfl (lv_at hl 0 rfl) ?_
        refine va_get (D := (dC, dI)) (ci := 6) (v := .int (nI (cu_N u 1))) (C := RX6) (T := TX6) (N := 20) hx hb htg inX6 hown hK hP 0 (wR_g0 a k _) rfl 10 (by decide) (htg _ q_591) (fun _ h9 => h9) rfl dX6_mark_42 ?_
        refine lv_bipush (v := 60) hx hb dX6_mark_45 (by decide) ?_
        refine nb_ne (a := (cu_N u 1)) (b := 60) (tgt := 54) hx hb (by omega) (by omega) rfl rfl dX6_mark_47 (by decide) (fun c_47 => ?_) (fun c_47 => ?_)
        · refine lv_iconst (v := 0) hx hb dX6_mark_54 (by decide) ?_
          refine w_cali (w := wR a k) (va_runV (As := [.int 1, .int 1, .int 0]) (rest := []) ⟨hx, hb, hml, hown, hts⟩ (c_X6_throwing l dC dI a k u _ true true false) (cwV 3 hts (wG_V wG_c q_654 q_656 p_7 q_7 q_657) rfl rfl rfl (by decide +kernel) ⟨Nat.le_of_ble_eq_true rfl, Nat.le_of_ble_eq_true rfl⟩) (w_muV hK hP hD (ci := 6) (q0 := 0) rfl (wR_g0 a k _) rfl) rfl rfl hl.1 rfl (lv_room (Nat.le_of_ble_eq_true rfl)) dX6_mark_55 ⟨Nat.le_of_ble_eq_true rfl, Nat.le_of_ble_eq_true rfl⟩) hD hS hA (fun r_16 u_16 H locs hq_16 hP hD hS => ?_)
          obtain ⟨er9, eu9⟩ := hq_16
          subst er9 eu9
          refine wtopi (1) rfl ?_
          refine lv_if_eq (tgt := 63) hx hb dX6_mark_58 (by decide) (fun h9 => absurd h9 (by decide)) (fun _ => ?_)
          refine lv_iconst (v := 0) hx hb dX6_mark_61 (by decide) ?_
          exact W.iret (v := 0) hx hb hr (fun t9 ht9 hW9 => ⟨⟨_, cs_N u 4 (m_code true true false), rfl, ⟨fun _ => congrArg (cs_N u 4) (by simp [c_8, c_23, c_33, c_47]), fun h9 => absurd h9 (by simp [m_code, c_8, c_23, c_33, c_47])⟩, by rw [ht9]; exact hP, va_K.moved hW9.alike hK, hD⟩, hS.F ht9⟩) hS.2.2 dX6_mark_62
        · refine lv_iconst (v := 1) hx hb dX6_mark_50 (by decide) ?_
          refine lv_goto (tgt := 55) hx hb dX6_mark_51 (by decide) ?_
          refine w_cali (w := wR a k) (va_runV (As := [.int 1, .int 1, .int 1]) (rest := []) ⟨hx, hb, hml, hown, hts⟩ (c_X6_throwing l dC dI a k u _ true true true) (cwV 3 hts (wG_V wG_c q_654 q_656 p_7 q_7 q_657) rfl rfl rfl (by decide +kernel) ⟨Nat.le_of_ble_eq_true rfl, Nat.le_of_ble_eq_true rfl⟩) (w_muV hK hP hD (ci := 6) (q0 := 0) rfl (wR_g0 a k _) rfl) rfl rfl hl.1 rfl (lv_room (Nat.le_of_ble_eq_true rfl)) dX6_mark_55 ⟨Nat.le_of_ble_eq_true rfl, Nat.le_of_ble_eq_true rfl⟩) hD hS hA (fun r_17 u_17 H locs hq_17 hP hD hS => ?_)
          obtain ⟨er9, eu9⟩ := hq_17
          subst er9 eu9
          refine wtopi (1) rfl ?_
          refine lv_if_eq (tgt := 63) hx hb dX6_mark_58 (by decide) (fun h9 => absurd h9 (by decide)) (fun _ => ?_)
          refine lv_iconst (v := 0) hx hb dX6_mark_61 (by decide) ?_
          exact W.iret (v := 0) hx hb hr (fun t9 ht9 hW9 => ⟨⟨_, cs_N u 4 (m_code true true true), rfl, ⟨fun _ => congrArg (cs_N u 4) (by simp [c_8, c_23, c_33, c_47]), fun h9 => absurd h9 (by simp [m_code, c_8, c_23, c_33, c_47])⟩, by rw [ht9]; exact hP, va_K.moved hW9.alike hK, hD⟩, hS.F ht9⟩) hS.2.2 dX6_mark_62
set_option maxHeartbeats 4000000 in
set_option maxRecDepth 100000 in
theorem c_X6_offset (l : Launch) (dC : Nat → ClassId) (dI : Nat → Nat → Nat) (a : Nat → Nat) (k : c_K) (u : c_St) (sz : Nat) (h : m_ok u) (p0 : Int32) : Met l yX6_offset wsX6_offset ({ frames := 2, cells := 0, slots := 0, locals := 44 }) (va_Pc [.ref (a 0), .int p0] (w_mu (dC, dI) vwCl (wR a k u) (tC k) sz)) (va_Qi (fun (r : Int32) (u1 : c_St) => u1 = cs_N u 4 (m_code (!inR p0 0 9) false false) ∧ (m_code (!inR p0 0 9) false false = 0 → ∃ sc : Nat, p0 = nI sc ∧ sc ≤ 9 ∧ r = iI (m_off u1 sc))) (w_at (dC, dI) vwCl (wR a k) (tC k) (va_A (wR a k u) sz)) (va_A (wR a k u) sz)) 0 0 (va_A (wR a k u) sz) := by
  refine Met.ofW (cc := cX6_offset) (maxL := 2) (ret := (some .int)) (by decide) rfl ?_
  intro p e s m args below meth c s₁ B hml hv
  obtain ⟨rfl, hsz, hP, hK, hD0⟩ := hv
  have hx := B.exec
  have hb := B.bytes
  have hr := B.returns
  have hts := atoms_spec (ws := wsX6_offset) B.pre
  have htg : ∀ w ∈ wG, w.before _ s = true := fun w h => hts w (List.mem_cons_of_mem _ h)
  have hown : s.vm.findClass RX6 = some m.cls := findClass_of_methodNamed B.named
  have hlocks := B.notSynchronized
  subst hsz
  have hD := hD0.self (sz := s.heap.size)
  generalize hAe : va_A (wR a k u) s.heap.size = A at hD ⊢
  have hA : ∀ q : Nat, s.heap.size ≤ q → A q := fun q h => by rw [← hAe]; exact Or.inr h
  have hS : va_S A s.heap s.heap [] := va_S.rf
  have hl := lv_entry ([.ref (a 0), .int p0]) (n := 2) (Nat.le_of_ble_eq_true rfl)
  rw [lg_entry_eq]
  generalize (lg_sl ([.ref (a 0), .int p0]) ++ List.replicate (2 - (lg_sl ([.ref (a 0), .int p0])).length) Slot.unset).toArray = ls at hl ⊢
  have hl : lv_has ls 2 [(0, .ref (a 0)), (1, .int p0)] := hl
  have h60 := h.2.1
  refine lv_aload_n hx hb dX6_offset_0 rfl (lv_at hl 0 rfl) ?_
  refine lv_iload_n hx hb dX6_offset_1 rfl (lv_at hl 1 rfl) ?_
  refine lv_iconst (v := 0) hx hb dX6_offset_2 (by decide) ?_
  refine lv_bipush (v := 9) hx hb dX6_offset_3 (by decide) ?_
  refine vp_callSi (W.runS (As := [.int p0, .int 0, .int 9]) (rest := [.ref (a 0)]) ⟨hx, hb, hml, hown, hts⟩ (c_X6_in l dC dI a k u p0 0 9) (cwS 3 hts (wG_S wG_c q_650 q_651 q_7 q_652) rfl rfl rfl (by decide +kernel) ⟨Nat.le_of_ble_eq_true rfl, Nat.le_of_ble_eq_true rfl⟩) (w_roS hK hP) rfl rfl hl.1 rfl (lv_room (Nat.le_of_ble_eq_true rfl)) dX6_offset_5 ⟨Nat.le_of_ble_eq_true rfl, Nat.le_of_ble_eq_true rfl⟩) (fun r_1 hr_1 => ?_)
  subst hr_1
  refine bz_ne (a := (inR p0 0 9)) (tgt := 15) hx hb dX6_offset_8 (by decide) (fun c_8 => ?_) (fun c_8 => ?_)
  · refine lv_iconst (v := 0) hx hb dX6_offset_15 (by decide) ?_
    refine lv_iconst (v := 0) hx hb dX6_offset_16 (by decide) ?_
    refine lv_iconst (v := 0) hx hb dX6_offset_17 (by decide) ?_
    refine w_cali (w := wR a k) (va_runV (As := [.int 0, .int 0, .int 0]) (rest := []) ⟨hx, hb, hml, hown, hts⟩ (c_X6_throwing l dC dI a k u _ false false false) (cwV 3 hts (wG_V wG_c q_654 q_656 p_7 q_7 q_657) rfl rfl rfl (by decide +kernel) ⟨Nat.le_of_ble_eq_true rfl, Nat.le_of_ble_eq_true rfl⟩) (w_muV hK hP hD (ci := 6) (q0 := 0) rfl (wR_g0 a k _) rfl) rfl rfl hl.1 rfl (lv_room (Nat.le_of_ble_eq_true rfl)) dX6_offset_18 ⟨Nat.le_of_ble_eq_true rfl, Nat.le_of_ble_eq_true rfl⟩) hD hS hA (fun r_2 u_2 H locs hq_2 hP hD hS => ?_)
    obtain ⟨er9, eu9⟩ := hq_2
    subst er9 eu9
    refine wtopi (0) rfl ?_
    refine lv_if_eq (tgt := 26) hx hb dX6_offset_21 (by decide) (fun _ => ?_) (fun h9 => absurd h9 (by decide))
    obtain ⟨sc, l_sc, h_sc, e_sc⟩ := inR_nat (l9 := 0) (h9 := 9) c_8 rfl rfl (by decide)
    subst e_sc
    obtain ⟨v, ev⟩ : ∃ v, v = cs_N u 4 (m_code false false false) := ⟨_, rfl⟩
    rw [← ev] at hP hD
    have hv : m_ok v := by rw [ev]; exact h
    have evN : ∀ k, k ≠ 4 → cu_N v k = cu_N u k := fun k hk => by rw [ev, cx_NN, if_neg hk]
    have evF : cu_F v = cu_F u := by rw [ev]; rfl
    have evB : cu_B v = cu_B u := by rw [ev]; rfl
    have evG : cu_G v = cu_G u := by rw [ev]; rfl
    have evD : cu_D v = cu_D u := by rw [ev]; rfl
    have v0 := evN 0 (by decide)
    have v1 := evN 1 (by decide)
    have v2 := evN 2 (by decide)
    have v3 := evN 3 (by decide)
    refine lv_aload_n hx hb dX6_offset_26 rfl (lv_at hl 0 rfl) ?_
    refine lv_iload_n hx hb dX6_offset_27 rfl (lv_at hl 1 rfl) ?_
    refine vp_callSi (W.runV (As := [.int (nI sc)]) (rest := []) ⟨hx, hb, hml, hown, hts⟩ (c_X6_offsetOf l dC dI a k v hv.2.1 sc (by omega) (fun j hj => (hv.2.2.2 j hj).1)) (cwV 1 hts (wG_V wG_c q_674 q_676 p_9 q_7 q_677) rfl rfl rfl (by decide +kernel) ⟨Nat.le_of_ble_eq_true rfl, Nat.le_of_ble_eq_true rfl⟩) (w_roV hK hP (ci := 6) (q0 := 0) rfl (wR_g0 a k _) rfl) rfl rfl hl.1 rfl (lv_room (Nat.le_of_ble_eq_true rfl)) dX6_offset_28 ⟨Nat.le_of_ble_eq_true rfl, Nat.le_of_ble_eq_true rfl⟩) (fun r_3 hr_3 => ?_)
    subst hr_3
    exact W.iret (v := iI (m_off v sc)) hx hb hr (fun t9 ht9 hW9 => ⟨⟨_, v, rfl, ⟨by rw [ev]; exact congrArg (cs_N u 4) (by simp [c_8]), fun h9 => ⟨sc, rfl, h_sc, rfl⟩⟩, by rw [ht9]; exact hP, va_K.moved hW9.alike hK, hD⟩, hS.F ht9⟩) hS.2.2 dX6_offset_31
  · refine lv_iconst (v := 1) hx hb dX6_offset_11 (by decide) ?_
    refine lv_goto (tgt := 16) hx hb dX6_offset_12 (by decide) ?_
    refine lv_iconst (v := 0) hx hb dX6_offset_16 (by decide) ?_
    refine lv_iconst (v := 0) hx hb dX6_offset_17 (by decide) ?_
    refine w_cali (w := wR a k) (va_runV (As := [.int 1, .int 0, .int 0]) (rest := []) ⟨hx, hb, hml, hown, hts⟩ (c_X6_throwing l dC dI a k u _ true false false) (cwV 3 hts (wG_V wG_c q_654 q_656 p_7 q_7 q_657) rfl rfl rfl (by decide +kernel) ⟨Nat.le_of_ble_eq_true rfl, Nat.le_of_ble_eq_true rfl⟩) (w_muV hK hP hD (ci := 6) (q0 := 0) rfl (wR_g0 a k _) rfl) rfl rfl hl.1 rfl (lv_room (Nat.le_of_ble_eq_true rfl)) dX6_offset_18 ⟨Nat.le_of_ble_eq_true rfl, Nat.le_of_ble_eq_true rfl⟩) hD hS hA (fun r_4 u_4 H locs hq_4 hP hD hS => ?_)
    obtain ⟨er9, eu9⟩ := hq_4
    subst er9 eu9
    refine wtopi (1) rfl ?_
    refine lv_if_eq (tgt := 26) hx hb dX6_offset_21 (by decide) (fun h9 => absurd h9 (by decide)) (fun _ => ?_)
    refine lv_iconst (v := 0) hx hb dX6_offset_24 (by decide) ?_
    exact W.iret (v := 0) hx hb hr (fun t9 ht9 hW9 => ⟨⟨_, cs_N u 4 (m_code true false false), rfl, ⟨congrArg (cs_N u 4) (by simp [c_8]), fun h9 => absurd h9 (by simp [m_code, c_8])⟩, by rw [ht9]; exact hP, va_K.moved hW9.alike hK, hD⟩, hS.F ht9⟩) hS.2.2 dX6_offset_25
theorem m_cn_le (u : c_St) : ∀ k, m_cn u k ≤ k
  | 0 => Nat.le_refl _
  | k + 1 => by
    have := m_cn_le u k
    show m_cn u k + _ ≤ _
    split <;> omega
theorem m_ct_f {u : c_St} {j : Nat} (h : cu_D u 0 j = cu_D u 0 (m_first u (cu_F u 5 j)).toNat) : m_ct u j = false := decide_eq_false (fun q => q h)
theorem m_ct_t {u : c_St} {j : Nat} (h : cu_D u 0 j ≠ cu_D u 0 (m_first u (cu_F u 5 j)).toNat) : m_ct u j = true := decide_eq_true h
theorem m_cn_f {u : c_St} {j : Nat} (h : m_ct u j = false) : m_cn u (j + 1) = m_cn u j := by
  show m_cn u j + _ = _
  rw [if_neg (by rw [h]; decide)]; rfl
theorem m_cn_t {u : c_St} {j : Nat} (h : m_ct u j = true) : m_cn u (j + 1) = m_cn u j + 1 := by
  show m_cn u j + _ = _
  rw [if_pos h]
theorem m_con_n {u : c_St} {q k : Nat} (h : m_con u q k = -1) (h2 : ¬ (m_ct u k = true ∧ m_cn u k = q)) : m_con u q (k + 1) = -1 := by
  unfold m_con
  rw [if_pos h, if_neg h2]
theorem m_con_y {u : c_St} {q k : Nat} (hf : 0 ≤ m_first u (cu_F u 5 k)) (h : m_con u q k = -1) (h2 : m_ct u k = true ∧ m_cn u k = q) : ∀ d, m_con u q (k + 1 + d) = 100 * m_first u (cu_F u 5 k) + (k : Int)
  | 0 => by
    show m_con u q (k + 1) = _
    unfold m_con
    rw [if_pos h, if_pos h2]
  | d + 1 => by
    have h3 := m_con_y hf h h2 d
    show (if m_con u q (k + 1 + d) = -1 then _ else m_con u q (k + 1 + d)) = _
    rw [h3, if_neg (by omega)]
/-- a mark's source has a first mark -/
theorem m_first_0 {u : c_St} {j : Nat} (hj : j < cu_N u 1) : 0 ≤ m_first u (cu_F u 5 j) := by
  have key : ∀ k, j < k → m_scan u (cu_F u 5 j) k ≠ -1 := by
    intro k
    induction k with
    | zero => intro h; omega
    | succ k ih =>
      intro h q
      unfold m_scan at q
      by_cases hk : j = k
      · subst hk
        split at q
        · rw [if_pos rfl] at q; omega
        · contradiction
      · have := ih (by omega)
        rw [if_neg this] at q
        exact this q
  have h1 := key _ hj
  have h2 := m_first_b u (cu_F u 5 j)
  unfold m_first at *
  omega
set_option maxHeartbeats 4000000 in
set_option maxRecDepth 100000 in
theorem c_X6_contradiction (l : Launch) (dC : Nat → ClassId) (dI : Nat → Nat → Nat) (a : Nat → Nat) (k : c_K) (u : c_St) (sz : Nat) (h : m_ok u) (p0 : Int32) : Met l yX6_contradiction wsX6_contradiction ({ frames := 1, cells := 0, slots := 0, locals := 23 }) (va_Pc [.ref (a 0), .int p0] (w_mu (dC, dI) vwCl (wR a k u) (tC k) sz)) (va_Qi (fun (r : Int32) (u1 : c_St) => u1 = cs_N u 4 (m_code (decide (p0 < 0)) false false) ∧ (m_code (decide (p0 < 0)) false false = 0 → ∃ q : Nat, q < 2147483648 ∧ p0 = nI q ∧ r = iI (m_con u1 q (cu_N u1 1)))) (w_at (dC, dI) vwCl (wR a k) (tC k) (va_A (wR a k u) sz)) (va_A (wR a k u) sz)) 0 0 (va_A (wR a k u) sz) := by
  refine Met.ofW (cc := cX6_contradiction) (maxL := 5) (ret := (some .int)) (by decide) rfl ?_
  intro p e s m args below meth c s₁ B hml hv
  obtain ⟨rfl, hsz, hP, hK, hD0⟩ := hv
  have hx := B.exec
  have hb := B.bytes
  have hr := B.returns
  have hts := atoms_spec (ws := wsX6_contradiction) B.pre
  have htg : ∀ w ∈ wG, w.before _ s = true := fun w h => hts w (List.mem_cons_of_mem _ h)
  have hown : s.vm.findClass RX6 = some m.cls := findClass_of_methodNamed B.named
  have hlocks := B.notSynchronized
  subst hsz
  have hD := hD0.self (sz := s.heap.size)
  generalize hAe : va_A (wR a k u) s.heap.size = A at hD ⊢
  have hA : ∀ q : Nat, s.heap.size ≤ q → A q := fun q h => by rw [← hAe]; exact Or.inr h
  have hS : va_S A s.heap s.heap [] := va_S.rf
  have hl := lv_entry ([.ref (a 0), .int p0]) (n := 5) (Nat.le_of_ble_eq_true rfl)
  rw [lg_entry_eq]
  generalize (lg_sl ([.ref (a 0), .int p0]) ++ List.replicate (5 - (lg_sl ([.ref (a 0), .int p0])).length) Slot.unset).toArray = ls at hl ⊢
  have hl : lv_has ls 5 [(0, .ref (a 0)), (1, .int p0)] := hl
  refine lv_aload_n hx hb dX6_contradiction_0 rfl (lv_at hl 0 rfl) ?_
  refine lv_iload_n hx hb dX6_contradiction_1 rfl (lv_at hl 1 rfl) ?_
  refine lv_if_ge (tgt := 9) hx hb dX6_contradiction_2 (by decide) (fun c_2 => ?_) (fun c_2 => ?_)
  · have c_2 : ¬ p0 < 0 := by
      rw [Int32.lt_iff_toInt_lt]
      rw [Int32.le_iff_toInt_le] at c_2
      omega
    refine lv_iconst (v := 0) hx hb dX6_contradiction_9 (by decide) ?_
    refine lv_iconst (v := 0) hx hb dX6_contradiction_10 (by decide) ?_
    refine lv_iconst (v := 0) hx hb dX6_contradiction_11 (by decide) ?_
    refine w_cali (w := wR a k) (va_runV (As := [.int 0, .int 0, .int 0]) (rest := []) ⟨hx, hb, hml, hown, hts⟩ (c_X6_throwing l dC dI a k u _ false false false) (cwV 3 hts (wG_V wG_c q_654 q_656 p_7 q_7 q_657) rfl rfl rfl (by decide +kernel) ⟨Nat.le_of_ble_eq_true rfl, Nat.le_of_ble_eq_true rfl⟩) (w_muV hK hP hD (ci := 6) (q0 := 0) rfl (wR_g0 a k _) rfl) rfl rfl hl.1 rfl (lv_room (Nat.le_of_ble_eq_true rfl)) dX6_contradiction_12 ⟨Nat.le_of_ble_eq_true rfl, Nat.le_of_ble_eq_true rfl⟩) hD hS hA (fun r_1 u_1 H locs hq_1 hP hD hS => ?_)
    obtain ⟨er9, eu9⟩ := hq_1
    subst er9 eu9
    refine wtopi (0) rfl ?_
    refine lv_if_eq (tgt := 20) hx hb dX6_contradiction_15 (by decide) (fun _ => ?_) (fun h9 => absurd h9 (by decide))
    obtain ⟨q, hq, eq9⟩ := nI_of (x := p0) c_2
    subst eq9
    obtain ⟨v, ev⟩ : ∃ v, v = cs_N u 4 (m_code false false false) := ⟨_, rfl⟩
    rw [← ev] at hP hD
    have hv : m_ok v := by rw [ev]; exact h
    have evN : ∀ k, k ≠ 4 → cu_N v k = cu_N u k := fun k hk => by rw [ev, cx_NN, if_neg hk]
    have evF : cu_F v = cu_F u := by rw [ev]; rfl
    have evB : cu_B v = cu_B u := by rw [ev]; rfl
    have evG : cu_G v = cu_G u := by rw [ev]; rfl
    have evD : cu_D v = cu_D u := by rw [ev]; rfl
    have v0 := evN 0 (by decide)
    have v1 := evN 1 (by decide)
    have v2 := evN 2 (by decide)
    have v3 := evN 3 (by decide)
    have h60 := hv.2.1
    refine lv_iload_n hx hb dX6_contradiction_20 rfl (lv_at hl 1 rfl) ?_
    refine lv_istore_n (lv' := [(2, .int (nI q)), (0, .ref (a 0)), (1, .int (nI q))]) hx hb dX6_contradiction_21 rfl hl (by decide) rfl (fun ls hl => ?_)
    refine lv_iconst (v := 0) hx hb dX6_contradiction_22 (by decide) ?_
    refine lv_istore_n (lv' := [(3, .int 0), (2, .int (nI q)), (0, .ref (a 0)), (1, .int (nI q))]) hx hb dX6_contradiction_23 rfl hl (by decide) rfl (fun ls hl => ?_)
    refine w_loop (fun j : Nat => cu_N v 1 - j) (fun j ls => (j ≤ cu_N v 1 ∧ m_con v q j = -1 ∧ m_cn v j ≤ q) ∧ lv_has ls 5 [(0, .ref (a 0)), (2, .int (nI (q - m_cn v j))), (3, .int (nI j))]) ?_ 0 ls ⟨⟨Nat.zero_le _, rfl, Nat.zero_le _⟩, lv_sub hl [2, 1, 0] rfl⟩
    clear hl
    intro j ls hI ih
    obtain ⟨hI, hl⟩ := hI
    refine lv_iload_n hx hb dX6_contradiction_24 rfl (lv_at hl 2 rfl) ?_
    refine lv_aload_n hx hb dX6_contradiction_25 rfl (lv_at hl 0 rfl) ?_
    refine va_get (D := (dC, dI)) (ci := 6) (v := .int (nI (cu_N v 1))) (C := RX6) (T := TX6) (N := 20) hx hb htg inX6 hown hK hP 0 (wR_g0 a k _) rfl 10 (by decide) (htg _ q_591) (fun _ h9 => h9) rfl dX6_contradiction_26 ?_
    refine nb_ge (a := j) (b := (cu_N v 1)) (tgt := 81) hx hb (by omega) (by omega) rfl rfl dX6_contradiction_29 (by decide) (fun c_29 => ?_) (fun c_29 => ?_)
    · refine lv_iconst (v := (-1)) hx hb dX6_contradiction_81 (by decide) ?_
      exact W.iret (v := (-1)) hx hb hr (fun t9 ht9 hW9 => ⟨⟨_, v, rfl, ⟨by rw [ev]; exact congrArg (cs_N u 4) (by simp [c_2]), fun h9 => ⟨q, hq, rfl, by rw [show cu_N v 1 = j by omega, hI.2.1]; rfl⟩⟩, by rw [ht9]; exact hP, va_K.moved hW9.alike hK, hD⟩, hS.F ht9⟩) hS.2.2 dX6_contradiction_82
    · have hfb := m_first_b v (cu_F v 5 j)
      have hf0 := m_first_0 (u := v) (j := j) (by omega)
      have hvj := hv.2.2.2 j (by omega)
      have hvf := hv.2.2.2 (m_first v (cu_F v 5 j)).toNat (by omega)
      refine lv_aload_n hx hb dX6_contradiction_32 rfl (lv_at hl 0 rfl) ?_
      refine lv_aload_n hx hb dX6_contradiction_33 rfl (lv_at hl 0 rfl) ?_
      refine va_get (D := (dC, dI)) (ci := 6) (v := .ref (a 6)) (C := RX6) (T := TX6) (N := 20) hx hb htg inX6 hown hK hP 0 (wR_g0 a k _) rfl 11 (by decide) (htg _ q_592) (fun _ h9 => h9) rfl dX6_contradiction_34 ?_
      refine lv_iload_n hx hb dX6_contradiction_37 rfl (lv_at hl 2 rfl) ?_
      refine va_iald hx hb hK hP 6 0 (wR_g6 a k _) rfl (vp_in_nI (n := j) (N := 60) (show j < 60 by omega) (by decide)) dX6_contradiction_38 ?_
      refine wtopi (nI (cu_F v 5 j)) (congrArg (fun j9 => nI (cu_F v 5 j9)) (nI_clamp (n := j) (Nat.lt_trans (m := 60) (show j < 60 by omega) (by decide)))) ?_
      refine vp_callSi (W.runV (As := [.int (nI (cu_F v 5 j))]) (rest := []) ⟨hx, hb, hml, hown, hts⟩ (c_X6_firstMark l dC dI a k v hv.2.1 (cu_F v 5 j) (hv.2.2.2 j (by omega)).1 (fun j hj => (hv.2.2.2 j hj).1)) (cwV 1 hts (wG_V wG_c q_678 q_680 p_10 q_7 q_681) rfl rfl rfl (by decide +kernel) ⟨Nat.le_of_ble_eq_true rfl, Nat.le_of_ble_eq_true rfl⟩) (w_roV hK hP (ci := 6) (q0 := 0) rfl (wR_g0 a k _) rfl) rfl rfl hl.1 rfl (lv_room (Nat.le_of_ble_eq_true rfl)) dX6_contradiction_39 ⟨Nat.le_of_ble_eq_true rfl, Nat.le_of_ble_eq_true rfl⟩) (fun r_2 hr_2 => ?_)
      subst hr_2
      refine lv_istore (lv' := [(4, .int (iI (m_first v (cu_F v 5 j)))), (0, .ref (a 0)), (2, .int (nI (q - m_cn v j))), (3, .int (nI j))]) hx hb dX6_contradiction_42 hl (by decide) rfl (fun ls hl => ?_)
      refine lv_aload_n hx hb dX6_contradiction_44 rfl (lv_at hl 1 rfl) ?_
      refine va_get (D := (dC, dI)) (ci := 6) (v := .ref (a 15)) (C := RX6) (T := TX6) (N := 20) hx hb htg inX6 hown hK hP 0 (wR_g0 a k _) rfl 12 (by decide) (htg _ q_593) (fun _ h9 => h9) rfl dX6_contradiction_45 ?_
      refine lv_iload_n hx hb dX6_contradiction_48 rfl (lv_at hl 3 rfl) ?_
      refine va_iald hx hb hK hP 15 0 (wR_g15 a k _) rfl (vp_in_nI (n := j) (N := 60) (show j < 60 by omega) (by decide)) dX6_contradiction_49 ?_
      refine wtopi (iI (cu_D v 0 j)) (congrArg (fun j9 => iI (cu_D v 0 j9)) (nI_clamp (n := j) (Nat.lt_trans (m := 60) (show j < 60 by omega) (by decide)))) ?_
      refine lv_aload_n hx hb dX6_contradiction_50 rfl (lv_at hl 1 rfl) ?_
      refine va_get (D := (dC, dI)) (ci := 6) (v := .ref (a 15)) (C := RX6) (T := TX6) (N := 20) hx hb htg inX6 hown hK hP 0 (wR_g0 a k _) rfl 12 (by decide) (htg _ q_593) (fun _ h9 => h9) rfl dX6_contradiction_51 ?_
      refine lv_iload hx hb dX6_contradiction_54 (lv_at hl 0 rfl) ?_
      refine wtopi (y := nI ((m_first v (cu_F v 5 j)).toNat)) (show iI _ = nI _ from by rw [nI_iI, Int.toNat_of_nonneg hf0]) ?_
      refine va_iald hx hb hK hP 15 0 (wR_g15 a k _) rfl (vp_in_nI (n := ((m_first v (cu_F v 5 j)).toNat)) (N := 60) (show (m_first v (cu_F v 5 j)).toNat < 60 by omega) (by decide)) dX6_contradiction_56 ?_
      refine wtopi (iI (cu_D v 0 ((m_first v (cu_F v 5 j)).toNat))) (congrArg (fun j9 => iI (cu_D v 0 j9)) (nI_clamp (n := ((m_first v (cu_F v 5 j)).toNat)) (Nat.lt_trans (m := 60) (show (m_first v (cu_F v 5 j)).toNat < 60 by omega) (by decide)))) ?_
      refine ib_eq (a := (cu_D v 0 j)) (b := (cu_D v 0 ((m_first v (cu_F v 5 j)).toNat))) (tgt := 75) hx hb (by omega) (by omega) (by omega) (by omega) rfl rfl dX6_contradiction_57 (by decide) (fun c_57 => ?_) (fun c_57 => ?_)
      · have hct := m_ct_f c_57
        refine lv_iinc (v := nI (j + 1)) (lv' := [(3, .int (nI (j + 1))), (4, .int (iI (m_first v (cu_F v 5 j)))), (0, .ref (a 0)), (2, .int (nI (q - m_cn v j)))]) hx hb dX6_contradiction_75 hl (k := 3) rfl (nI_1 j) (by decide) rfl (fun ls hl => ?_)
        refine lv_goto (tgt := 24) hx hb dX6_contradiction_78 (by decide) ?_
        exact ih (j + 1) ls (by omega) ⟨⟨by omega, m_con_n hI.2.1 (fun z => by rw [hct] at z; cases z.1), by rw [m_cn_f hct]; exact hI.2.2⟩, lv_sub hl [2, 3, 0] (by rw [m_cn_f hct]; rfl)⟩
      · have hct := m_ct_t c_57
        refine lv_iload_n hx hb dX6_contradiction_60 rfl (lv_at hl 2 rfl) ?_
        refine iz_ne (a := (((q - m_cn v j) : Nat) : Int)) (tgt := 72) hx hb (by omega) (by omega) (nI_iI _) dX6_contradiction_61 (by decide) (fun c_61 => ?_) (fun c_61 => ?_)
        · have c_61 : q - m_cn v j ≠ 0 := by omega
          refine lv_iinc (v := nI (q - m_cn v j - 1)) (lv' := [(2, .int (nI (q - m_cn v j - 1))), (4, .int (iI (m_first v (cu_F v 5 j)))), (0, .ref (a 0)), (3, .int (nI j))]) hx hb dX6_contradiction_72 hl (k := 2) rfl (show nI (q - m_cn v j) + (-1) = nI (q - m_cn v j - 1) from by rw [show q - m_cn v j = q - m_cn v j - 1 + 1 by omega]; exact pk_m1 _) (by decide) rfl (fun ls hl => ?_)
          refine lv_iinc (v := nI (j + 1)) (lv' := [(3, .int (nI (j + 1))), (2, .int (nI (q - m_cn v j - 1))), (4, .int (iI (m_first v (cu_F v 5 j)))), (0, .ref (a 0))]) hx hb dX6_contradiction_75 hl (k := 3) rfl (nI_1 j) (by decide) rfl (fun ls hl => ?_)
          refine lv_goto (tgt := 24) hx hb dX6_contradiction_78 (by decide) ?_
          exact ih (j + 1) ls (by omega) ⟨⟨by omega, m_con_n hI.2.1 (fun z => by omega), by rw [m_cn_t hct]; omega⟩, lv_sub hl [3, 1, 0] (by rw [m_cn_t hct, show q - (m_cn v j + 1) = q - m_cn v j - 1 by omega]; rfl)⟩
        · have c_61 : q - m_cn v j = 0 := by omega
          refine lv_bipush (v := 100) hx hb dX6_contradiction_64 (by decide) ?_
          refine lv_iload hx hb dX6_contradiction_66 (lv_at hl 0 rfl) ?_
          refine lv_imul hx hb dX6_contradiction_68 ?_
          refine wtopi (y := iI (100 * m_first v (cu_F v 5 j))) (iI_mul 100 _) ?_
          refine lv_iload_n hx hb dX6_contradiction_69 rfl (lv_at hl 3 rfl) ?_
          refine lv_iadd hx hb dX6_contradiction_70 ?_
          refine wtopi (y := iI (100 * m_first v (cu_F v 5 j) + (j : Int))) (by rw [nI_iI, iI_add]) ?_
          exact W.iret (v := iI (100 * m_first v (cu_F v 5 j) + (j : Int))) hx hb hr (fun t9 ht9 hW9 => ⟨⟨_, v, rfl, ⟨by rw [ev]; exact congrArg (cs_N u 4) (by simp [c_2]), fun h9 => ⟨q, hq, rfl, by rw [← m_con_y hf0 hI.2.1 ⟨hct, by omega⟩ (cu_N v 1 - j - 1), show j + 1 + (cu_N v 1 - j - 1) = cu_N v 1 by omega]⟩⟩, by rw [ht9]; exact hP, va_K.moved hW9.alike hK, hD⟩, hS.F ht9⟩) hS.2.2 dX6_contradiction_71
  · have c_2 : p0 < 0 := by
      rw [Int32.lt_iff_toInt_lt]
      rw [Int32.le_iff_toInt_le] at c_2
      omega
    refine lv_iconst (v := 1) hx hb dX6_contradiction_5 (by decide) ?_
    refine lv_goto (tgt := 10) hx hb dX6_contradiction_6 (by decide) ?_
    refine lv_iconst (v := 0) hx hb dX6_contradiction_10 (by decide) ?_
    refine lv_iconst (v := 0) hx hb dX6_contradiction_11 (by decide) ?_
    refine w_cali (w := wR a k) (va_runV (As := [.int 1, .int 0, .int 0]) (rest := []) ⟨hx, hb, hml, hown, hts⟩ (c_X6_throwing l dC dI a k u _ true false false) (cwV 3 hts (wG_V wG_c q_654 q_656 p_7 q_7 q_657) rfl rfl rfl (by decide +kernel) ⟨Nat.le_of_ble_eq_true rfl, Nat.le_of_ble_eq_true rfl⟩) (w_muV hK hP hD (ci := 6) (q0 := 0) rfl (wR_g0 a k _) rfl) rfl rfl hl.1 rfl (lv_room (Nat.le_of_ble_eq_true rfl)) dX6_contradiction_12 ⟨Nat.le_of_ble_eq_true rfl, Nat.le_of_ble_eq_true rfl⟩) hD hS hA (fun r_3 u_3 H locs hq_3 hP hD hS => ?_)
    obtain ⟨er9, eu9⟩ := hq_3
    subst er9 eu9
    refine wtopi (1) rfl ?_
    refine lv_if_eq (tgt := 20) hx hb dX6_contradiction_15 (by decide) (fun h9 => absurd h9 (by decide)) (fun _ => ?_)
    refine lv_iconst (v := 0) hx hb dX6_contradiction_18 (by decide) ?_
    exact W.iret (v := 0) hx hb hr (fun t9 ht9 hW9 => ⟨⟨_, cs_N u 4 (m_code true false false), rfl, ⟨congrArg (cs_N u 4) (by simp [c_2]), fun h9 => absurd h9 (by simp [m_code, c_2])⟩, by rw [ht9]; exact hP, va_K.moved hW9.alike hK, hD⟩, hS.F ht9⟩) hS.2.2 dX6_contradiction_19
set_option maxHeartbeats 4000000 in
set_option maxRecDepth 100000 in
theorem c_X6_find (l : Launch) (dC : Nat → ClassId) (dI : Nat → Nat → Nat) (a : Nat → Nat) (k : c_K) (u : c_St) (sz : Nat) (h : m_ok u) (p0 p1 p2 p3 p4 : Int32) : Met l yX6_find wsX6_find ({ frames := 6, cells := 0, slots := 0, locals := 143 }) (va_Pc [.ref (a 0), .int p0, .int p1, .int p2, .int p3, .int p4] (w_mu (dC, dI) vwCl (wR a k u) (tC k) sz)) (va_Qi (fun (r : Int32) (u1 : c_St) => u1 = cs_N u 4 (m_code (!inR p2 (-1) 99 || !inR p3 (-1) 49) (decide (p4 < 0)) false) ∧ (m_code (!inR p2 (-1) 99 || !inR p3 (-1) 49) (decide (p4 < 0)) false = 0 → ∃ q : Nat, q < 2147483648 ∧ p4 = nI q ∧ r = iI (m_fnd u1 p0 p1 p2 p3 q (cu_N u1 0)))) (w_at (dC, dI) vwCl (wR a k) (tC k) (va_A (wR a k u) sz)) (va_A (wR a k u) sz)) 0 0 (va_A (wR a k u) sz) := by
  refine Met.ofW (cc := cX6_find) (maxL := 6) (ret := (some .int)) (by decide) rfl ?_
  intro p e s m args below meth c s₁ B hml hv
  obtain ⟨rfl, hsz, hP, hK, hD0⟩ := hv
  have hx := B.exec
  have hb := B.bytes
  have hr := B.returns
  have hts := atoms_spec (ws := wsX6_find) B.pre
  have htg : ∀ w ∈ wG, w.before _ s = true := fun w h => hts w (List.mem_cons_of_mem _ h)
  have hown : s.vm.findClass RX6 = some m.cls := findClass_of_methodNamed B.named
  have hlocks := B.notSynchronized
  subst hsz
  have hD := hD0.self (sz := s.heap.size)
  generalize hAe : va_A (wR a k u) s.heap.size = A at hD ⊢
  have hA : ∀ q : Nat, s.heap.size ≤ q → A q := fun q h => by rw [← hAe]; exact Or.inr h
  have hS : va_S A s.heap s.heap [] := va_S.rf
  have hl := lv_entry ([.ref (a 0), .int p0, .int p1, .int p2, .int p3, .int p4]) (n := 6) (Nat.le_of_ble_eq_true rfl)
  rw [lg_entry_eq]
  generalize (lg_sl ([.ref (a 0), .int p0, .int p1, .int p2, .int p3, .int p4]) ++ List.replicate (6 - (lg_sl ([.ref (a 0), .int p0, .int p1, .int p2, .int p3, .int p4])).length) Slot.unset).toArray = ls at hl ⊢
  have hl : lv_has ls 6 [(0, .ref (a 0)), (1, .int p0), (2, .int p1), (3, .int p2), (4, .int p3), (5, .int p4)] := hl
  refine lv_aload_n hx hb dX6_find_0 rfl (lv_at hl 0 rfl) ?_
  refine lv_iload_n hx hb dX6_find_1 rfl (lv_at hl 3 rfl) ?_
  refine lv_iconst (v := (-1)) hx hb dX6_find_2 (by decide) ?_
  refine lv_bipush (v := 99) hx hb dX6_find_3 (by decide) ?_
  refine vp_callSi (W.runS (As := [.int p2, .int (-1), .int 99]) (rest := [.ref (a 0)]) ⟨hx, hb, hml, hown, hts⟩ (c_X6_in l dC dI a k u p2 (-1) 99) (cwS 3 hts (wG_S wG_c q_650 q_651 q_7 q_652) rfl rfl rfl (by decide +kernel) ⟨Nat.le_of_ble_eq_true rfl, Nat.le_of_ble_eq_true rfl⟩) (w_roS hK hP) rfl rfl hl.1 rfl (lv_room (Nat.le_of_ble_eq_true rfl)) dX6_find_5 ⟨Nat.le_of_ble_eq_true rfl, Nat.le_of_ble_eq_true rfl⟩) (fun r_1 hr_1 => ?_)
  subst hr_1
  refine bz_eq (a := (inR p2 (-1) 99)) (tgt := 22) hx hb dX6_find_8 (by decide) (fun c_8 => ?_) (fun c_8 => ?_)
  · refine lv_iconst (v := 1) hx hb dX6_find_22 (by decide) ?_
    refine lv_goto (tgt := 27) hx hb dX6_find_23 (by decide) ?_
    refine lv_iload hx hb dX6_find_27 (lv_at hl 5 rfl) ?_
    refine lv_if_ge (tgt := 36) hx hb dX6_find_29 (by decide) (fun c_29 => ?_) (fun c_29 => ?_)
    · have c_29 : ¬ p4 < 0 := by
        rw [Int32.lt_iff_toInt_lt]
        rw [Int32.le_iff_toInt_le] at c_29
        omega
      refine lv_iconst (v := 0) hx hb dX6_find_36 (by decide) ?_
      refine lv_iconst (v := 0) hx hb dX6_find_37 (by decide) ?_
      refine w_cali (w := wR a k) (va_runV (As := [.int 1, .int 0, .int 0]) (rest := []) ⟨hx, hb, hml, hown, hts⟩ (c_X6_throwing l dC dI a k u _ true false false) (cwV 3 hts (wG_V wG_c q_654 q_656 p_7 q_7 q_657) rfl rfl rfl (by decide +kernel) ⟨Nat.le_of_ble_eq_true rfl, Nat.le_of_ble_eq_true rfl⟩) (w_muV hK hP hD (ci := 6) (q0 := 0) rfl (wR_g0 a k _) rfl) rfl rfl hl.1 rfl (lv_room (Nat.le_of_ble_eq_true rfl)) dX6_find_38 ⟨Nat.le_of_ble_eq_true rfl, Nat.le_of_ble_eq_true rfl⟩) hD hS hA (fun r_2 u_2 H locs hq_2 hP hD hS => ?_)
      obtain ⟨er9, eu9⟩ := hq_2
      subst er9 eu9
      refine wtopi (1) rfl ?_
      refine lv_if_eq (tgt := 46) hx hb dX6_find_41 (by decide) (fun h9 => absurd h9 (by decide)) (fun _ => ?_)
      refine lv_iconst (v := 0) hx hb dX6_find_44 (by decide) ?_
      exact W.iret (v := 0) hx hb hr (fun t9 ht9 hW9 => ⟨⟨_, cs_N u 4 (m_code true false false), rfl, ⟨congrArg (cs_N u 4) (by simp [c_8, c_29]), fun h9 => absurd h9 (by simp [m_code, c_8, c_29])⟩, by rw [ht9]; exact hP, va_K.moved hW9.alike hK, hD⟩, hS.F ht9⟩) hS.2.2 dX6_find_45
    · have c_29 : p4 < 0 := by
        rw [Int32.lt_iff_toInt_lt]
        rw [Int32.le_iff_toInt_le] at c_29
        omega
      refine lv_iconst (v := 1) hx hb dX6_find_32 (by decide) ?_
      refine lv_goto (tgt := 37) hx hb dX6_find_33 (by decide) ?_
      refine lv_iconst (v := 0) hx hb dX6_find_37 (by decide) ?_
      refine w_cali (w := wR a k) (va_runV (As := [.int 1, .int 1, .int 0]) (rest := []) ⟨hx, hb, hml, hown, hts⟩ (c_X6_throwing l dC dI a k u _ true true false) (cwV 3 hts (wG_V wG_c q_654 q_656 p_7 q_7 q_657) rfl rfl rfl (by decide +kernel) ⟨Nat.le_of_ble_eq_true rfl, Nat.le_of_ble_eq_true rfl⟩) (w_muV hK hP hD (ci := 6) (q0 := 0) rfl (wR_g0 a k _) rfl) rfl rfl hl.1 rfl (lv_room (Nat.le_of_ble_eq_true rfl)) dX6_find_38 ⟨Nat.le_of_ble_eq_true rfl, Nat.le_of_ble_eq_true rfl⟩) hD hS hA (fun r_3 u_3 H locs hq_3 hP hD hS => ?_)
      obtain ⟨er9, eu9⟩ := hq_3
      subst er9 eu9
      refine wtopi (1) rfl ?_
      refine lv_if_eq (tgt := 46) hx hb dX6_find_41 (by decide) (fun h9 => absurd h9 (by decide)) (fun _ => ?_)
      refine lv_iconst (v := 0) hx hb dX6_find_44 (by decide) ?_
      exact W.iret (v := 0) hx hb hr (fun t9 ht9 hW9 => ⟨⟨_, cs_N u 4 (m_code true true false), rfl, ⟨congrArg (cs_N u 4) (by simp [c_8, c_29]), fun h9 => absurd h9 (by simp [m_code, c_8, c_29])⟩, by rw [ht9]; exact hP, va_K.moved hW9.alike hK, hD⟩, hS.F ht9⟩) hS.2.2 dX6_find_45
  · refine lv_iload hx hb dX6_find_11 (lv_at hl 4 rfl) ?_
    refine lv_iconst (v := (-1)) hx hb dX6_find_13 (by decide) ?_
    refine lv_bipush (v := 49) hx hb dX6_find_14 (by decide) ?_
    refine vp_callSi (W.runS (As := [.int p3, .int (-1), .int 49]) (rest := [.ref (a 0)]) ⟨hx, hb, hml, hown, hts⟩ (c_X6_in l dC dI a k u p3 (-1) 49) (cwS 3 hts (wG_S wG_c q_650 q_651 q_7 q_652) rfl rfl rfl (by decide +kernel) ⟨Nat.le_of_ble_eq_true rfl, Nat.le_of_ble_eq_true rfl⟩) (w_roS hK hP) rfl rfl hl.1 rfl (lv_room (Nat.le_of_ble_eq_true rfl)) dX6_find_16 ⟨Nat.le_of_ble_eq_true rfl, Nat.le_of_ble_eq_true rfl⟩) (fun r_4 hr_4 => ?_)
    subst hr_4
    refine bz_ne (a := (inR p3 (-1) 49)) (tgt := 26) hx hb dX6_find_19 (by decide) (fun c_19 => ?_) (fun c_19 => ?_)
    · refine lv_iconst (v := 0) hx hb dX6_find_26 (by decide) ?_
      refine lv_iload hx hb dX6_find_27 (lv_at hl 5 rfl) ?_
      refine lv_if_ge (tgt := 36) hx hb dX6_find_29 (by decide) (fun c_29 => ?_) (fun c_29 => ?_)
      · have c_29 : ¬ p4 < 0 := by
          rw [Int32.lt_iff_toInt_lt]
          rw [Int32.le_iff_toInt_le] at c_29
          omega
        refine lv_iconst (v := 0) hx hb dX6_find_36 (by decide) ?_
        refine lv_iconst (v := 0) hx hb dX6_find_37 (by decide) ?_
        refine w_cali (w := wR a k) (va_runV (As := [.int 0, .int 0, .int 0]) (rest := []) ⟨hx, hb, hml, hown, hts⟩ (c_X6_throwing l dC dI a k u _ false false false) (cwV 3 hts (wG_V wG_c q_654 q_656 p_7 q_7 q_657) rfl rfl rfl (by decide +kernel) ⟨Nat.le_of_ble_eq_true rfl, Nat.le_of_ble_eq_true rfl⟩) (w_muV hK hP hD (ci := 6) (q0 := 0) rfl (wR_g0 a k _) rfl) rfl rfl hl.1 rfl (lv_room (Nat.le_of_ble_eq_true rfl)) dX6_find_38 ⟨Nat.le_of_ble_eq_true rfl, Nat.le_of_ble_eq_true rfl⟩) hD hS hA (fun r_5 u_5 H locs hq_5 hP hD hS => ?_)
        obtain ⟨er9, eu9⟩ := hq_5
        subst er9 eu9
        refine wtopi (0) rfl ?_
        refine lv_if_eq (tgt := 46) hx hb dX6_find_41 (by decide) (fun _ => ?_) (fun h9 => absurd h9 (by decide))
        obtain ⟨q, hq, eq9⟩ := nI_of (x := p4) c_29
        subst eq9
        obtain ⟨v, ev⟩ : ∃ v, v = cs_N u 4 (m_code false false false) := ⟨_, rfl⟩
        rw [← ev] at hP hD
        have hv : m_ok v := by rw [ev]; exact h
        have evN : ∀ k, k ≠ 4 → cu_N v k = cu_N u k := fun k hk => by rw [ev, cx_NN, if_neg hk]
        have evF : cu_F v = cu_F u := by rw [ev]; rfl
        have evB : cu_B v = cu_B u := by rw [ev]; rfl
        have evG : cu_G v = cu_G u := by rw [ev]; rfl
        have evD : cu_D v = cu_D u := by rw [ev]; rfl
        have v0 := evN 0 (by decide)
        have v1 := evN 1 (by decide)
        have v2 := evN 2 (by decide)
        have v3 := evN 3 (by decide)
        refine lv_aload_n hx hb dX6_find_46 rfl (lv_at hl 0 rfl) ?_
        refine lv_iload_n hx hb dX6_find_47 rfl (lv_at hl 1 rfl) ?_
        refine lv_iload_n hx hb dX6_find_48 rfl (lv_at hl 2 rfl) ?_
        refine lv_iload_n hx hb dX6_find_49 rfl (lv_at hl 3 rfl) ?_
        refine lv_iload hx hb dX6_find_50 (lv_at hl 4 rfl) ?_
        refine lv_iload hx hb dX6_find_52 (lv_at hl 5 rfl) ?_
        refine vp_callSi (W.runV (As := [.int p0, .int p1, .int p2, .int p3, .int (nI q)]) (rest := []) ⟨hx, hb, hml, hown, hts⟩ (c_X6_found l dC dI a k v hv p0 p1 p2 p3 q hq) (cwV 5 hts (wG_V wG_c q_690 q_692 p_11 q_7 q_693) rfl rfl rfl (by decide +kernel) ⟨Nat.le_of_ble_eq_true rfl, Nat.le_of_ble_eq_true rfl⟩) (w_roV hK hP (ci := 6) (q0 := 0) rfl (wR_g0 a k _) rfl) rfl rfl hl.1 rfl (lv_room (Nat.le_of_ble_eq_true rfl)) dX6_find_54 ⟨Nat.le_of_ble_eq_true rfl, Nat.le_of_ble_eq_true rfl⟩) (fun r_6 hr_6 => ?_)
        subst hr_6
        exact W.iret (v := iI (m_fnd v p0 p1 p2 p3 q (cu_N v 0))) hx hb hr (fun t9 ht9 hW9 => ⟨⟨_, v, rfl, ⟨by rw [ev]; exact congrArg (cs_N u 4) (by simp [c_8, c_19, c_29]), fun h9 => ⟨q, hq, rfl, rfl⟩⟩, by rw [ht9]; exact hP, va_K.moved hW9.alike hK, hD⟩, hS.F ht9⟩) hS.2.2 dX6_find_57
      · have c_29 : p4 < 0 := by
          rw [Int32.lt_iff_toInt_lt]
          rw [Int32.le_iff_toInt_le] at c_29
          omega
        refine lv_iconst (v := 1) hx hb dX6_find_32 (by decide) ?_
        refine lv_goto (tgt := 37) hx hb dX6_find_33 (by decide) ?_
        refine lv_iconst (v := 0) hx hb dX6_find_37 (by decide) ?_
        refine w_cali (w := wR a k) (va_runV (As := [.int 0, .int 1, .int 0]) (rest := []) ⟨hx, hb, hml, hown, hts⟩ (c_X6_throwing l dC dI a k u _ false true false) (cwV 3 hts (wG_V wG_c q_654 q_656 p_7 q_7 q_657) rfl rfl rfl (by decide +kernel) ⟨Nat.le_of_ble_eq_true rfl, Nat.le_of_ble_eq_true rfl⟩) (w_muV hK hP hD (ci := 6) (q0 := 0) rfl (wR_g0 a k _) rfl) rfl rfl hl.1 rfl (lv_room (Nat.le_of_ble_eq_true rfl)) dX6_find_38 ⟨Nat.le_of_ble_eq_true rfl, Nat.le_of_ble_eq_true rfl⟩) hD hS hA (fun r_7 u_7 H locs hq_7 hP hD hS => ?_)
        obtain ⟨er9, eu9⟩ := hq_7
        subst er9 eu9
        refine wtopi (1) rfl ?_
        refine lv_if_eq (tgt := 46) hx hb dX6_find_41 (by decide) (fun h9 => absurd h9 (by decide)) (fun _ => ?_)
        refine lv_iconst (v := 0) hx hb dX6_find_44 (by decide) ?_
        exact W.iret (v := 0) hx hb hr (fun t9 ht9 hW9 => ⟨⟨_, cs_N u 4 (m_code false true false), rfl, ⟨congrArg (cs_N u 4) (by simp [c_8, c_19, c_29]), fun h9 => absurd h9 (by simp [m_code, c_8, c_19, c_29])⟩, by rw [ht9]; exact hP, va_K.moved hW9.alike hK, hD⟩, hS.F ht9⟩) hS.2.2 dX6_find_45
    · refine lv_iconst (v := 1) hx hb dX6_find_22 (by decide) ?_
      refine lv_goto (tgt := 27) hx hb dX6_find_23 (by decide) ?_
      refine lv_iload hx hb dX6_find_27 (lv_at hl 5 rfl) ?_
      refine lv_if_ge (tgt := 36) hx hb dX6_find_29 (by decide) (fun c_29 => ?_) (fun c_29 => ?_)
      · have c_29 : ¬ p4 < 0 := by
          rw [Int32.lt_iff_toInt_lt]
          rw [Int32.le_iff_toInt_le] at c_29
          omega
        refine lv_iconst (v := 0) hx hb dX6_find_36 (by decide) ?_
        refine lv_iconst (v := 0) hx hb dX6_find_37 (by decide) ?_
        refine w_cali (w := wR a k) (va_runV (As := [.int 1, .int 0, .int 0]) (rest := []) ⟨hx, hb, hml, hown, hts⟩ (c_X6_throwing l dC dI a k u _ true false false) (cwV 3 hts (wG_V wG_c q_654 q_656 p_7 q_7 q_657) rfl rfl rfl (by decide +kernel) ⟨Nat.le_of_ble_eq_true rfl, Nat.le_of_ble_eq_true rfl⟩) (w_muV hK hP hD (ci := 6) (q0 := 0) rfl (wR_g0 a k _) rfl) rfl rfl hl.1 rfl (lv_room (Nat.le_of_ble_eq_true rfl)) dX6_find_38 ⟨Nat.le_of_ble_eq_true rfl, Nat.le_of_ble_eq_true rfl⟩) hD hS hA (fun r_8 u_8 H locs hq_8 hP hD hS => ?_)
        obtain ⟨er9, eu9⟩ := hq_8
        subst er9 eu9
        refine wtopi (1) rfl ?_
        refine lv_if_eq (tgt := 46) hx hb dX6_find_41 (by decide) (fun h9 => absurd h9 (by decide)) (fun _ => ?_)
        refine lv_iconst (v := 0) hx hb dX6_find_44 (by decide) ?_
        exact W.iret (v := 0) hx hb hr (fun t9 ht9 hW9 => ⟨⟨_, cs_N u 4 (m_code true false false), rfl, ⟨congrArg (cs_N u 4) (by simp [c_8, c_19, c_29]), fun h9 => absurd h9 (by simp [m_code, c_8, c_19, c_29])⟩, by rw [ht9]; exact hP, va_K.moved hW9.alike hK, hD⟩, hS.F ht9⟩) hS.2.2 dX6_find_45
      · have c_29 : p4 < 0 := by
          rw [Int32.lt_iff_toInt_lt]
          rw [Int32.le_iff_toInt_le] at c_29
          omega
        refine lv_iconst (v := 1) hx hb dX6_find_32 (by decide) ?_
        refine lv_goto (tgt := 37) hx hb dX6_find_33 (by decide) ?_
        refine lv_iconst (v := 0) hx hb dX6_find_37 (by decide) ?_
        refine w_cali (w := wR a k) (va_runV (As := [.int 1, .int 1, .int 0]) (rest := []) ⟨hx, hb, hml, hown, hts⟩ (c_X6_throwing l dC dI a k u _ true true false) (cwV 3 hts (wG_V wG_c q_654 q_656 p_7 q_7 q_657) rfl rfl rfl (by decide +kernel) ⟨Nat.le_of_ble_eq_true rfl, Nat.le_of_ble_eq_true rfl⟩) (w_muV hK hP hD (ci := 6) (q0 := 0) rfl (wR_g0 a k _) rfl) rfl rfl hl.1 rfl (lv_room (Nat.le_of_ble_eq_true rfl)) dX6_find_38 ⟨Nat.le_of_ble_eq_true rfl, Nat.le_of_ble_eq_true rfl⟩) hD hS hA (fun r_9 u_9 H locs hq_9 hP hD hS => ?_)
        obtain ⟨er9, eu9⟩ := hq_9
        subst er9 eu9
        refine wtopi (1) rfl ?_
        refine lv_if_eq (tgt := 46) hx hb dX6_find_41 (by decide) (fun h9 => absurd h9 (by decide)) (fun _ => ?_)
        refine lv_iconst (v := 0) hx hb dX6_find_44 (by decide) ?_
        exact W.iret (v := 0) hx hb hr (fun t9 ht9 hW9 => ⟨⟨_, cs_N u 4 (m_code true true false), rfl, ⟨congrArg (cs_N u 4) (by simp [c_8, c_19, c_29]), fun h9 => absurd h9 (by simp [m_code, c_8, c_19, c_29])⟩, by rw [ht9]; exact hP, va_K.moved hW9.alike hK, hD⟩, hS.F ht9⟩) hS.2.2 dX6_find_45
set_option maxHeartbeats 4000000 in
set_option maxRecDepth 100000 in
theorem c_X6_time (l : Launch) (dC : Nat → ClassId) (dI : Nat → Nat → Nat) (a : Nat → Nat) (k : c_K) (u : c_St) (sz : Nat) (h : m_ok u) (p0 : Int32) : Met l yX6_time wsX6_time ({ frames := 3, cells := 0, slots := 0, locals := 65 }) (va_Pc [.ref (a 0), .int p0] (w_mu (dC, dI) vwCl (wR a k u) (tC k) sz)) (va_Qi (fun (r : Int32) (u1 : c_St) => u1 = cs_N u 4 (m_code (!isS (cu_N u 0) p0) (isS (cu_N u 0) p0 && cu_B u 0 p0.toInt.toNat) false) ∧ (m_code (!isS (cu_N u 0) p0) (isS (cu_N u 0) p0 && cu_B u 0 p0.toInt.toNat) false = 0 → ∃ n : Nat, n < cu_N u 0 ∧ p0 = nI n ∧ cu_B u 0 n = false ∧ r = iI (m_beg u1 n))) (w_at (dC, dI) vwCl (wR a k) (tC k) (va_A (wR a k u) sz)) (va_A (wR a k u) sz)) 0 0 (va_A (wR a k u) sz) := by
  refine Met.ofW (cc := cX6_time) (maxL := 2) (ret := (some .int)) (by decide) rfl ?_
  intro p e s m args below meth c s₁ B hml hv
  obtain ⟨rfl, hsz, hP, hK, hD0⟩ := hv
  have hx := B.exec
  have hb := B.bytes
  have hr := B.returns
  have hts := atoms_spec (ws := wsX6_time) B.pre
  have htg : ∀ w ∈ wG, w.before _ s = true := fun w h => hts w (List.mem_cons_of_mem _ h)
  have hown : s.vm.findClass RX6 = some m.cls := findClass_of_methodNamed B.named
  have hlocks := B.notSynchronized
  subst hsz
  have hD := hD0.self (sz := s.heap.size)
  generalize hAe : va_A (wR a k u) s.heap.size = A at hD ⊢
  have hA : ∀ q : Nat, s.heap.size ≤ q → A q := fun q h => by rw [← hAe]; exact Or.inr h
  have hS : va_S A s.heap s.heap [] := va_S.rf
  have hl := lv_entry ([.ref (a 0), .int p0]) (n := 2) (Nat.le_of_ble_eq_true rfl)
  rw [lg_entry_eq]
  generalize (lg_sl ([.ref (a 0), .int p0]) ++ List.replicate (2 - (lg_sl ([.ref (a 0), .int p0])).length) Slot.unset).toArray = ls at hl ⊢
  have hl : lv_has ls 2 [(0, .ref (a 0)), (1, .int p0)] := hl
  have h20 := h.1
  refine lv_aload_n hx hb dX6_time_0 rfl (lv_at hl 0 rfl) ?_
  refine lv_aload_n hx hb dX6_time_1 rfl (lv_at hl 0 rfl) ?_
  refine lv_iload_n hx hb dX6_time_2 rfl (lv_at hl 1 rfl) ?_
  refine vp_callSi (W.runV (As := [.int p0]) (rest := [.ref (a 0)]) ⟨hx, hb, hml, hown, hts⟩ (c_X6_isSlot l dC dI a k u h20 p0) (cwV 1 hts (wG_V wG_c q_714 q_716 p_16 q_7 q_717) rfl rfl rfl (by decide +kernel) ⟨Nat.le_of_ble_eq_true rfl, Nat.le_of_ble_eq_true rfl⟩) (w_roV hK hP (ci := 6) (q0 := 0) rfl (wR_g0 a k _) rfl) rfl rfl hl.1 rfl (lv_room (Nat.le_of_ble_eq_true rfl)) dX6_time_3 ⟨Nat.le_of_ble_eq_true rfl, Nat.le_of_ble_eq_true rfl⟩) (fun r_1 hr_1 => ?_)
  subst hr_1
  refine bz_ne (a := (isS (cu_N u 0) p0)) (tgt := 13) hx hb dX6_time_6 (by decide) (fun c_6 => ?_) (fun c_6 => ?_)
  · refine lv_iconst (v := 0) hx hb dX6_time_13 (by decide) ?_
    refine lv_aload_n hx hb dX6_time_14 rfl (lv_at hl 0 rfl) ?_
    refine lv_iload_n hx hb dX6_time_15 rfl (lv_at hl 1 rfl) ?_
    refine vp_callSi (W.runV (As := [.int p0]) (rest := [.int 0, .ref (a 0)]) ⟨hx, hb, hml, hown, hts⟩ (c_X6_isGone l dC dI a k u h20 p0) (cwV 1 hts (wG_V wG_c q_718 q_720 p_17 q_7 q_721) rfl rfl rfl (by decide +kernel) ⟨Nat.le_of_ble_eq_true rfl, Nat.le_of_ble_eq_true rfl⟩) (w_roV hK hP (ci := 6) (q0 := 0) rfl (wR_g0 a k _) rfl) rfl rfl hl.1 rfl (lv_room (Nat.le_of_ble_eq_true rfl)) dX6_time_16 ⟨Nat.le_of_ble_eq_true rfl, Nat.le_of_ble_eq_true rfl⟩) (fun r_2 hr_2 => ?_)
    subst hr_2
    refine lv_iconst (v := 0) hx hb dX6_time_19 (by decide) ?_
    refine w_cali (w := wR a k) (va_runV (As := [.int 0, .int (bI (isS (cu_N u 0) p0 && cu_B u 0 p0.toInt.toNat)), .int 0]) (rest := []) ⟨hx, hb, hml, hown, hts⟩ (c_X6_throwing l dC dI a k u _ false (isS (cu_N u 0) p0 && cu_B u 0 p0.toInt.toNat) false) (cwV 3 hts (wG_V wG_c q_654 q_656 p_7 q_7 q_657) rfl rfl rfl (by decide +kernel) ⟨Nat.le_of_ble_eq_true rfl, Nat.le_of_ble_eq_true rfl⟩) (w_muV hK hP hD (ci := 6) (q0 := 0) rfl (wR_g0 a k _) rfl) rfl rfl hl.1 rfl (lv_room (Nat.le_of_ble_eq_true rfl)) dX6_time_20 ⟨Nat.le_of_ble_eq_true rfl, Nat.le_of_ble_eq_true rfl⟩) hD hS hA (fun r_3 u_3 H locs hq_3 hP hD hS => ?_)
    obtain ⟨er9, eu9⟩ := hq_3
    subst er9 eu9
    refine bz_eq (a := (false || (isS (cu_N u 0) p0 && cu_B u 0 p0.toInt.toNat) || false)) (tgt := 28) hx hb dX6_time_23 (by decide) (fun c_23 => ?_) (fun c_23 => ?_)
    · obtain ⟨n, h_n, e_n⟩ := isS_of (n := cu_N u 0) (by omega) c_6
      have ent : p0.toInt.toNat = n := by rw [e_n, nI_toInt (by omega)]; rfl
      have hbn : cu_B u 0 n = false := by rw [c_6, ent] at c_23; simpa using c_23
      subst e_n
      obtain ⟨v, ev⟩ : ∃ v, v = cs_N u 4 (m_code false (isS (cu_N u 0) (nI n) && cu_B u 0 (nI n).toInt.toNat) false) := ⟨_, rfl⟩
      rw [← ev] at hP hD
      have hv : m_ok v := by rw [ev]; exact h
      have evN : ∀ k, k ≠ 4 → cu_N v k = cu_N u k := fun k hk => by rw [ev, cx_NN, if_neg hk]
      have evF : cu_F v = cu_F u := by rw [ev]; rfl
      have evB : cu_B v = cu_B u := by rw [ev]; rfl
      have evG : cu_G v = cu_G u := by rw [ev]; rfl
      have evD : cu_D v = cu_D u := by rw [ev]; rfl
      have v0 := evN 0 (by decide)
      have v1 := evN 1 (by decide)
      have v2 := evN 2 (by decide)
      have v3 := evN 3 (by decide)
      have hn2 := hv.2.2.1 n (by omega)
      refine lv_aload_n hx hb dX6_time_28 rfl (lv_at hl 0 rfl) ?_
      refine lv_iload_n hx hb dX6_time_29 rfl (lv_at hl 1 rfl) ?_
      refine vp_callSi (W.runV (As := [.int (nI n)]) (rest := []) ⟨hx, hb, hml, hown, hts⟩ (c_X6_begin l dC dI a k v hv n (by omega)) (cwV 1 hts (wG_V wG_c q_702 q_704 p_14 q_7 q_705) rfl rfl rfl (by decide +kernel) ⟨Nat.le_of_ble_eq_true rfl, Nat.le_of_ble_eq_true rfl⟩) (w_roV hK hP (ci := 6) (q0 := 0) rfl (wR_g0 a k _) rfl) rfl rfl hl.1 rfl (lv_room (Nat.le_of_ble_eq_true rfl)) dX6_time_30 ⟨Nat.le_of_ble_eq_true rfl, Nat.le_of_ble_eq_true rfl⟩) (fun r_4 hr_4 => ?_)
      subst hr_4
      exact W.iret (v := iI (m_beg v n)) hx hb hr (fun t9 ht9 hW9 => ⟨⟨_, v, rfl, ⟨by rw [ev]; exact congrArg (cs_N u 4) (by rw [c_6]; rfl), fun h9 => ⟨n, h_n, rfl, hbn, rfl⟩⟩, by rw [ht9]; exact hP, va_K.moved hW9.alike hK, hD⟩, hS.F ht9⟩) hS.2.2 dX6_time_33
    · refine lv_iconst (v := 0) hx hb dX6_time_26 (by decide) ?_
      exact W.iret (v := 0) hx hb hr (fun t9 ht9 hW9 => ⟨⟨_, cs_N u 4 (m_code false (isS (cu_N u 0) p0 && cu_B u 0 p0.toInt.toNat) false), rfl, ⟨congrArg (cs_N u 4) (by simp [c_6]), fun h9 => absurd h9 (by simp [m_code, c_6] at c_23 ⊢ <;> simp_all)⟩, by rw [ht9]; exact hP, va_K.moved hW9.alike hK, hD⟩, hS.F ht9⟩) hS.2.2 dX6_time_27
  · have e9 : (isS (cu_N u 0) p0 && cu_B u 0 p0.toInt.toNat) = false := by rw [c_6]; rfl
    refine lv_iconst (v := 1) hx hb dX6_time_9 (by decide) ?_
    refine lv_goto (tgt := 14) hx hb dX6_time_10 (by decide) ?_
    refine lv_aload_n hx hb dX6_time_14 rfl (lv_at hl 0 rfl) ?_
    refine lv_iload_n hx hb dX6_time_15 rfl (lv_at hl 1 rfl) ?_
    refine vp_callSi (W.runV (As := [.int p0]) (rest := [.int 1, .ref (a 0)]) ⟨hx, hb, hml, hown, hts⟩ (c_X6_isGone l dC dI a k u h20 p0) (cwV 1 hts (wG_V wG_c q_718 q_720 p_17 q_7 q_721) rfl rfl rfl (by decide +kernel) ⟨Nat.le_of_ble_eq_true rfl, Nat.le_of_ble_eq_true rfl⟩) (w_roV hK hP (ci := 6) (q0 := 0) rfl (wR_g0 a k _) rfl) rfl rfl hl.1 rfl (lv_room (Nat.le_of_ble_eq_true rfl)) dX6_time_16 ⟨Nat.le_of_ble_eq_true rfl, Nat.le_of_ble_eq_true rfl⟩) (fun r_5 hr_5 => ?_)
    subst hr_5
    refine lv_iconst (v := 0) hx hb dX6_time_19 (by decide) ?_
    refine w_cali (w := wR a k) (va_runV (As := [.int 1, .int (bI (isS (cu_N u 0) p0 && cu_B u 0 p0.toInt.toNat)), .int 0]) (rest := []) ⟨hx, hb, hml, hown, hts⟩ (c_X6_throwing l dC dI a k u _ true (isS (cu_N u 0) p0 && cu_B u 0 p0.toInt.toNat) false) (cwV 3 hts (wG_V wG_c q_654 q_656 p_7 q_7 q_657) rfl rfl rfl (by decide +kernel) ⟨Nat.le_of_ble_eq_true rfl, Nat.le_of_ble_eq_true rfl⟩) (w_muV hK hP hD (ci := 6) (q0 := 0) rfl (wR_g0 a k _) rfl) rfl rfl hl.1 rfl (lv_room (Nat.le_of_ble_eq_true rfl)) dX6_time_20 ⟨Nat.le_of_ble_eq_true rfl, Nat.le_of_ble_eq_true rfl⟩) hD hS hA (fun r_6 u_6 H locs hq_6 hP hD hS => ?_)
    obtain ⟨er9, eu9⟩ := hq_6
    subst er9 eu9
    refine wtopi (1) rfl ?_
    refine lv_if_eq (tgt := 28) hx hb dX6_time_23 (by decide) (fun h9 => absurd h9 (by decide)) (fun _ => ?_)
    refine lv_iconst (v := 0) hx hb dX6_time_26 (by decide) ?_
    exact W.iret (v := 0) hx hb hr (fun t9 ht9 hW9 => ⟨⟨_, cs_N u 4 (m_code true (isS (cu_N u 0) p0 && cu_B u 0 p0.toInt.toNat) false), rfl, ⟨congrArg (cs_N u 4) (by simp [c_6]), fun h9 => absurd h9 (by simp [m_code, c_6])⟩, by rw [ht9]; exact hP, va_K.moved hW9.alike hK, hD⟩, hS.F ht9⟩) hS.2.2 dX6_time_27
set_option maxHeartbeats 4000000 in
set_option maxRecDepth 100000 in
theorem c_X6_sum (l : Launch) (dC : Nat → ClassId) (dI : Nat → Nat → Nat) (a : Nat → Nat) (k : c_K) (u : c_St) (sz : Nat) (h : m_ok u) (p0 : Int32) : Met l yX6_sum wsX6_sum ({ frames := 3, cells := 0, slots := 0, locals := 64 }) (va_Pc [.ref (a 0), .int p0] (w_mu (dC, dI) vwCl (wR a k u) (tC k) sz)) (va_Qi (fun (r : Int32) (u1 : c_St) => u1 = cs_N u 4 (m_code (!isS (cu_N u 0) p0) (isS (cu_N u 0) p0 && cu_B u 0 p0.toInt.toNat) false) ∧ (m_code (!isS (cu_N u 0) p0) (isS (cu_N u 0) p0 && cu_B u 0 p0.toInt.toNat) false = 0 → ∃ n : Nat, n < cu_N u 0 ∧ p0 = nI n ∧ cu_B u 0 n = false ∧ r = m_sm (fun i => cu_G u1 2 (8 * n + i)) 0 (cu_F u1 2 n))) (w_at (dC, dI) vwCl (wR a k) (tC k) (va_A (wR a k u) sz)) (va_A (wR a k u) sz)) 0 0 (va_A (wR a k u) sz) := by
  refine Met.ofW (cc := cX6_sum) (maxL := 2) (ret := (some .int)) (by decide) rfl ?_
  intro p e s m args below meth c s₁ B hml hv
  obtain ⟨rfl, hsz, hP, hK, hD0⟩ := hv
  have hx := B.exec
  have hb := B.bytes
  have hr := B.returns
  have hts := atoms_spec (ws := wsX6_sum) B.pre
  have htg : ∀ w ∈ wG, w.before _ s = true := fun w h => hts w (List.mem_cons_of_mem _ h)
  have hown : s.vm.findClass RX6 = some m.cls := findClass_of_methodNamed B.named
  have hlocks := B.notSynchronized
  subst hsz
  have hD := hD0.self (sz := s.heap.size)
  generalize hAe : va_A (wR a k u) s.heap.size = A at hD ⊢
  have hA : ∀ q : Nat, s.heap.size ≤ q → A q := fun q h => by rw [← hAe]; exact Or.inr h
  have hS : va_S A s.heap s.heap [] := va_S.rf
  have hl := lv_entry ([.ref (a 0), .int p0]) (n := 2) (Nat.le_of_ble_eq_true rfl)
  rw [lg_entry_eq]
  generalize (lg_sl ([.ref (a 0), .int p0]) ++ List.replicate (2 - (lg_sl ([.ref (a 0), .int p0])).length) Slot.unset).toArray = ls at hl ⊢
  have hl : lv_has ls 2 [(0, .ref (a 0)), (1, .int p0)] := hl
  have h20 := h.1
  refine lv_aload_n hx hb dX6_sum_0 rfl (lv_at hl 0 rfl) ?_
  refine lv_aload_n hx hb dX6_sum_1 rfl (lv_at hl 0 rfl) ?_
  refine lv_iload_n hx hb dX6_sum_2 rfl (lv_at hl 1 rfl) ?_
  refine vp_callSi (W.runV (As := [.int p0]) (rest := [.ref (a 0)]) ⟨hx, hb, hml, hown, hts⟩ (c_X6_isSlot l dC dI a k u h20 p0) (cwV 1 hts (wG_V wG_c q_714 q_716 p_16 q_7 q_717) rfl rfl rfl (by decide +kernel) ⟨Nat.le_of_ble_eq_true rfl, Nat.le_of_ble_eq_true rfl⟩) (w_roV hK hP (ci := 6) (q0 := 0) rfl (wR_g0 a k _) rfl) rfl rfl hl.1 rfl (lv_room (Nat.le_of_ble_eq_true rfl)) dX6_sum_3 ⟨Nat.le_of_ble_eq_true rfl, Nat.le_of_ble_eq_true rfl⟩) (fun r_1 hr_1 => ?_)
  subst hr_1
  refine bz_ne (a := (isS (cu_N u 0) p0)) (tgt := 13) hx hb dX6_sum_6 (by decide) (fun c_6 => ?_) (fun c_6 => ?_)
  · refine lv_iconst (v := 0) hx hb dX6_sum_13 (by decide) ?_
    refine lv_aload_n hx hb dX6_sum_14 rfl (lv_at hl 0 rfl) ?_
    refine lv_iload_n hx hb dX6_sum_15 rfl (lv_at hl 1 rfl) ?_
    refine vp_callSi (W.runV (As := [.int p0]) (rest := [.int 0, .ref (a 0)]) ⟨hx, hb, hml, hown, hts⟩ (c_X6_isGone l dC dI a k u h20 p0) (cwV 1 hts (wG_V wG_c q_718 q_720 p_17 q_7 q_721) rfl rfl rfl (by decide +kernel) ⟨Nat.le_of_ble_eq_true rfl, Nat.le_of_ble_eq_true rfl⟩) (w_roV hK hP (ci := 6) (q0 := 0) rfl (wR_g0 a k _) rfl) rfl rfl hl.1 rfl (lv_room (Nat.le_of_ble_eq_true rfl)) dX6_sum_16 ⟨Nat.le_of_ble_eq_true rfl, Nat.le_of_ble_eq_true rfl⟩) (fun r_2 hr_2 => ?_)
    subst hr_2
    refine lv_iconst (v := 0) hx hb dX6_sum_19 (by decide) ?_
    refine w_cali (w := wR a k) (va_runV (As := [.int 0, .int (bI (isS (cu_N u 0) p0 && cu_B u 0 p0.toInt.toNat)), .int 0]) (rest := []) ⟨hx, hb, hml, hown, hts⟩ (c_X6_throwing l dC dI a k u _ false (isS (cu_N u 0) p0 && cu_B u 0 p0.toInt.toNat) false) (cwV 3 hts (wG_V wG_c q_654 q_656 p_7 q_7 q_657) rfl rfl rfl (by decide +kernel) ⟨Nat.le_of_ble_eq_true rfl, Nat.le_of_ble_eq_true rfl⟩) (w_muV hK hP hD (ci := 6) (q0 := 0) rfl (wR_g0 a k _) rfl) rfl rfl hl.1 rfl (lv_room (Nat.le_of_ble_eq_true rfl)) dX6_sum_20 ⟨Nat.le_of_ble_eq_true rfl, Nat.le_of_ble_eq_true rfl⟩) hD hS hA (fun r_3 u_3 H locs hq_3 hP hD hS => ?_)
    obtain ⟨er9, eu9⟩ := hq_3
    subst er9 eu9
    refine bz_eq (a := (false || (isS (cu_N u 0) p0 && cu_B u 0 p0.toInt.toNat) || false)) (tgt := 28) hx hb dX6_sum_23 (by decide) (fun c_23 => ?_) (fun c_23 => ?_)
    · obtain ⟨n, h_n, e_n⟩ := isS_of (n := cu_N u 0) (by omega) c_6
      have ent : p0.toInt.toNat = n := by rw [e_n, nI_toInt (by omega)]; rfl
      have hbn : cu_B u 0 n = false := by rw [c_6, ent] at c_23; simpa using c_23
      subst e_n
      obtain ⟨v, ev⟩ : ∃ v, v = cs_N u 4 (m_code false (isS (cu_N u 0) (nI n) && cu_B u 0 (nI n).toInt.toNat) false) := ⟨_, rfl⟩
      rw [← ev] at hP hD
      have hv : m_ok v := by rw [ev]; exact h
      have evN : ∀ k, k ≠ 4 → cu_N v k = cu_N u k := fun k hk => by rw [ev, cx_NN, if_neg hk]
      have evF : cu_F v = cu_F u := by rw [ev]; rfl
      have evB : cu_B v = cu_B u := by rw [ev]; rfl
      have evG : cu_G v = cu_G u := by rw [ev]; rfl
      have evD : cu_D v = cu_D u := by rw [ev]; rfl
      have v0 := evN 0 (by decide)
      have v1 := evN 1 (by decide)
      have v2 := evN 2 (by decide)
      have v3 := evN 3 (by decide)
      have hn2 := hv.2.2.1 n (by omega)
      refine lv_aload_n hx hb dX6_sum_28 rfl (lv_at hl 0 rfl) ?_
      refine lv_iload_n hx hb dX6_sum_29 rfl (lv_at hl 1 rfl) ?_
      refine vp_callSi (W.runV (As := [.int (nI n)]) (rest := []) ⟨hx, hb, hml, hown, hts⟩ (c_X6_sumOf l dC dI a k v n (by omega) hn2.2.2.2.1) (cwV 1 hts (wG_V wG_c q_658 q_660 p_8 q_7 q_661) rfl rfl rfl (by decide +kernel) ⟨Nat.le_of_ble_eq_true rfl, Nat.le_of_ble_eq_true rfl⟩) (w_roV hK hP (ci := 6) (q0 := 0) rfl (wR_g0 a k _) rfl) rfl rfl hl.1 rfl (lv_room (Nat.le_of_ble_eq_true rfl)) dX6_sum_30 ⟨Nat.le_of_ble_eq_true rfl, Nat.le_of_ble_eq_true rfl⟩) (fun r_4 hr_4 => ?_)
      subst hr_4
      exact W.iret (v := m_sm (fun i => cu_G v 2 (8 * n + i)) 0 (cu_F v 2 n)) hx hb hr (fun t9 ht9 hW9 => ⟨⟨_, v, rfl, ⟨by rw [ev]; exact congrArg (cs_N u 4) (by rw [c_6]; rfl), fun h9 => ⟨n, h_n, rfl, hbn, rfl⟩⟩, by rw [ht9]; exact hP, va_K.moved hW9.alike hK, hD⟩, hS.F ht9⟩) hS.2.2 dX6_sum_33
    · refine lv_iconst (v := 0) hx hb dX6_sum_26 (by decide) ?_
      exact W.iret (v := 0) hx hb hr (fun t9 ht9 hW9 => ⟨⟨_, cs_N u 4 (m_code false (isS (cu_N u 0) p0 && cu_B u 0 p0.toInt.toNat) false), rfl, ⟨congrArg (cs_N u 4) (by simp [c_6]), fun h9 => absurd h9 (by simp [m_code, c_6] at c_23 ⊢ <;> simp_all)⟩, by rw [ht9]; exact hP, va_K.moved hW9.alike hK, hD⟩, hS.F ht9⟩) hS.2.2 dX6_sum_27
  · have e9 : (isS (cu_N u 0) p0 && cu_B u 0 p0.toInt.toNat) = false := by rw [c_6]; rfl
    refine lv_iconst (v := 1) hx hb dX6_sum_9 (by decide) ?_
    refine lv_goto (tgt := 14) hx hb dX6_sum_10 (by decide) ?_
    refine lv_aload_n hx hb dX6_sum_14 rfl (lv_at hl 0 rfl) ?_
    refine lv_iload_n hx hb dX6_sum_15 rfl (lv_at hl 1 rfl) ?_
    refine vp_callSi (W.runV (As := [.int p0]) (rest := [.int 1, .ref (a 0)]) ⟨hx, hb, hml, hown, hts⟩ (c_X6_isGone l dC dI a k u h20 p0) (cwV 1 hts (wG_V wG_c q_718 q_720 p_17 q_7 q_721) rfl rfl rfl (by decide +kernel) ⟨Nat.le_of_ble_eq_true rfl, Nat.le_of_ble_eq_true rfl⟩) (w_roV hK hP (ci := 6) (q0 := 0) rfl (wR_g0 a k _) rfl) rfl rfl hl.1 rfl (lv_room (Nat.le_of_ble_eq_true rfl)) dX6_sum_16 ⟨Nat.le_of_ble_eq_true rfl, Nat.le_of_ble_eq_true rfl⟩) (fun r_5 hr_5 => ?_)
    subst hr_5
    refine lv_iconst (v := 0) hx hb dX6_sum_19 (by decide) ?_
    refine w_cali (w := wR a k) (va_runV (As := [.int 1, .int (bI (isS (cu_N u 0) p0 && cu_B u 0 p0.toInt.toNat)), .int 0]) (rest := []) ⟨hx, hb, hml, hown, hts⟩ (c_X6_throwing l dC dI a k u _ true (isS (cu_N u 0) p0 && cu_B u 0 p0.toInt.toNat) false) (cwV 3 hts (wG_V wG_c q_654 q_656 p_7 q_7 q_657) rfl rfl rfl (by decide +kernel) ⟨Nat.le_of_ble_eq_true rfl, Nat.le_of_ble_eq_true rfl⟩) (w_muV hK hP hD (ci := 6) (q0 := 0) rfl (wR_g0 a k _) rfl) rfl rfl hl.1 rfl (lv_room (Nat.le_of_ble_eq_true rfl)) dX6_sum_20 ⟨Nat.le_of_ble_eq_true rfl, Nat.le_of_ble_eq_true rfl⟩) hD hS hA (fun r_6 u_6 H locs hq_6 hP hD hS => ?_)
    obtain ⟨er9, eu9⟩ := hq_6
    subst er9 eu9
    refine wtopi (1) rfl ?_
    refine lv_if_eq (tgt := 28) hx hb dX6_sum_23 (by decide) (fun h9 => absurd h9 (by decide)) (fun _ => ?_)
    refine lv_iconst (v := 0) hx hb dX6_sum_26 (by decide) ?_
    exact W.iret (v := 0) hx hb hr (fun t9 ht9 hW9 => ⟨⟨_, cs_N u 4 (m_code true (isS (cu_N u 0) p0 && cu_B u 0 p0.toInt.toNat) false), rfl, ⟨congrArg (cs_N u 4) (by simp [c_6]), fun h9 => absurd h9 (by simp [m_code, c_6])⟩, by rw [ht9]; exact hP, va_K.moved hW9.alike hK, hD⟩, hS.F ht9⟩) hS.2.2 dX6_sum_27
set_option maxHeartbeats 4000000 in
set_option maxRecDepth 100000 in
theorem c_X6_part (l : Launch) (dC : Nat → ClassId) (dI : Nat → Nat → Nat) (a : Nat → Nat) (k : c_K) (u : c_St) (sz : Nat) (h : m_ok u) (p0 t1 t2 : Int32) : Met l yX6_part wsX6_part ({ frames := 4, cells := 0, slots := 0, locals := 91 }) (va_Pc [.ref (a 0), .int p0, .int t1, .int t2] (w_mu (dC, dI) vwCl (wR a k u) (tC k) sz)) (va_Qi (fun (r : Int32) (u1 : c_St) => u1 = cs_N u 4 (m_code (!isS (cu_N u 0) p0) (isS (cu_N u 0) p0 && cu_B u 0 p0.toInt.toNat) false) ∧ (m_code (!isS (cu_N u 0) p0) (isS (cu_N u 0) p0 && cu_B u 0 p0.toInt.toNat) false = 0 → ∃ n : Nat, n < cu_N u 0 ∧ p0 = nI n ∧ cu_B u 0 n = false ∧ r = m_sw (fun i => cu_G u1 2 (8 * n + i)) (m_beg u1 n) t1 t2 0 (cu_F u1 2 n))) (w_at (dC, dI) vwCl (wR a k) (tC k) (va_A (wR a k u) sz)) (va_A (wR a k u) sz)) 0 0 (va_A (wR a k u) sz) := by
  refine Met.ofW (cc := cX6_part) (maxL := 4) (ret := (some .int)) (by decide) rfl ?_
  intro p e s m args below meth c s₁ B hml hv
  obtain ⟨rfl, hsz, hP, hK, hD0⟩ := hv
  have hx := B.exec
  have hb := B.bytes
  have hr := B.returns
  have hts := atoms_spec (ws := wsX6_part) B.pre
  have htg : ∀ w ∈ wG, w.before _ s = true := fun w h => hts w (List.mem_cons_of_mem _ h)
  have hown : s.vm.findClass RX6 = some m.cls := findClass_of_methodNamed B.named
  have hlocks := B.notSynchronized
  subst hsz
  have hD := hD0.self (sz := s.heap.size)
  generalize hAe : va_A (wR a k u) s.heap.size = A at hD ⊢
  have hA : ∀ q : Nat, s.heap.size ≤ q → A q := fun q h => by rw [← hAe]; exact Or.inr h
  have hS : va_S A s.heap s.heap [] := va_S.rf
  have hl := lv_entry ([.ref (a 0), .int p0, .int t1, .int t2]) (n := 4) (Nat.le_of_ble_eq_true rfl)
  rw [lg_entry_eq]
  generalize (lg_sl ([.ref (a 0), .int p0, .int t1, .int t2]) ++ List.replicate (4 - (lg_sl ([.ref (a 0), .int p0, .int t1, .int t2])).length) Slot.unset).toArray = ls at hl ⊢
  have hl : lv_has ls 4 [(0, .ref (a 0)), (1, .int p0), (2, .int t1), (3, .int t2)] := hl
  have h20 := h.1
  refine lv_aload_n hx hb dX6_part_0 rfl (lv_at hl 0 rfl) ?_
  refine lv_aload_n hx hb dX6_part_1 rfl (lv_at hl 0 rfl) ?_
  refine lv_iload_n hx hb dX6_part_2 rfl (lv_at hl 1 rfl) ?_
  refine vp_callSi (W.runV (As := [.int p0]) (rest := [.ref (a 0)]) ⟨hx, hb, hml, hown, hts⟩ (c_X6_isSlot l dC dI a k u h20 p0) (cwV 1 hts (wG_V wG_c q_714 q_716 p_16 q_7 q_717) rfl rfl rfl (by decide +kernel) ⟨Nat.le_of_ble_eq_true rfl, Nat.le_of_ble_eq_true rfl⟩) (w_roV hK hP (ci := 6) (q0 := 0) rfl (wR_g0 a k _) rfl) rfl rfl hl.1 rfl (lv_room (Nat.le_of_ble_eq_true rfl)) dX6_part_3 ⟨Nat.le_of_ble_eq_true rfl, Nat.le_of_ble_eq_true rfl⟩) (fun r_1 hr_1 => ?_)
  subst hr_1
  refine bz_ne (a := (isS (cu_N u 0) p0)) (tgt := 13) hx hb dX6_part_6 (by decide) (fun c_6 => ?_) (fun c_6 => ?_)
  · refine lv_iconst (v := 0) hx hb dX6_part_13 (by decide) ?_
    refine lv_aload_n hx hb dX6_part_14 rfl (lv_at hl 0 rfl) ?_
    refine lv_iload_n hx hb dX6_part_15 rfl (lv_at hl 1 rfl) ?_
    refine vp_callSi (W.runV (As := [.int p0]) (rest := [.int 0, .ref (a 0)]) ⟨hx, hb, hml, hown, hts⟩ (c_X6_isGone l dC dI a k u h20 p0) (cwV 1 hts (wG_V wG_c q_718 q_720 p_17 q_7 q_721) rfl rfl rfl (by decide +kernel) ⟨Nat.le_of_ble_eq_true rfl, Nat.le_of_ble_eq_true rfl⟩) (w_roV hK hP (ci := 6) (q0 := 0) rfl (wR_g0 a k _) rfl) rfl rfl hl.1 rfl (lv_room (Nat.le_of_ble_eq_true rfl)) dX6_part_16 ⟨Nat.le_of_ble_eq_true rfl, Nat.le_of_ble_eq_true rfl⟩) (fun r_2 hr_2 => ?_)
    subst hr_2
    refine lv_iconst (v := 0) hx hb dX6_part_19 (by decide) ?_
    refine w_cali (w := wR a k) (va_runV (As := [.int 0, .int (bI (isS (cu_N u 0) p0 && cu_B u 0 p0.toInt.toNat)), .int 0]) (rest := []) ⟨hx, hb, hml, hown, hts⟩ (c_X6_throwing l dC dI a k u _ false (isS (cu_N u 0) p0 && cu_B u 0 p0.toInt.toNat) false) (cwV 3 hts (wG_V wG_c q_654 q_656 p_7 q_7 q_657) rfl rfl rfl (by decide +kernel) ⟨Nat.le_of_ble_eq_true rfl, Nat.le_of_ble_eq_true rfl⟩) (w_muV hK hP hD (ci := 6) (q0 := 0) rfl (wR_g0 a k _) rfl) rfl rfl hl.1 rfl (lv_room (Nat.le_of_ble_eq_true rfl)) dX6_part_20 ⟨Nat.le_of_ble_eq_true rfl, Nat.le_of_ble_eq_true rfl⟩) hD hS hA (fun r_3 u_3 H locs hq_3 hP hD hS => ?_)
    obtain ⟨er9, eu9⟩ := hq_3
    subst er9 eu9
    refine bz_eq (a := (false || (isS (cu_N u 0) p0 && cu_B u 0 p0.toInt.toNat) || false)) (tgt := 28) hx hb dX6_part_23 (by decide) (fun c_23 => ?_) (fun c_23 => ?_)
    · obtain ⟨n, h_n, e_n⟩ := isS_of (n := cu_N u 0) (by omega) c_6
      have ent : p0.toInt.toNat = n := by rw [e_n, nI_toInt (by omega)]; rfl
      have hbn : cu_B u 0 n = false := by rw [c_6, ent] at c_23; simpa using c_23
      subst e_n
      obtain ⟨v, ev⟩ : ∃ v, v = cs_N u 4 (m_code false (isS (cu_N u 0) (nI n) && cu_B u 0 (nI n).toInt.toNat) false) := ⟨_, rfl⟩
      rw [← ev] at hP hD
      have hv : m_ok v := by rw [ev]; exact h
      have evN : ∀ k, k ≠ 4 → cu_N v k = cu_N u k := fun k hk => by rw [ev, cx_NN, if_neg hk]
      have evF : cu_F v = cu_F u := by rw [ev]; rfl
      have evB : cu_B v = cu_B u := by rw [ev]; rfl
      have evG : cu_G v = cu_G u := by rw [ev]; rfl
      have evD : cu_D v = cu_D u := by rw [ev]; rfl
      have v0 := evN 0 (by decide)
      have v1 := evN 1 (by decide)
      have v2 := evN 2 (by decide)
      have v3 := evN 3 (by decide)
      have hn2 := hv.2.2.1 n (by omega)
      refine lv_aload_n hx hb dX6_part_28 rfl (lv_at hl 0 rfl) ?_
      refine lv_iconst (v := 0) hx hb dX6_part_29 (by decide) ?_
      refine lv_iload_n hx hb dX6_part_30 rfl (lv_at hl 1 rfl) ?_
      refine lv_iload_n hx hb dX6_part_31 rfl (lv_at hl 2 rfl) ?_
      refine lv_iload_n hx hb dX6_part_32 rfl (lv_at hl 3 rfl) ?_
      refine vp_callSi (W.runV (As := [.int 0, .int (nI n), .int t1, .int t2]) (rest := []) ⟨hx, hb, hml, hown, hts⟩ (c_X6_sumWithin l dC dI a k v hv 0 n (by omega) t1 t2) (cwV 4 hts (wG_V wG_c q_730 q_732 p_18 q_7 q_733) rfl rfl rfl (by decide +kernel) ⟨Nat.le_of_ble_eq_true rfl, Nat.le_of_ble_eq_true rfl⟩) (w_roV hK hP (ci := 6) (q0 := 0) rfl (wR_g0 a k _) rfl) rfl rfl hl.1 rfl (lv_room (Nat.le_of_ble_eq_true rfl)) dX6_part_33 ⟨Nat.le_of_ble_eq_true rfl, Nat.le_of_ble_eq_true rfl⟩) (fun r_4 hr_4 => ?_)
      subst hr_4
      exact W.iret (v := m_sw (fun i => cu_G v 2 (8 * n + i)) (m_beg v n) t1 t2 0 (cu_F v 2 n)) hx hb hr (fun t9 ht9 hW9 => ⟨⟨_, v, rfl, ⟨by rw [ev]; exact congrArg (cs_N u 4) (by rw [c_6]; rfl), fun h9 => ⟨n, h_n, rfl, hbn, rfl⟩⟩, by rw [ht9]; exact hP, va_K.moved hW9.alike hK, hD⟩, hS.F ht9⟩) hS.2.2 dX6_part_36
    · refine lv_iconst (v := 0) hx hb dX6_part_26 (by decide) ?_
      exact W.iret (v := 0) hx hb hr (fun t9 ht9 hW9 => ⟨⟨_, cs_N u 4 (m_code false (isS (cu_N u 0) p0 && cu_B u 0 p0.toInt.toNat) false), rfl, ⟨congrArg (cs_N u 4) (by simp [c_6]), fun h9 => absurd h9 (by simp [m_code, c_6] at c_23 ⊢ <;> simp_all)⟩, by rw [ht9]; exact hP, va_K.moved hW9.alike hK, hD⟩, hS.F ht9⟩) hS.2.2 dX6_part_27
  · have e9 : (isS (cu_N u 0) p0 && cu_B u 0 p0.toInt.toNat) = false := by rw [c_6]; rfl
    refine lv_iconst (v := 1) hx hb dX6_part_9 (by decide) ?_
    refine lv_goto (tgt := 14) hx hb dX6_part_10 (by decide) ?_
    refine lv_aload_n hx hb dX6_part_14 rfl (lv_at hl 0 rfl) ?_
    refine lv_iload_n hx hb dX6_part_15 rfl (lv_at hl 1 rfl) ?_
    refine vp_callSi (W.runV (As := [.int p0]) (rest := [.int 1, .ref (a 0)]) ⟨hx, hb, hml, hown, hts⟩ (c_X6_isGone l dC dI a k u h20 p0) (cwV 1 hts (wG_V wG_c q_718 q_720 p_17 q_7 q_721) rfl rfl rfl (by decide +kernel) ⟨Nat.le_of_ble_eq_true rfl, Nat.le_of_ble_eq_true rfl⟩) (w_roV hK hP (ci := 6) (q0 := 0) rfl (wR_g0 a k _) rfl) rfl rfl hl.1 rfl (lv_room (Nat.le_of_ble_eq_true rfl)) dX6_part_16 ⟨Nat.le_of_ble_eq_true rfl, Nat.le_of_ble_eq_true rfl⟩) (fun r_5 hr_5 => ?_)
    subst hr_5
    refine lv_iconst (v := 0) hx hb dX6_part_19 (by decide) ?_
    refine w_cali (w := wR a k) (va_runV (As := [.int 1, .int (bI (isS (cu_N u 0) p0 && cu_B u 0 p0.toInt.toNat)), .int 0]) (rest := []) ⟨hx, hb, hml, hown, hts⟩ (c_X6_throwing l dC dI a k u _ true (isS (cu_N u 0) p0 && cu_B u 0 p0.toInt.toNat) false) (cwV 3 hts (wG_V wG_c q_654 q_656 p_7 q_7 q_657) rfl rfl rfl (by decide +kernel) ⟨Nat.le_of_ble_eq_true rfl, Nat.le_of_ble_eq_true rfl⟩) (w_muV hK hP hD (ci := 6) (q0 := 0) rfl (wR_g0 a k _) rfl) rfl rfl hl.1 rfl (lv_room (Nat.le_of_ble_eq_true rfl)) dX6_part_20 ⟨Nat.le_of_ble_eq_true rfl, Nat.le_of_ble_eq_true rfl⟩) hD hS hA (fun r_6 u_6 H locs hq_6 hP hD hS => ?_)
    obtain ⟨er9, eu9⟩ := hq_6
    subst er9 eu9
    refine wtopi (1) rfl ?_
    refine lv_if_eq (tgt := 28) hx hb dX6_part_23 (by decide) (fun h9 => absurd h9 (by decide)) (fun _ => ?_)
    refine lv_iconst (v := 0) hx hb dX6_part_26 (by decide) ?_
    exact W.iret (v := 0) hx hb hr (fun t9 ht9 hW9 => ⟨⟨_, cs_N u 4 (m_code true (isS (cu_N u 0) p0 && cu_B u 0 p0.toInt.toNat) false), rfl, ⟨congrArg (cs_N u 4) (by simp [c_6]), fun h9 => absurd h9 (by simp [m_code, c_6])⟩, by rw [ht9]; exact hP, va_K.moved hW9.alike hK, hD⟩, hS.F ht9⟩) hS.2.2 dX6_part_27
