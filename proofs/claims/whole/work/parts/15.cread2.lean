/-! the class's further helpers in numbers -/
def c_ct (u : c_St) (j : Nat) : Bool := decide (cu_D u 0 j ≠ c_off u (cu_F u 5 j))
def c_cn (u : c_St) : Nat → Nat
  | 0 => 0
  | m + 1 => c_cn u m + (if c_ct u m = true then 1 else 0)
def c_con (u : c_St) (q : Nat) : Nat → Int
  | 0 => -1
  | m + 1 => if c_con u q m = -1 then (if c_ct u m = true ∧ c_cn u m = q then 100 * cu_D u 1 (cu_F u 5 m) + (m : Int) else -1) else c_con u q m
theorem c_ct_f {u : c_St} {j : Nat} (h : cu_D u 0 j = c_off u (cu_F u 5 j)) : c_ct u j = false := decide_eq_false (fun q => q h)
theorem c_ct_t {u : c_St} {j : Nat} (h : cu_D u 0 j ≠ c_off u (cu_F u 5 j)) : c_ct u j = true := decide_eq_true h
theorem c_cn_f {u : c_St} {j : Nat} (h : c_ct u j = false) : c_cn u (j + 1) = c_cn u j := by
  show c_cn u j + _ = _
  rw [if_neg (by rw [h]; decide)]; rfl
theorem c_cn_t {u : c_St} {j : Nat} (h : c_ct u j = true) : c_cn u (j + 1) = c_cn u j + 1 := by
  show c_cn u j + _ = _
  rw [if_pos h]
theorem c_cn_le (u : c_St) : ∀ k, c_cn u k ≤ k
  | 0 => Nat.le_refl _
  | k + 1 => by
    have := c_cn_le u k
    show c_cn u k + _ ≤ _
    split <;> omega
theorem c_con_n {u : c_St} {q k : Nat} (h : c_con u q k = -1) (h2 : ¬ (c_ct u k = true ∧ c_cn u k = q)) : c_con u q (k + 1) = -1 := by
  unfold c_con
  rw [if_pos h, if_neg h2]
theorem c_con_y {u : c_St} {q k : Nat} (hf : 0 ≤ cu_D u 1 (cu_F u 5 k)) (h : c_con u q k = -1) (h2 : c_ct u k = true ∧ c_cn u k = q) : ∀ d, c_con u q (k + 1 + d) = 100 * cu_D u 1 (cu_F u 5 k) + (k : Int)
  | 0 => by
    show c_con u q (k + 1) = _
    unfold c_con
    rw [if_pos h, if_pos h2]
  | d + 1 => by
    have h3 := c_con_y hf h h2 d
    show (if c_con u q (k + 1 + d) = -1 then _ else c_con u q (k + 1 + d)) = _
    rw [h3, if_neg (by omega)]
/-- how many bytes the first k of the line have in a span -/
def c_sz (u : c_St) (t1 t2 : Int32) : Nat → Nat
  | 0 => 0
  | k + 1 => c_sz u t1 t2 k + (c_bb u (cu_F u 6 k) t2 - c_bb u (cu_F u 6 k) t1)
def c_ex (u : c_St) (t1 t2 : Int32) : Nat → Int32
  | 0 => 0
  | k + 1 => c_sm (cu_L u (cu_F u 6 k)) (cu_F u 2 (cu_F u 6 k)) (c_ex u t1 t2 k) (c_bb u (cu_F u 6 k) t1) (c_bb u (cu_F u 6 k) t2 - c_bb u (cu_F u 6 k) t1)
def c_now (u : c_St) (n : Nat) : Int32 := c_sm (cu_L u n) (cu_F u 2 n) 0 0 (cu_F u 2 n)
def c_vf (u : c_St) : Nat → Int
  | 0 => -1
  | s + 1 => if c_vf u s = -1 then (if cu_B u 0 s = true ∧ c_now u s ≠ cu_G u 0 s then (s : Int) else -1) else c_vf u s
theorem c_vf_n {u : c_St} {s : Nat} (h : c_vf u s = -1) (h2 : ¬ (cu_B u 0 s = true ∧ c_now u s ≠ cu_G u 0 s)) : c_vf u (s + 1) = -1 := by
  unfold c_vf
  rw [if_pos h, if_neg h2]
theorem c_vf_y {u : c_St} {s : Nat} (h : c_vf u s = -1) (h2 : cu_B u 0 s = true ∧ c_now u s ≠ cu_G u 0 s) : ∀ d, c_vf u (s + 1 + d) = (s : Int)
  | 0 => by
    show c_vf u (s + 1) = _
    unfold c_vf
    rw [if_pos h, if_pos h2]
  | d + 1 => by
    have h3 := c_vf_y h h2 d
    show (if c_vf u (s + 1 + d) = -1 then _ else c_vf u (s + 1 + d)) = _
    rw [h3, if_neg (by omega)]
def c_kept (u : c_St) (pv : Int32) : Bool := isS (cu_N u 4) pv && decide ((cu_N u 4 : Int) - 200 ≤ pv.toInt)
/-! Math.floorMod, of a number by 200 -/
theorem xor_nn {a b : Nat} (ha : a < 65536) (hb : b < 65536) : 0 ≤ nI a ^^^ nI b := by
  have e : nI a ^^^ nI b = nI (a ^^^ b) := by
    apply Int32.toBitVec.inj
    show BitVec.ofNat 32 a ^^^ BitVec.ofNat 32 b = BitVec.ofNat 32 (a ^^^ b)
    exact (BitVec.ofNat_xor ..).symm
  rw [e]
  have h1 : a ^^^ b < 2 ^ 16 := Nat.xor_lt_two_pow (by omega) (by omega)
  exact nI_pos' (by omega)
abbrev cJ9_fm : ByteArray := prog_13_method_50_code
abbrev yJ9_fm : MethodName := ⟨"java/lang/Math", "floorMod", "(II)I"⟩
abbrev wsJ9_fm : List Cond := Cond.code yJ9_fm cJ9_fm 3 (some .int) :: wG

theorem dJ9_fm_0 : decode cJ9_fm 0 = .ok (.iload_n 0, 1) := by decide +kernel
theorem dJ9_fm_1 : decode cJ9_fm 1 = .ok (.iload_n 1, 1) := by decide +kernel
theorem dJ9_fm_2 : decode cJ9_fm 2 = .ok (.irem, 1) := by decide +kernel
theorem dJ9_fm_3 : decode cJ9_fm 3 = .ok (.istore_n 2, 1) := by decide +kernel
theorem dJ9_fm_4 : decode cJ9_fm 4 = .ok (.iload_n 0, 1) := by decide +kernel
theorem dJ9_fm_5 : decode cJ9_fm 5 = .ok (.iload_n 1, 1) := by decide +kernel
theorem dJ9_fm_6 : decode cJ9_fm 6 = .ok (.ixor, 1) := by decide +kernel
theorem dJ9_fm_7 : decode cJ9_fm 7 = .ok (.ifCond .ge 11, 3) := by decide +kernel
theorem dJ9_fm_10 : decode cJ9_fm 10 = .ok (.iload_n 2, 1) := by decide +kernel
theorem dJ9_fm_11 : decode cJ9_fm 11 = .ok (.ifCond .eq 7, 3) := by decide +kernel
theorem dJ9_fm_14 : decode cJ9_fm 14 = .ok (.iload_n 2, 1) := by decide +kernel
theorem dJ9_fm_15 : decode cJ9_fm 15 = .ok (.iload_n 1, 1) := by decide +kernel
theorem dJ9_fm_16 : decode cJ9_fm 16 = .ok (.iadd, 1) := by decide +kernel
theorem dJ9_fm_17 : decode cJ9_fm 17 = .ok (.ireturn, 1) := by decide +kernel
theorem dJ9_fm_18 : decode cJ9_fm 18 = .ok (.iload_n 2, 1) := by decide +kernel
theorem dJ9_fm_19 : decode cJ9_fm 19 = .ok (.ireturn, 1) := by decide +kernel
set_option maxHeartbeats 4000000 in
set_option maxRecDepth 100000 in
theorem c_J9_fm (l : Launch) (dC : Nat → ClassId) (dI : Nat → Nat → Nat) (a : Nat → Nat) (k : c_K) (u : c_St) (x9 : Nat) (hx9 : x9 < 65536) : Met l yJ9_fm wsJ9_fm ({ frames := 0, cells := 0, slots := 0, locals := 0 }) (va_Pc [.int (nI x9), .int 200] (w_ro (dC, dI) vwCl (wC a k u) (tC k))) (vp_Si (fun r => r = nI (x9 % 200))) 0 0 (fun _ => False) := by
  have hm9 : x9 % 200 < 200 := Nat.mod_lt _ (by decide)
  refine va_MetF (cc := cJ9_fm) (maxL := 3) (ret := (some .int)) (by decide +kernel) rfl ?_
  intro p e s m args below meth c s₁ B hml hv
  obtain ⟨rfl, hP, hK⟩ := hv
  have hx := B.exec
  have hb := B.bytes
  have hr := B.returns
  have hts := atoms_spec (ws := wsJ9_fm) B.pre
  have htg : ∀ w ∈ wG, w.before _ s = true := fun w h => hts w (List.mem_cons_of_mem _ h)
  have hown : s.vm.findClass "java/lang/Math" = some m.cls := findClass_of_methodNamed B.named
  have hlocks := B.notSynchronized
  have hl := lv_entry ([.int (nI x9), .int 200]) (n := 3) (Nat.le_of_ble_eq_true rfl)
  rw [lg_entry_eq]
  generalize (lg_sl ([.int (nI x9), .int 200]) ++ List.replicate (3 - (lg_sl ([.int (nI x9), .int 200])).length) Slot.unset).toArray = ls at hl ⊢
  have hl : lv_has ls 3 [(0, .int (nI x9)), (1, .int 200)] := hl
  refine lv_iload_n hx hb dJ9_fm_0 rfl (lv_at hl 0 rfl) ?_
  refine lv_iload_n hx hb dJ9_fm_1 rfl (lv_at hl 1 rfl) ?_
  refine lv_irem hx hb dJ9_fm_2 (by decide) ?_
  refine wtopi (y := nI (x9 % 200)) (pk_rem (a := x9) (d := 200) (by omega) (by decide) (by decide)) ?_
  refine lv_istore_n (lv' := [(2, .int (nI (x9 % 200))), (0, .int (nI x9)), (1, .int 200)]) hx hb dJ9_fm_3 rfl hl (by decide) rfl (fun ls hl => ?_)
  refine lv_iload_n hx hb dJ9_fm_4 rfl (lv_at hl 1 rfl) ?_
  refine lv_iload_n hx hb dJ9_fm_5 rfl (lv_at hl 2 rfl) ?_
  refine lv_ixor hx hb dJ9_fm_6 ?_
  refine lv_if_ge (tgt := 18) hx hb dJ9_fm_7 (by decide) (fun c_7 => ?_) (fun c_7 => ?_)
  · refine lv_iload_n hx hb dJ9_fm_18 rfl (lv_at hl 0 rfl) ?_
    exact W.iret (v := nI (x9 % 200)) hx hb hr (fun t9 ht9 hW9 => ⟨_, rfl, rfl, ht9⟩) (fun _ h => by cases h) dJ9_fm_19
  · exact absurd (xor_nn (a := x9) (b := 200) (by omega) (by decide)) c_7
theorem wG_vS {big : List Cond} (hb : ∀ w ∈ wG, w ∈ big) {own : String} {idx : Nat} {y : MethodName} {c1 : Cond} (h1 : Cond.methodLink own idx y ∈ wG) (h2 : Cond.static y ∈ wG) (h4 : Cond.initialized y.cls ∈ wG) (h5 : c1 ∈ wG) : GoodIn big (va_wsS own idx y (c1 :: wG)) := wG_g hb (fun w hw => by
  unfold va_wsS at hw
  rcases List.mem_append.mp hw with h | h
  · simp only [List.mem_cons, List.not_mem_nil, or_false] at h
    rcases h with h | h | h <;> rw [h] <;> assumption
  · rcases List.mem_cons.mp h with h | h
    · rw [h]; exact h5
    · exact h)
set_option maxHeartbeats 4000000 in
set_option maxRecDepth 100000 in
theorem c_X2_keepRow (l : Launch) (dC : Nat → ClassId) (dI : Nat → Nat → Nat) (a : Nat → Nat) (k : c_K) (u : c_St) (sz : Nat) (hR : cu_N u 4 ≤ 600) (ps n : Nat) (al : Bool) : Met l yX2_keepRow wsX2_keepRow ({ frames := 1, cells := 0, slots := 0, locals := 22 }) (va_Pc [.ref (a 5), .int (nI ps), .int (nI n), .int (bI al)] (w_mu (dC, dI) vwCl (wC a k u) (tC k) sz)) (va_Qv (fun (u1 : c_St) => u1 = cs_N (cs_B (cs_F (cs_F u 8 (cu_N u 4 % 200) ps) 9 (cu_N u 4 % 200) n) 1 (cu_N u 4 % 200) al) 4 (cu_N u 4 + 1)) (w_at (dC, dI) vwCl (wC a k) (tC k) (va_A (wC a k u) sz)) (va_A (wC a k u) sz)) 0 0 (va_A (wC a k u) sz) := by
  have hm9 : cu_N u 4 % 200 < 200 := Nat.mod_lt _ (by decide)
  refine Met.ofW (cc := cX2_keepRow) (maxL := 5) (ret := none) (by decide) rfl ?_
  intro p e s m args below meth c s₁ B hml hv
  obtain ⟨rfl, hsz, hP, hK, hD0⟩ := hv
  have hx := B.exec
  have hb := B.bytes
  have hr := B.returns
  have hts := atoms_spec (ws := wsX2_keepRow) B.pre
  have htg : ∀ w ∈ wG, w.before _ s = true := fun w h => hts w (List.mem_cons_of_mem _ h)
  have hown : s.vm.findClass RX2 = some m.cls := findClass_of_methodNamed B.named
  have hlocks := B.notSynchronized
  subst hsz
  have hD := hD0.self (sz := s.heap.size)
  generalize hAe : va_A (wC a k u) s.heap.size = A at hD ⊢
  have hA : ∀ q : Nat, s.heap.size ≤ q → A q := fun q h => by rw [← hAe]; exact Or.inr h
  have hS : va_S A s.heap s.heap [] := va_S.rf
  have hl := lv_entry ([.ref (a 5), .int (nI ps), .int (nI n), .int (bI al)]) (n := 5) (Nat.le_of_ble_eq_true rfl)
  rw [lg_entry_eq]
  generalize (lg_sl ([.ref (a 5), .int (nI ps), .int (nI n), .int (bI al)]) ++ List.replicate (5 - (lg_sl ([.ref (a 5), .int (nI ps), .int (nI n), .int (bI al)])).length) Slot.unset).toArray = ls at hl ⊢
  have hl : lv_has ls 5 [(0, .ref (a 5)), (1, .int (nI ps)), (2, .int (nI n)), (3, .int (bI al))] := hl
  refine lv_aload_n hx hb dX2_keepRow_0 rfl (lv_at hl 0 rfl) ?_
  refine va_get (D := (dC, dI)) (ci := 2) (v := .int (nI (cu_N u 4))) (C := RX2) (T := TX2) (N := 5) hx hb htg inX2 hown hK hP 5 (wC_g5 a k _) rfl 3 (by decide) (htg _ q_146) (fun _ h9 => h9) rfl dX2_keepRow_1 ?_
  refine lv_sipush (v := 200) hx hb dX2_keepRow_4 (by decide) ?_
  refine vp_callSi (W.runS (As := [.int (nI (cu_N u 4)), .int 200]) (rest := []) ⟨hx, hb, hml, hown, hts⟩ (c_J9_fm l dC dI a k u (cu_N u 4) (by omega)) (va_cwS 2 hts (wG_vS wG_c q_537 q_538 q_14 q_539) rfl rfl rfl (by decide +kernel) ⟨Nat.le_of_ble_eq_true rfl, Nat.le_of_ble_eq_true rfl⟩) (w_roS hK hP) rfl rfl hl.1 rfl (lv_room (Nat.le_of_ble_eq_true rfl)) dX2_keepRow_7 ⟨Nat.le_of_ble_eq_true rfl, Nat.le_of_ble_eq_true rfl⟩) (fun r_1 hr_1 => ?_)
  subst hr_1
  refine lv_istore (lv' := [(4, .int (nI (cu_N u 4 % 200))), (0, .ref (a 5)), (1, .int (nI ps)), (2, .int (nI n)), (3, .int (bI al))]) hx hb dX2_keepRow_10 hl (by decide) rfl (fun ls hl => ?_)
  refine lv_aload_n hx hb dX2_keepRow_12 rfl (lv_at hl 1 rfl) ?_
  refine va_get (D := (dC, dI)) (ci := 2) (v := .ref (a 22)) (C := RX2) (T := TX2) (N := 5) hx hb htg inX2 hown hK hP 5 (wC_g5 a k _) rfl 0 (by decide) (htg _ q_140) (fun _ h9 => h9) rfl dX2_keepRow_13 ?_
  refine lv_iload hx hb dX2_keepRow_16 (lv_at hl 0 rfl) ?_
  refine lv_iload_n hx hb dX2_keepRow_18 rfl (lv_at hl 2 rfl) ?_
  refine va_iast hx hb hK hP hD hS 22 0 (wC_g22 a k _) rfl (vp_in_nI (n := (cu_N u 4 % 200)) (N := 200) hm9 (by decide)) dX2_keepRow_19 (fun H locs hP hD hS => ?_)
  have hP := w_pE (wC_s22 a k _ (cu_N u 4 % 200) ps (Nat.lt_trans (m := 200) hm9 (by decide))) hP
  have hD := w_dE (wC_s22 a k _ (cu_N u 4 % 200) ps (Nat.lt_trans (m := 200) hm9 (by decide))) hD
  refine lv_aload_n hx hb dX2_keepRow_20 rfl (lv_at hl 1 rfl) ?_
  refine va_get (D := (dC, dI)) (ci := 2) (v := .ref (a 23)) (C := RX2) (T := TX2) (N := 5) hx hb htg inX2 hown hK hP 5 (wC_g5 a k _) rfl 1 (by decide) (htg _ q_142) (fun _ h9 => h9) rfl dX2_keepRow_21 ?_
  refine lv_iload hx hb dX2_keepRow_24 (lv_at hl 0 rfl) ?_
  refine lv_iload_n hx hb dX2_keepRow_26 rfl (lv_at hl 3 rfl) ?_
  refine va_iast hx hb hK hP hD hS 23 0 (wC_g23 a k _) rfl (vp_in_nI (n := (cu_N u 4 % 200)) (N := 200) hm9 (by decide)) dX2_keepRow_27 (fun H locs hP hD hS => ?_)
  have hP := w_pE (wC_s23 a k _ (cu_N u 4 % 200) n (Nat.lt_trans (m := 200) hm9 (by decide))) hP
  have hD := w_dE (wC_s23 a k _ (cu_N u 4 % 200) n (Nat.lt_trans (m := 200) hm9 (by decide))) hD
  refine lv_aload_n hx hb dX2_keepRow_28 rfl (lv_at hl 1 rfl) ?_
  refine va_get (D := (dC, dI)) (ci := 2) (v := .ref (a 24)) (C := RX2) (T := TX2) (N := 5) hx hb htg inX2 hown hK hP 5 (wC_g5 a k _) rfl 2 (by decide) (htg _ q_144) (fun _ h9 => h9) rfl dX2_keepRow_29 ?_
  refine lv_iload hx hb dX2_keepRow_32 (lv_at hl 0 rfl) ?_
  refine lv_iload_n hx hb dX2_keepRow_34 rfl (lv_at hl 4 rfl) ?_
  refine va_zast hx hb hK hP hD hS 24 2 (wC_g24 a k _) rfl (vp_in_nI (n := (cu_N u 4 % 200)) (N := 200) hm9 (by decide)) dX2_keepRow_35 (fun H locs hP hD hS => ?_)
  have hP := w_pE (wC_s24 a k _ (cu_N u 4 % 200) al (Nat.lt_trans (m := 200) hm9 (by decide))) hP
  have hD := w_dE (wC_s24 a k _ (cu_N u 4 % 200) al (Nat.lt_trans (m := 200) hm9 (by decide))) hD
  refine lv_aload_n hx hb dX2_keepRow_36 rfl (lv_at hl 1 rfl) ?_
  refine lv_dup hx hb dX2_keepRow_37 rfl ?_
  refine va_get (D := (dC, dI)) (ci := 2) (v := .int (nI (cu_N (cs_B (cs_F (cs_F u 8 (cu_N u 4 % 200) ps) 9 (cu_N u 4 % 200) n) 1 (cu_N u 4 % 200) al) 4))) (C := RX2) (T := TX2) (N := 5) hx hb htg inX2 hown hK hP 5 (wC_g5 a k _) rfl 3 (by decide) (htg _ q_146) (fun _ h9 => h9) rfl dX2_keepRow_38 ?_
  refine lv_iconst (v := 1) hx hb dX2_keepRow_41 (by decide) ?_
  refine lv_iadd hx hb dX2_keepRow_42 ?_
  refine wtopi (y := nI (cu_N u 4 + 1)) (nI_1 (cu_N u 4)) ?_
  refine va_put (D := (dC, dI)) (ci := 2) (v := .int (nI (cu_N u 4 + 1))) (ty := .int) (C := RX2) (T := TX2) (N := 5) hx hb htg inX2 tyX2 tyX2_ok nmX2 hown hK hP hD hS 5 (wC_g5 a k _) rfl 3 (by decide) (htg _ q_146) (fun _ h9 => h9) rfl (by decide +kernel) rfl rfl (Nat.le_of_ble_eq_true rfl) dX2_keepRow_43 (fun H locs hP hD hS => ?_)
  have hP := w_pE (wC_n4 a k _ (cu_N u 4 + 1)) hP
  have hD := w_dE (wC_n4 a k _ (cu_N u 4 + 1)) hD
  exact W.vret hx hb hr (fun t9 ht9 hW9 => ⟨⟨cs_N (cs_B (cs_F (cs_F u 8 (cu_N u 4 % 200) ps) 9 (cu_N u 4 % 200) n) 1 (cu_N u 4 % 200) al) 4 (cu_N u 4 + 1), rfl, rfl, by rw [ht9]; exact hP, va_K.moved hW9.alike hK, hD⟩, hS.F ht9⟩) hS.2.2 dX2_keepRow_46
set_option maxHeartbeats 4000000 in
set_option maxRecDepth 100000 in
theorem c_X2_isKept (l : Launch) (dC : Nat → ClassId) (dI : Nat → Nat → Nat) (a : Nat → Nat) (k : c_K) (u : c_St) (hR : cu_N u 4 ≤ 600) (pv : Int32) : Met l yX2_isKept wsX2_isKept ({ frames := 0, cells := 0, slots := 0, locals := 0 }) (va_Pc [.ref (a 5), .int pv] (w_ro (dC, dI) vwCl (wC a k u) (tC k))) (vp_Si (fun r => r = bI (c_kept u pv))) 0 0 (fun _ => False) := by
  have hp0 := i32_b pv
  refine Met.ofW (cc := cX2_isKept) (maxL := 2) (ret := (some .boolean)) (by decide) rfl ?_
  intro p e s m args below meth c s₁ B hml hv
  obtain ⟨rfl, hP, hK⟩ := hv
  have hx := B.exec
  have hb := B.bytes
  have hr := B.returns
  have hts := atoms_spec (ws := wsX2_isKept) B.pre
  have htg : ∀ w ∈ wG, w.before _ s = true := fun w h => hts w (List.mem_cons_of_mem _ h)
  have hown : s.vm.findClass RX2 = some m.cls := findClass_of_methodNamed B.named
  have hlocks := B.notSynchronized
  have hl := lv_entry ([.ref (a 5), .int pv]) (n := 2) (Nat.le_of_ble_eq_true rfl)
  rw [lg_entry_eq]
  generalize (lg_sl ([.ref (a 5), .int pv]) ++ List.replicate (2 - (lg_sl ([.ref (a 5), .int pv])).length) Slot.unset).toArray = ls at hl ⊢
  have hl : lv_has ls 2 [(0, .ref (a 5)), (1, .int pv)] := hl
  refine lv_iload_n hx hb dX2_isKept_0 rfl (lv_at hl 1 rfl) ?_
  refine wtopi (y := iI pv.toInt) (iI_self pv) ?_
  refine iz_lt (a := pv.toInt) (tgt := 28) hx hb (by omega) (by omega) rfl dX2_isKept_1 (by decide) (fun c_1 => ?_) (fun c_1 => ?_)
  · refine lv_iconst (v := 0) hx hb dX2_isKept_28 (by decide) ?_
    exact W.zret (v := bI false) hx hb hr (bI_narw _) (fun t9 ht9 hW9 => ⟨_, rfl, congrArg bI (by unfold c_kept isS; symm; simp only [Bool.and_eq_true, Bool.and_eq_false_iff, decide_eq_true_eq, decide_eq_false_iff_not]; omega), ht9⟩) (fun _ h => by cases h) dX2_isKept_29
  · refine lv_iload_n hx hb dX2_isKept_4 rfl (lv_at hl 1 rfl) ?_
    refine wtopi (y := iI pv.toInt) (iI_self pv) ?_
    refine lv_aload_n hx hb dX2_isKept_5 rfl (lv_at hl 0 rfl) ?_
    refine va_get (D := (dC, dI)) (ci := 2) (v := .int (nI (cu_N u 4))) (C := RX2) (T := TX2) (N := 5) hx hb htg inX2 hown hK hP 5 (wC_g5 a k _) rfl 3 (by decide) (htg _ q_146) (fun _ h9 => h9) rfl dX2_isKept_6 ?_
    refine wtopi (y := iI (cu_N u 4 : Int)) (nI_iI _) ?_
    refine ib_ge (a := pv.toInt) (b := (cu_N u 4 : Int)) (tgt := 28) hx hb (by omega) (by omega) (by omega) (by omega) rfl rfl dX2_isKept_9 (by decide) (fun c_9 => ?_) (fun c_9 => ?_)
    · refine lv_iconst (v := 0) hx hb dX2_isKept_28 (by decide) ?_
      exact W.zret (v := bI false) hx hb hr (bI_narw _) (fun t9 ht9 hW9 => ⟨_, rfl, congrArg bI (by unfold c_kept isS; symm; simp only [Bool.and_eq_true, Bool.and_eq_false_iff, decide_eq_true_eq, decide_eq_false_iff_not]; omega), ht9⟩) (fun _ h => by cases h) dX2_isKept_29
    · refine lv_iload_n hx hb dX2_isKept_12 rfl (lv_at hl 1 rfl) ?_
      refine wtopi (y := iI pv.toInt) (iI_self pv) ?_
      refine lv_aload_n hx hb dX2_isKept_13 rfl (lv_at hl 0 rfl) ?_
      refine va_get (D := (dC, dI)) (ci := 2) (v := .int (nI (cu_N u 4))) (C := RX2) (T := TX2) (N := 5) hx hb htg inX2 hown hK hP 5 (wC_g5 a k _) rfl 3 (by decide) (htg _ q_146) (fun _ h9 => h9) rfl dX2_isKept_14 ?_
      refine lv_sipush (v := 200) hx hb dX2_isKept_17 (by decide) ?_
      refine lv_isub hx hb dX2_isKept_20 ?_
      refine wtopi (y := iI ((cu_N u 4 : Int) - 200)) (show nI (cu_N u 4) - 200 = iI ((cu_N u 4 : Int) - 200) from by rw [nI_iI]; exact iI_sub _ 200) ?_
      refine ib_lt (a := pv.toInt) (b := ((cu_N u 4 : Int) - 200)) (tgt := 28) hx hb (by omega) (by omega) (by omega) (by omega) rfl rfl dX2_isKept_21 (by decide) (fun c_21 => ?_) (fun c_21 => ?_)
      · refine lv_iconst (v := 0) hx hb dX2_isKept_28 (by decide) ?_
        exact W.zret (v := bI false) hx hb hr (bI_narw _) (fun t9 ht9 hW9 => ⟨_, rfl, congrArg bI (by unfold c_kept isS; symm; simp only [Bool.and_eq_true, Bool.and_eq_false_iff, decide_eq_true_eq, decide_eq_false_iff_not]; omega), ht9⟩) (fun _ h => by cases h) dX2_isKept_29
      · refine lv_iconst (v := 1) hx hb dX2_isKept_24 (by decide) ?_
        refine lv_goto (tgt := 29) hx hb dX2_isKept_25 (by decide) ?_
        exact W.zret (v := bI true) hx hb hr (bI_narw _) (fun t9 ht9 hW9 => ⟨_, rfl, congrArg bI (by unfold c_kept isS; symm; simp only [Bool.and_eq_true, Bool.and_eq_false_iff, decide_eq_true_eq, decide_eq_false_iff_not]; omega), ht9⟩) (fun _ h => by cases h) dX2_isKept_29
set_option maxHeartbeats 4000000 in
set_option maxRecDepth 100000 in
theorem c_X3_contradictionAt (l : Launch) (dC : Nat → ClassId) (dI : Nat → Nat → Nat) (a : Nat → Nat) (k : c_K) (u : c_St) (h : c_ok u) (q : Nat) (hq : q < 2147483648) (hf : ∀ j, j < cu_N u 1 → 0 ≤ cu_D u 1 (cu_F u 5 j)) : Met l yX3_contradictionAt wsX3_contradictionAt ({ frames := 1, cells := 0, slots := 0, locals := 22 }) (va_Pc [.ref (a 2), .int (nI q)] (w_ro (dC, dI) vwCl (wC a k u) (tC k))) (vp_Si (fun r => r = iI (c_con u q (cu_N u 1)))) 0 0 (fun _ => False) := by
  have h60 := h.2.1
  refine Met.ofW (cc := cX3_contradictionAt) (maxL := 4) (ret := (some .int)) (by decide) rfl ?_
  intro p e s m args below meth c s₁ B hml hv
  obtain ⟨rfl, hP, hK⟩ := hv
  have hx := B.exec
  have hb := B.bytes
  have hr := B.returns
  have hts := atoms_spec (ws := wsX3_contradictionAt) B.pre
  have htg : ∀ w ∈ wG, w.before _ s = true := fun w h => hts w (List.mem_cons_of_mem _ h)
  have hown : s.vm.findClass RX3 = some m.cls := findClass_of_methodNamed B.named
  have hlocks := B.notSynchronized
  have hl := lv_entry ([.ref (a 2), .int (nI q)]) (n := 4) (Nat.le_of_ble_eq_true rfl)
  rw [lg_entry_eq]
  generalize (lg_sl ([.ref (a 2), .int (nI q)]) ++ List.replicate (4 - (lg_sl ([.ref (a 2), .int (nI q)])).length) Slot.unset).toArray = ls at hl ⊢
  have hl : lv_has ls 4 [(0, .ref (a 2)), (1, .int (nI q))] := hl
  refine lv_iconst (v := 0) hx hb dX3_contradictionAt_0 (by decide) ?_
  refine lv_istore_n (lv' := [(2, .int 0), (0, .ref (a 2)), (1, .int (nI q))]) hx hb dX3_contradictionAt_1 rfl hl (by decide) rfl (fun ls hl => ?_)
  refine lv_iconst (v := 0) hx hb dX3_contradictionAt_2 (by decide) ?_
  refine lv_istore_n (lv' := [(3, .int 0), (2, .int 0), (0, .ref (a 2)), (1, .int (nI q))]) hx hb dX3_contradictionAt_3 rfl hl (by decide) rfl (fun ls hl => ?_)
  refine w_loop (fun j : Nat => cu_N u 1 - j) (fun j ls => (j ≤ cu_N u 1 ∧ c_con u q j = -1) ∧ lv_has ls 4 [(0, .ref (a 2)), (1, .int (nI q)), (2, .int (nI (c_cn u j))), (3, .int (nI j))]) ?_ 0 ls ⟨⟨Nat.zero_le _, rfl⟩, lv_sub hl [2, 3, 1, 0] rfl⟩
  clear hl
  intro j ls hI ih
  obtain ⟨hI, hl⟩ := hI
  refine lv_iload_n hx hb dX3_contradictionAt_4 rfl (lv_at hl 3 rfl) ?_
  refine lv_aload_n hx hb dX3_contradictionAt_5 rfl (lv_at hl 0 rfl) ?_
  refine va_get (D := (dC, dI)) (ci := 3) (v := .int (nI (cu_N u 1))) (C := RX3) (T := TX3) (N := 4) hx hb htg inX3 hown hK hP 2 (wC_g2 a k _) rfl 3 (by decide) (htg _ q_79) (fun _ h9 => h9) rfl dX3_contradictionAt_6 ?_
  refine nb_ge (a := j) (b := (cu_N u 1)) (tgt := 62) hx hb (by omega) (by omega) rfl rfl dX3_contradictionAt_9 (by decide) (fun c_9 => ?_) (fun c_9 => ?_)
  · refine lv_iconst (v := (-1)) hx hb dX3_contradictionAt_62 (by decide) ?_
    exact W.iret (v := (-1)) hx hb hr (fun t9 ht9 hW9 => ⟨_, rfl, (show (-1 : Int32) = iI (c_con u q (cu_N u 1)) from by rw [show cu_N u 1 = j by omega, hI.2]; rfl), ht9⟩) (fun _ h => by cases h) dX3_contradictionAt_63
  · have hj2 := h.2.2.2.1 j c_9
    have hof := c_off_b h hj2.1
    have hfj := hf j c_9
    have hcl := c_cn_le u j
    have hd9 : cu_D u 1 (cu_F u 5 j) = -1 ∨ ∃ i : Nat, i < 60 ∧ cu_D u 1 (cu_F u 5 j) = (i : Int) := by
      rcases h.2.2.2.2 _ hj2.1 with q1 | ⟨i, q1, q2⟩
      · exact Or.inl q1
      · exact Or.inr ⟨i, by omega, q2⟩
    refine lv_aload_n hx hb dX3_contradictionAt_12 rfl (lv_at hl 0 rfl) ?_
    refine va_get (D := (dC, dI)) (ci := 3) (v := .ref (a 16)) (C := RX3) (T := TX3) (N := 4) hx hb htg inX3 hown hK hP 2 (wC_g2 a k _) rfl 1 (by decide) (htg _ q_76) (fun _ h9 => h9) rfl dX3_contradictionAt_13 ?_
    refine lv_iload_n hx hb dX3_contradictionAt_16 rfl (lv_at hl 3 rfl) ?_
    refine va_iald hx hb hK hP 16 0 (wC_g16 a k _) rfl (vp_in_nI (n := j) (N := 60) (show j < 60 by omega) (by decide)) dX3_contradictionAt_17 ?_
    refine wtopi (iI (cu_D u 0 j)) (congrArg (fun j9 => iI (cu_D u 0 j9)) (nI_clamp (n := j) (Nat.lt_trans (m := 60) (show j < 60 by omega) (by decide)))) ?_
    refine lv_aload_n hx hb dX3_contradictionAt_18 rfl (lv_at hl 0 rfl) ?_
    refine lv_aload_n hx hb dX3_contradictionAt_19 rfl (lv_at hl 0 rfl) ?_
    refine va_get (D := (dC, dI)) (ci := 3) (v := .ref (a 15)) (C := RX3) (T := TX3) (N := 4) hx hb htg inX3 hown hK hP 2 (wC_g2 a k _) rfl 0 (by decide) (htg _ q_75) (fun _ h9 => h9) rfl dX3_contradictionAt_20 ?_
    refine lv_iload_n hx hb dX3_contradictionAt_23 rfl (lv_at hl 3 rfl) ?_
    refine va_iald hx hb hK hP 15 0 (wC_g15 a k _) rfl (vp_in_nI (n := j) (N := 60) (show j < 60 by omega) (by decide)) dX3_contradictionAt_24 ?_
    refine wtopi (nI (cu_F u 5 j)) (congrArg (fun j9 => nI (cu_F u 5 j9)) (nI_clamp (n := j) (Nat.lt_trans (m := 60) (show j < 60 by omega) (by decide)))) ?_
    refine vp_callSi (W.runV (As := [.int (nI (cu_F u 5 j))]) (rest := [.int (iI (cu_D u 0 j))]) ⟨hx, hb, hml, hown, hts⟩ (c_X3_offsetOf l dC dI a k u (cu_F u 5 j) hj2.1 hd9) (cwV 1 hts (wG_V wG_c q_414 q_196 q_197 q_3 q_198) rfl rfl rfl (by decide +kernel) ⟨Nat.le_of_ble_eq_true rfl, Nat.le_of_ble_eq_true rfl⟩) (w_roV hK hP (ci := 3) (q0 := 2) rfl (wC_g2 a k _) rfl) rfl rfl hl.1 rfl (lv_room (Nat.le_of_ble_eq_true rfl)) dX3_contradictionAt_25 ⟨Nat.le_of_ble_eq_true rfl, Nat.le_of_ble_eq_true rfl⟩) (fun r_1 hr_1 => ?_)
    subst hr_1
    refine ib_eq (a := (cu_D u 0 j)) (b := (c_off u (cu_F u 5 j))) (tgt := 56) hx hb (by omega) (by omega) (by omega) (by omega) rfl rfl dX3_contradictionAt_28 (by decide) (fun c_28 => ?_) (fun c_28 => ?_)
    · have hct := c_ct_f c_28
      refine lv_iinc (v := nI (j + 1)) (lv' := [(3, .int (nI (j + 1))), (0, .ref (a 2)), (1, .int (nI q)), (2, .int (nI (c_cn u j)))]) hx hb dX3_contradictionAt_56 hl (k := 3) rfl (nI_1 j) (by decide) rfl (fun ls hl => ?_)
      refine lv_goto (tgt := 4) hx hb dX3_contradictionAt_59 (by decide) ?_
      exact ih (j + 1) ls (by omega) ⟨⟨by omega, c_con_n hI.2 (fun z => by rw [hct] at z; cases z.1)⟩, lv_sub hl [1, 2, 3, 0] (by rw [c_cn_f hct]; rfl)⟩
    · have hct := c_ct_t c_28
      refine lv_iload_n hx hb dX3_contradictionAt_31 rfl (lv_at hl 2 rfl) ?_
      refine lv_iload_n hx hb dX3_contradictionAt_32 rfl (lv_at hl 1 rfl) ?_
      refine nb_ne (a := (c_cn u j)) (b := q) (tgt := 53) hx hb (by omega) (by omega) rfl rfl dX3_contradictionAt_33 (by decide) (fun c_33 => ?_) (fun c_33 => ?_)
      · refine lv_iinc (v := nI ((c_cn u j) + 1)) (lv' := [(2, .int (nI ((c_cn u j) + 1))), (0, .ref (a 2)), (1, .int (nI q)), (3, .int (nI j))]) hx hb dX3_contradictionAt_53 hl (k := 2) rfl (nI_1 (c_cn u j)) (by decide) rfl (fun ls hl => ?_)
        refine lv_iinc (v := nI (j + 1)) (lv' := [(3, .int (nI (j + 1))), (2, .int (nI ((c_cn u j) + 1))), (0, .ref (a 2)), (1, .int (nI q))]) hx hb dX3_contradictionAt_56 hl (k := 3) rfl (nI_1 j) (by decide) rfl (fun ls hl => ?_)
        refine lv_goto (tgt := 4) hx hb dX3_contradictionAt_59 (by decide) ?_
        exact ih (j + 1) ls (by omega) ⟨⟨by omega, c_con_n hI.2 (fun z => c_33 z.2)⟩, lv_sub hl [2, 3, 1, 0] (by rw [c_cn_t hct]; rfl)⟩
      · refine lv_bipush (v := 100) hx hb dX3_contradictionAt_36 (by decide) ?_
        refine lv_aload_n hx hb dX3_contradictionAt_38 rfl (lv_at hl 0 rfl) ?_
        refine va_get (D := (dC, dI)) (ci := 3) (v := .ref (a 17)) (C := RX3) (T := TX3) (N := 4) hx hb htg inX3 hown hK hP 2 (wC_g2 a k _) rfl 2 (by decide) (htg _ q_77) (fun _ h9 => h9) rfl dX3_contradictionAt_39 ?_
        refine lv_aload_n hx hb dX3_contradictionAt_42 rfl (lv_at hl 0 rfl) ?_
        refine va_get (D := (dC, dI)) (ci := 3) (v := .ref (a 15)) (C := RX3) (T := TX3) (N := 4) hx hb htg inX3 hown hK hP 2 (wC_g2 a k _) rfl 0 (by decide) (htg _ q_75) (fun _ h9 => h9) rfl dX3_contradictionAt_43 ?_
        refine lv_iload_n hx hb dX3_contradictionAt_46 rfl (lv_at hl 3 rfl) ?_
        refine va_iald hx hb hK hP 15 0 (wC_g15 a k _) rfl (vp_in_nI (n := j) (N := 60) (show j < 60 by omega) (by decide)) dX3_contradictionAt_47 ?_
        refine wtopi (nI (cu_F u 5 j)) (congrArg (fun j9 => nI (cu_F u 5 j9)) (nI_clamp (n := j) (Nat.lt_trans (m := 60) (show j < 60 by omega) (by decide)))) ?_
        refine va_iald hx hb hK hP 17 0 (wC_g17 a k _) rfl (vp_in_nI (n := (cu_F u 5 j)) (N := 10) hj2.1 (by decide)) dX3_contradictionAt_48 ?_
        refine wtopi (iI (cu_D u 1 (cu_F u 5 j))) (congrArg (fun j9 => iI (cu_D u 1 j9)) (nI_clamp (n := (cu_F u 5 j)) (Nat.lt_trans (m := 10) hj2.1 (by decide)))) ?_
        refine lv_imul hx hb dX3_contradictionAt_49 ?_
        refine wtopi (y := iI (100 * cu_D u 1 (cu_F u 5 j))) (iI_mul 100 _) ?_
        refine lv_iload_n hx hb dX3_contradictionAt_50 rfl (lv_at hl 3 rfl) ?_
        refine lv_iadd hx hb dX3_contradictionAt_51 ?_
        refine wtopi (y := iI (100 * cu_D u 1 (cu_F u 5 j) + (j : Int))) (by rw [nI_iI, iI_add]) ?_
        exact W.iret (v := iI (100 * cu_D u 1 (cu_F u 5 j) + (j : Int))) hx hb hr (fun t9 ht9 hW9 => ⟨_, rfl, (by rw [← c_con_y hfj hI.2 ⟨hct, c_33⟩ (cu_N u 1 - j - 1), show j + 1 + (cu_N u 1 - j - 1) = cu_N u 1 by omega]), ht9⟩) (fun _ h => by cases h) dX3_contradictionAt_52
set_option maxHeartbeats 4000000 in
set_option maxRecDepth 100000 in
theorem c_X5_size (l : Launch) (dC : Nat → ClassId) (dI : Nat → Nat → Nat) (a : Nat → Nat) (k : c_K) (u : c_St) (h : c_ok u) (hL : cu_N u 2 ≤ 200) (ho : ∀ j, j < cu_N u 2 → cu_F u 6 j < cu_N u 0) (t1 t2 : Int32) : Met l yX5_size wsX5_size ({ frames := 4, cells := 0, slots := 0, locals := 90 }) (va_Pc [.ref (a 0), .int t1, .int t2] (w_ro (dC, dI) vwCl (wC a k u) (tC k))) (vp_Si (fun r => r = nI (c_sz u t1 t2 (cu_N u 2)))) 0 0 (fun _ => False) := by
  refine Met.ofW (cc := cX5_size) (maxL := 5) (ret := (some .int)) (by decide) rfl ?_
  intro p e s m args below meth c s₁ B hml hv
  obtain ⟨rfl, hP, hK⟩ := hv
  have hx := B.exec
  have hb := B.bytes
  have hr := B.returns
  have hts := atoms_spec (ws := wsX5_size) B.pre
  have htg : ∀ w ∈ wG, w.before _ s = true := fun w h => hts w (List.mem_cons_of_mem _ h)
  have hown : s.vm.findClass RX5 = some m.cls := findClass_of_methodNamed B.named
  have hlocks := B.notSynchronized
  have hl := lv_entry ([.ref (a 0), .int t1, .int t2]) (n := 5) (Nat.le_of_ble_eq_true rfl)
  rw [lg_entry_eq]
  generalize (lg_sl ([.ref (a 0), .int t1, .int t2]) ++ List.replicate (5 - (lg_sl ([.ref (a 0), .int t1, .int t2])).length) Slot.unset).toArray = ls at hl ⊢
  have hl : lv_has ls 5 [(0, .ref (a 0)), (1, .int t1), (2, .int t2)] := hl
  refine lv_iconst (v := 0) hx hb dX5_size_0 (by decide) ?_
  refine lv_istore_n (lv' := [(3, .int 0), (0, .ref (a 0)), (1, .int t1), (2, .int t2)]) hx hb dX5_size_1 rfl hl (by decide) rfl (fun ls hl => ?_)
  refine lv_iconst (v := 0) hx hb dX5_size_2 (by decide) ?_
  refine lv_istore (lv' := [(4, .int 0), (3, .int 0), (0, .ref (a 0)), (1, .int t1), (2, .int t2)]) hx hb dX5_size_3 hl (by decide) rfl (fun ls hl => ?_)
  refine w_loop (fun j : Nat => cu_N u 2 - j) (fun j ls => j ≤ cu_N u 2 ∧ lv_has ls 5 [(0, .ref (a 0)), (1, .int t1), (2, .int t2), (3, .int (nI (c_sz u t1 t2 j))), (4, .int (nI j))]) ?_ (0) ls ⟨Nat.zero_le _, lv_sub hl [2, 3, 4, 1, 0] rfl⟩
  clear hl
  intro j ls hI ih
  obtain ⟨hI, hl⟩ := hI
  refine lv_iload hx hb dX5_size_5 (lv_at hl 4 rfl) ?_
  refine lv_aload_n hx hb dX5_size_7 rfl (lv_at hl 0 rfl) ?_
  refine va_get (D := (dC, dI)) (ci := 5) (v := .ref (a 3)) (C := RX5) (T := TX5) (N := 6) hx hb htg inX5 hown hK hP 0 (wC_g0 a k _) rfl 2 (by decide) (htg _ q_162) (fun _ h9 => h9) rfl dX5_size_8 ?_
  refine va_get (D := (dC, dI)) (ci := 1) (v := .int (nI (cu_N u 2))) (C := RX1) (T := TX1) (N := 4) hx hb htg inX1 hown hK hP 3 (wC_g3 a k _) rfl 1 (by decide) (htg _ q_99) (fun _ h9 => h9) rfl dX5_size_11 ?_
  refine nb_ge (a := j) (b := (cu_N u 2)) (tgt := 45) hx hb (by omega) (by omega) rfl rfl dX5_size_14 (by decide) (fun c_14 => ?_) (fun c_14 => ?_)
  · refine lv_iload_n hx hb dX5_size_45 rfl (lv_at hl 3 rfl) ?_
    exact W.iret (v := nI (c_sz u t1 t2 j)) hx hb hr (fun t9 ht9 hW9 => ⟨_, rfl, (by rw [show cu_N u 2 = j by omega]), ht9⟩) (fun _ h => by cases h) dX5_size_46
  · refine lv_iload_n hx hb dX5_size_17 rfl (lv_at hl 3 rfl) ?_
    refine lv_aload_n hx hb dX5_size_18 rfl (lv_at hl 0 rfl) ?_
    refine va_get (D := (dC, dI)) (ci := 5) (v := .ref (a 3)) (C := RX5) (T := TX5) (N := 6) hx hb htg inX5 hown hK hP 0 (wC_g0 a k _) rfl 2 (by decide) (htg _ q_162) (fun _ h9 => h9) rfl dX5_size_19 ?_
    refine lv_aload_n hx hb dX5_size_22 rfl (lv_at hl 0 rfl) ?_
    refine va_get (D := (dC, dI)) (ci := 5) (v := .ref (a 3)) (C := RX5) (T := TX5) (N := 6) hx hb htg inX5 hown hK hP 0 (wC_g0 a k _) rfl 2 (by decide) (htg _ q_162) (fun _ h9 => h9) rfl dX5_size_23 ?_
    refine va_get (D := (dC, dI)) (ci := 1) (v := .ref (a 18)) (C := RX1) (T := TX1) (N := 4) hx hb htg inX1 hown hK hP 3 (wC_g3 a k _) rfl 0 (by decide) (htg _ q_97) (fun _ h9 => h9) rfl dX5_size_26 ?_
    refine lv_iload hx hb dX5_size_29 (lv_at hl 4 rfl) ?_
    refine va_iald hx hb hK hP 18 0 (wC_g18 a k _) rfl (vp_in_nI (n := j) (N := 200) (by omega) (by decide)) dX5_size_31 ?_
    refine wtopi (nI (cu_F u 6 j)) (congrArg (fun j9 => nI (cu_F u 6 j9)) (nI_clamp (n := j) (Nat.lt_trans (m := 200) (by omega) (by decide)))) ?_
    refine lv_iload_n hx hb dX5_size_32 rfl (lv_at hl 1 rfl) ?_
    refine lv_iload_n hx hb dX5_size_33 rfl (lv_at hl 2 rfl) ?_
    refine vp_callSi (W.runV (As := [.int (nI (cu_F u 6 j)), .int t1, .int t2]) (rest := [.int (nI (c_sz u t1 t2 j))]) ⟨hx, hb, hml, hown, hts⟩ (c_X1_bytesWithin l dC dI a k u h (cu_F u 6 j) (ho j c_14) t1 t2) (cwV 3 hts (wG_V wG_c q_183 q_184 q_185 q_4 q_186) rfl rfl rfl (by decide +kernel) ⟨Nat.le_of_ble_eq_true rfl, Nat.le_of_ble_eq_true rfl⟩) (w_roV hK hP (ci := 1) (q0 := 3) rfl (wC_g3 a k _) rfl) rfl rfl hl.1 rfl (lv_room (Nat.le_of_ble_eq_true rfl)) dX5_size_34 ⟨Nat.le_of_ble_eq_true rfl, Nat.le_of_ble_eq_true rfl⟩) (fun r_1 hr_1 => ?_)
    subst hr_1
    refine lv_iadd hx hb dX5_size_37 ?_
    refine wtopi (y := nI (c_sz u t1 t2 (j + 1))) (nI_add _ _) ?_
    refine lv_istore_n (lv' := [(3, .int (nI (c_sz u t1 t2 (j + 1)))), (0, .ref (a 0)), (1, .int t1), (2, .int t2), (4, .int (nI j))]) hx hb dX5_size_38 rfl hl (by decide) rfl (fun ls hl => ?_)
    refine lv_iinc (v := nI (j + 1)) (lv' := [(4, .int (nI (j + 1))), (3, .int (nI (c_sz u t1 t2 (j + 1)))), (0, .ref (a 0)), (1, .int t1), (2, .int t2)]) hx hb dX5_size_39 hl (k := 4) rfl (nI_1 j) (by decide) rfl (fun ls hl => ?_)
    refine lv_goto (tgt := 5) hx hb dX5_size_42 (by decide) ?_
    exact ih (j + 1) ls (by omega) ⟨by omega, lv_sub hl [2, 3, 4, 1, 0] rfl⟩
set_option maxHeartbeats 4000000 in
set_option maxRecDepth 100000 in
theorem c_X5_export (l : Launch) (dC : Nat → ClassId) (dI : Nat → Nat → Nat) (a : Nat → Nat) (k : c_K) (u : c_St) (h : c_ok u) (hL : cu_N u 2 ≤ 200) (ho : ∀ j, j < cu_N u 2 → cu_F u 6 j < cu_N u 0) (t1 t2 : Int32) : Met l yX5_export wsX5_export ({ frames := 4, cells := 0, slots := 0, locals := 91 }) (va_Pc [.ref (a 0), .int t1, .int t2] (w_ro (dC, dI) vwCl (wC a k u) (tC k))) (vp_Si (fun r => r = c_ex u t1 t2 (cu_N u 2))) 0 0 (fun _ => False) := by
  refine Met.ofW (cc := cX5_export) (maxL := 5) (ret := (some .int)) (by decide) rfl ?_
  intro p e s m args below meth c s₁ B hml hv
  obtain ⟨rfl, hP, hK⟩ := hv
  have hx := B.exec
  have hb := B.bytes
  have hr := B.returns
  have hts := atoms_spec (ws := wsX5_export) B.pre
  have htg : ∀ w ∈ wG, w.before _ s = true := fun w h => hts w (List.mem_cons_of_mem _ h)
  have hown : s.vm.findClass RX5 = some m.cls := findClass_of_methodNamed B.named
  have hlocks := B.notSynchronized
  have hl := lv_entry ([.ref (a 0), .int t1, .int t2]) (n := 5) (Nat.le_of_ble_eq_true rfl)
  rw [lg_entry_eq]
  generalize (lg_sl ([.ref (a 0), .int t1, .int t2]) ++ List.replicate (5 - (lg_sl ([.ref (a 0), .int t1, .int t2])).length) Slot.unset).toArray = ls at hl ⊢
  have hl : lv_has ls 5 [(0, .ref (a 0)), (1, .int t1), (2, .int t2)] := hl
  refine lv_iconst (v := 0) hx hb dX5_export_0 (by decide) ?_
  refine lv_istore_n (lv' := [(3, .int 0), (0, .ref (a 0)), (1, .int t1), (2, .int t2)]) hx hb dX5_export_1 rfl hl (by decide) rfl (fun ls hl => ?_)
  refine lv_iconst (v := 0) hx hb dX5_export_2 (by decide) ?_
  refine lv_istore (lv' := [(4, .int 0), (3, .int 0), (0, .ref (a 0)), (1, .int t1), (2, .int t2)]) hx hb dX5_export_3 hl (by decide) rfl (fun ls hl => ?_)
  refine w_loop (fun j : Nat => cu_N u 2 - j) (fun j ls => j ≤ cu_N u 2 ∧ lv_has ls 5 [(0, .ref (a 0)), (1, .int t1), (2, .int t2), (3, .int (c_ex u t1 t2 j)), (4, .int (nI j))]) ?_ (0) ls ⟨Nat.zero_le _, lv_sub hl [2, 3, 4, 1, 0] rfl⟩
  clear hl
  intro j ls hI ih
  obtain ⟨hI, hl⟩ := hI
  refine lv_iload hx hb dX5_export_5 (lv_at hl 4 rfl) ?_
  refine lv_aload_n hx hb dX5_export_7 rfl (lv_at hl 0 rfl) ?_
  refine va_get (D := (dC, dI)) (ci := 5) (v := .ref (a 3)) (C := RX5) (T := TX5) (N := 6) hx hb htg inX5 hown hK hP 0 (wC_g0 a k _) rfl 2 (by decide) (htg _ q_162) (fun _ h9 => h9) rfl dX5_export_8 ?_
  refine va_get (D := (dC, dI)) (ci := 1) (v := .int (nI (cu_N u 2))) (C := RX1) (T := TX1) (N := 4) hx hb htg inX1 hown hK hP 3 (wC_g3 a k _) rfl 1 (by decide) (htg _ q_99) (fun _ h9 => h9) rfl dX5_export_11 ?_
  refine nb_ge (a := j) (b := (cu_N u 2)) (tgt := 44) hx hb (by omega) (by omega) rfl rfl dX5_export_14 (by decide) (fun c_14 => ?_) (fun c_14 => ?_)
  · refine lv_iload_n hx hb dX5_export_44 rfl (lv_at hl 3 rfl) ?_
    exact W.iret (v := c_ex u t1 t2 j) hx hb hr (fun t9 ht9 hW9 => ⟨_, rfl, (by rw [show cu_N u 2 = j by omega]), ht9⟩) (fun _ h => by cases h) dX5_export_45
  · refine lv_aload_n hx hb dX5_export_17 rfl (lv_at hl 0 rfl) ?_
    refine va_get (D := (dC, dI)) (ci := 5) (v := .ref (a 3)) (C := RX5) (T := TX5) (N := 6) hx hb htg inX5 hown hK hP 0 (wC_g0 a k _) rfl 2 (by decide) (htg _ q_162) (fun _ h9 => h9) rfl dX5_export_18 ?_
    refine lv_iload_n hx hb dX5_export_21 rfl (lv_at hl 3 rfl) ?_
    refine lv_aload_n hx hb dX5_export_22 rfl (lv_at hl 0 rfl) ?_
    refine va_get (D := (dC, dI)) (ci := 5) (v := .ref (a 3)) (C := RX5) (T := TX5) (N := 6) hx hb htg inX5 hown hK hP 0 (wC_g0 a k _) rfl 2 (by decide) (htg _ q_162) (fun _ h9 => h9) rfl dX5_export_23 ?_
    refine va_get (D := (dC, dI)) (ci := 1) (v := .ref (a 18)) (C := RX1) (T := TX1) (N := 4) hx hb htg inX1 hown hK hP 3 (wC_g3 a k _) rfl 0 (by decide) (htg _ q_97) (fun _ h9 => h9) rfl dX5_export_26 ?_
    refine lv_iload hx hb dX5_export_29 (lv_at hl 4 rfl) ?_
    refine va_iald hx hb hK hP 18 0 (wC_g18 a k _) rfl (vp_in_nI (n := j) (N := 200) (by omega) (by decide)) dX5_export_31 ?_
    refine wtopi (nI (cu_F u 6 j)) (congrArg (fun j9 => nI (cu_F u 6 j9)) (nI_clamp (n := j) (Nat.lt_trans (m := 200) (by omega) (by decide)))) ?_
    refine lv_iload_n hx hb dX5_export_32 rfl (lv_at hl 1 rfl) ?_
    refine lv_iload_n hx hb dX5_export_33 rfl (lv_at hl 2 rfl) ?_
    refine vp_callSi (W.runV (As := [.int (c_ex u t1 t2 j), .int (nI (cu_F u 6 j)), .int t1, .int t2]) (rest := []) ⟨hx, hb, hml, hown, hts⟩ (c_X1_sumWithin l dC dI a k u h (c_ex u t1 t2 j) (cu_F u 6 j) (ho j c_14) t1 t2) (cwV 4 hts (wG_V wG_c q_209 q_210 q_211 q_4 q_212) rfl rfl rfl (by decide +kernel) ⟨Nat.le_of_ble_eq_true rfl, Nat.le_of_ble_eq_true rfl⟩) (w_roV hK hP (ci := 1) (q0 := 3) rfl (wC_g3 a k _) rfl) rfl rfl hl.1 rfl (lv_room (Nat.le_of_ble_eq_true rfl)) dX5_export_34 ⟨Nat.le_of_ble_eq_true rfl, Nat.le_of_ble_eq_true rfl⟩) (fun r_1 hr_1 => ?_)
    subst hr_1
    refine lv_istore_n (lv' := [(3, .int (c_ex u t1 t2 (j + 1))), (0, .ref (a 0)), (1, .int t1), (2, .int t2), (4, .int (nI j))]) hx hb dX5_export_37 rfl hl (by decide) rfl (fun ls hl => ?_)
    refine lv_iinc (v := nI (j + 1)) (lv' := [(4, .int (nI (j + 1))), (3, .int (c_ex u t1 t2 (j + 1))), (0, .ref (a 0)), (1, .int t1), (2, .int t2)]) hx hb dX5_export_38 hl (k := 4) rfl (nI_1 j) (by decide) rfl (fun ls hl => ?_)
    refine lv_goto (tgt := 5) hx hb dX5_export_41 (by decide) ?_
    exact ih (j + 1) ls (by omega) ⟨by omega, lv_sub hl [2, 3, 4, 1, 0] rfl⟩
set_option maxHeartbeats 4000000 in
set_option maxRecDepth 100000 in
theorem c_X5_verify (l : Launch) (dC : Nat → ClassId) (dI : Nat → Nat → Nat) (a : Nat → Nat) (k : c_K) (u : c_St) (h : c_ok u) : Met l yX5_verify wsX5_verify ({ frames := 3, cells := 0, slots := 0, locals := 71 }) (va_Pc [.ref (a 0)] (w_ro (dC, dI) vwCl (wC a k u) (tC k))) (vp_Si (fun r => r = iI (c_vf u (cu_N u 0)))) 0 0 (fun _ => False) := by
  have h20 := h.1
  refine Met.ofW (cc := cX5_verify) (maxL := 2) (ret := (some .int)) (by decide) rfl ?_
  intro p e s m args below meth c s₁ B hml hv
  obtain ⟨rfl, hP, hK⟩ := hv
  have hx := B.exec
  have hb := B.bytes
  have hr := B.returns
  have hts := atoms_spec (ws := wsX5_verify) B.pre
  have htg : ∀ w ∈ wG, w.before _ s = true := fun w h => hts w (List.mem_cons_of_mem _ h)
  have hown : s.vm.findClass RX5 = some m.cls := findClass_of_methodNamed B.named
  have hlocks := B.notSynchronized
  have hl := lv_entry ([.ref (a 0)]) (n := 2) (Nat.le_of_ble_eq_true rfl)
  rw [lg_entry_eq]
  generalize (lg_sl ([.ref (a 0)]) ++ List.replicate (2 - (lg_sl ([.ref (a 0)])).length) Slot.unset).toArray = ls at hl ⊢
  have hl : lv_has ls 2 [(0, .ref (a 0))] := hl
  refine lv_iconst (v := 0) hx hb dX5_verify_0 (by decide) ?_
  refine lv_istore_n (lv' := [(1, .int 0), (0, .ref (a 0))]) hx hb dX5_verify_1 rfl hl (by decide) rfl (fun ls hl => ?_)
  refine w_loop (fun j : Nat => cu_N u 0 - j) (fun j ls => (j ≤ cu_N u 0 ∧ c_vf u j = -1) ∧ lv_has ls 2 [(0, .ref (a 0)), (1, .int (nI j))]) ?_ (0) ls ⟨⟨Nat.zero_le _, rfl⟩, lv_sub hl [1, 0] rfl⟩
  clear hl
  intro j ls hI ih
  obtain ⟨hI, hl⟩ := hI
  refine lv_iload_n hx hb dX5_verify_2 rfl (lv_at hl 1 rfl) ?_
  refine lv_aload_n hx hb dX5_verify_3 rfl (lv_at hl 0 rfl) ?_
  refine va_get (D := (dC, dI)) (ci := 5) (v := .ref (a 1)) (C := RX5) (T := TX5) (N := 6) hx hb htg inX5 hown hK hP 0 (wC_g0 a k _) rfl 0 (by decide) (htg _ q_160) (fun _ h9 => h9) rfl dX5_verify_4 ?_
  refine va_get (D := (dC, dI)) (ci := 4) (v := .int (nI (cu_N u 0))) (C := RX4) (T := TX4) (N := 9) hx hb htg inX4 hown hK hP 1 (wC_g1 a k _) rfl 8 (by decide) (htg _ q_46) (fun _ h9 => h9) rfl dX5_verify_7 ?_
  refine nb_ge (a := j) (b := (cu_N u 0)) (tgt := 53) hx hb (by omega) (by omega) rfl rfl dX5_verify_10 (by decide) (fun c_10 => ?_) (fun c_10 => ?_)
  · refine lv_iconst (v := (-1)) hx hb dX5_verify_53 (by decide) ?_
    exact W.iret (v := (-1)) hx hb hr (fun t9 ht9 hW9 => ⟨_, rfl, (show (-1 : Int32) = iI (c_vf u (cu_N u 0)) from by rw [show cu_N u 0 = j by omega, hI.2]; rfl), ht9⟩) (fun _ h => by cases h) dX5_verify_54
  · refine lv_aload_n hx hb dX5_verify_13 rfl (lv_at hl 0 rfl) ?_
    refine va_get (D := (dC, dI)) (ci := 5) (v := .ref (a 1)) (C := RX5) (T := TX5) (N := 6) hx hb htg inX5 hown hK hP 0 (wC_g0 a k _) rfl 0 (by decide) (htg _ q_160) (fun _ h9 => h9) rfl dX5_verify_14 ?_
    refine va_get (D := (dC, dI)) (ci := 4) (v := .ref (a 14)) (C := RX4) (T := TX4) (N := 9) hx hb htg inX4 hown hK hP 1 (wC_g1 a k _) rfl 7 (by decide) (htg _ q_44) (fun _ h9 => h9) rfl dX5_verify_17 ?_
    refine lv_iload_n hx hb dX5_verify_20 rfl (lv_at hl 1 rfl) ?_
    refine va_zald hx hb hK hP 14 2 (wC_g14 a k _) rfl (vp_in_nI (n := j) (N := 200) (by omega) (by decide)) dX5_verify_21 ?_
    refine wtopi (bI (cu_B u 0 j)) (congrArg (fun j9 => bI (cu_B u 0 j9)) (nI_clamp (n := j) (Nat.lt_trans (m := 200) (by omega) (by decide)))) ?_
    refine bz_eq (a := (cu_B u 0 j)) (tgt := 47) hx hb dX5_verify_22 (by decide) (fun c_22 => ?_) (fun c_22 => ?_)
    · refine lv_iinc (v := nI (j + 1)) (lv' := [(1, .int (nI (j + 1))), (0, .ref (a 0))]) hx hb dX5_verify_47 hl (k := 1) rfl (nI_1 j) (by decide) rfl (fun ls hl => ?_)
      refine lv_goto (tgt := 2) hx hb dX5_verify_50 (by decide) ?_
      exact ih (j + 1) ls (by omega) ⟨⟨by omega, c_vf_n hI.2 (fun z => by rw [c_22] at z; cases z.1)⟩, lv_sub hl [1, 0] rfl⟩
    · refine lv_aload_n hx hb dX5_verify_25 rfl (lv_at hl 0 rfl) ?_
      refine va_get (D := (dC, dI)) (ci := 5) (v := .ref (a 1)) (C := RX5) (T := TX5) (N := 6) hx hb htg inX5 hown hK hP 0 (wC_g0 a k _) rfl 0 (by decide) (htg _ q_160) (fun _ h9 => h9) rfl dX5_verify_26 ?_
      refine lv_iload_n hx hb dX5_verify_29 rfl (lv_at hl 1 rfl) ?_
      refine vp_callSi (W.runV (As := [.int (nI j)]) (rest := []) ⟨hx, hb, hml, hown, hts⟩ (c_X4_sumNow l dC dI a k u j (by omega) (h.2.2.1 j (by omega)).2.2.2.1) (cwV 1 hts (wG_V wG_c q_226 q_227 q_228 q_2 q_229) rfl rfl rfl (by decide +kernel) ⟨Nat.le_of_ble_eq_true rfl, Nat.le_of_ble_eq_true rfl⟩) (w_roV hK hP (ci := 4) (q0 := 1) rfl (wC_g1 a k _) rfl) rfl rfl hl.1 rfl (lv_room (Nat.le_of_ble_eq_true rfl)) dX5_verify_30 ⟨Nat.le_of_ble_eq_true rfl, Nat.le_of_ble_eq_true rfl⟩) (fun r_1 hr_1 => ?_)
      subst hr_1
      refine lv_aload_n hx hb dX5_verify_33 rfl (lv_at hl 0 rfl) ?_
      refine va_get (D := (dC, dI)) (ci := 5) (v := .ref (a 1)) (C := RX5) (T := TX5) (N := 6) hx hb htg inX5 hown hK hP 0 (wC_g0 a k _) rfl 0 (by decide) (htg _ q_160) (fun _ h9 => h9) rfl dX5_verify_34 ?_
      refine va_get (D := (dC, dI)) (ci := 4) (v := .ref (a 13)) (C := RX4) (T := TX4) (N := 9) hx hb htg inX4 hown hK hP 1 (wC_g1 a k _) rfl 6 (by decide) (htg _ q_42) (fun _ h9 => h9) rfl dX5_verify_37 ?_
      refine lv_iload_n hx hb dX5_verify_40 rfl (lv_at hl 1 rfl) ?_
      refine va_iald hx hb hK hP 13 0 (wC_g13 a k _) rfl (vp_in_nI (n := j) (N := 200) (by omega) (by decide)) dX5_verify_41 ?_
      refine wtopi (cu_G u 0 j) (congrArg (fun j9 => cu_G u 0 j9) (nI_clamp (n := j) (Nat.lt_trans (m := 200) (by omega) (by decide)))) ?_
      refine lv_icmp_eq (tgt := 47) hx hb dX5_verify_42 (by decide) (fun c_42 => ?_) (fun c_42 => ?_)
      · refine lv_iinc (v := nI (j + 1)) (lv' := [(1, .int (nI (j + 1))), (0, .ref (a 0))]) hx hb dX5_verify_47 hl (k := 1) rfl (nI_1 j) (by decide) rfl (fun ls hl => ?_)
        refine lv_goto (tgt := 2) hx hb dX5_verify_50 (by decide) ?_
        exact ih (j + 1) ls (by omega) ⟨⟨by omega, c_vf_n hI.2 (fun z => z.2 c_42)⟩, lv_sub hl [1, 0] rfl⟩
      · refine lv_iload_n hx hb dX5_verify_45 rfl (lv_at hl 1 rfl) ?_
        exact W.iret (v := nI j) hx hb hr (fun t9 ht9 hW9 => ⟨_, rfl, (by rw [nI_iI, ← c_vf_y hI.2 ⟨c_22, c_42⟩ (cu_N u 0 - j - 1), show j + 1 + (cu_N u 0 - j - 1) = cu_N u 0 by omega]), ht9⟩) (fun _ h => by cases h) dX5_verify_46
