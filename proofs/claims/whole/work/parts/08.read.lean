/-! the class's reading helpers in numbers -/
def c_off (u : c_St) (s : Nat) : Int := if cu_D u 1 s = -1 then 0 else cu_D u 0 (cu_D u 1 s).toNat
def c_beg (u : c_St) (n : Nat) : Int := (cu_F u 1 n : Int) + c_off u (cu_F u 0 n)
def c_byte (b : Int64) (sh : Int32) : Int32 := (b.toUInt64 >>> (sh.toInt64.toUInt64 &&& Int64.toUInt64 63)).toInt64.toInt32 &&& 255
def c_rot (x : Int32) : Int32 := ((x <<< ((5 : Int32) &&& 31)) ||| (x.toUInt32 >>> ((27 : Int32).toUInt32 &&& Int32.toUInt32 31)).toInt32) * (-2048144789)
def c_sm (b : Int64) (L : Nat) (s : Int32) (i : Nat) : Nat → Int32
  | 0 => s
  | k + 1 => c_rot (c_sm b L s i k ^^^ c_byte b (nI (8 * (L - 1 - (i + k)))))
/-- how many of a slot's bytes are before a time -/
def c_bb (u : c_St) (n : Nat) (t : Int32) : Nat := (min (max (t.toInt - c_beg u n) 0) (cu_F u 2 n : Int)).toNat
def c_lt (u : c_St) (x y : Nat) : Bool := decide (c_beg u x < c_beg u y ∨ (c_beg u x = c_beg u y ∧ (cu_F u 0 x < cu_F u 0 y ∨ (cu_F u 0 x = cu_F u 0 y ∧ x < y))))
def c_of (u : c_St) (n : Nat) (au ai : Int32) : Bool := decide ((au = -1 ∨ au = nI (cu_F u 3 n)) ∧ (ai = -1 ∨ ai = nI (cu_F u 4 n)))
/-- what always holds of the numbers -/
def c_ok (u : c_St) : Prop := cu_N u 0 ≤ 200 ∧ cu_N u 1 ≤ 60 ∧
  (∀ n, n < cu_N u 0 → cu_F u 0 n < 10 ∧ cu_F u 1 n ≤ 9999999 ∧ 1 ≤ cu_F u 2 n ∧ cu_F u 2 n ≤ 8 ∧ cu_F u 3 n < 100 ∧ cu_F u 4 n < 50) ∧
  (∀ j, j < cu_N u 1 → cu_F u 5 j < 10 ∧ -9999999 ≤ cu_D u 0 j ∧ cu_D u 0 j ≤ 9999999) ∧
  (∀ s, s < 10 → cu_D u 1 s = -1 ∨ ∃ j : Nat, j < cu_N u 1 ∧ cu_D u 1 s = (j : Int))
theorem nI_m1 {j : Nat} (h : j < 2147483648) : nI j ≠ -1 := by
  intro q
  have h1 := congrArg Int32.toInt q
  rw [nI_toInt (by omega)] at h1
  have h2 : (-1 : Int32).toInt = -1 := by decide
  rw [h2] at h1
  omega
theorem c_off_b {u : c_St} (h : c_ok u) {s : Nat} (hs : s < 10) : -9999999 ≤ c_off u s ∧ c_off u s ≤ 9999999 := by
  obtain ⟨-, -, -, h4, h5⟩ := h
  unfold c_off
  split
  · omega
  · rename_i h9
    rcases h5 s hs with q | ⟨j, hj, q⟩
    · exact absurd q h9
    · rw [q, Int.toNat_natCast]
      exact (h4 j hj).2
theorem c_beg_b {u : c_St} (h : c_ok u) {n : Nat} (hn : n < cu_N u 0) : -9999999 ≤ c_beg u n ∧ c_beg u n ≤ 19999998 := by
  have h1 := h.2.2.1 n hn
  have h2 := c_off_b h h1.1
  unfold c_beg
  omega
theorem c_bb_le (u : c_St) (n : Nat) (t : Int32) : c_bb u n t ≤ cu_F u 2 n := by
  unfold c_bb
  omega
theorem c_bb_eq {b : Int} {L : Nat} {t : Int32} (h1 : -9999999 ≤ b) (h2 : b ≤ 19999998) (h3 : L ≤ 8) : (if iI b < (if iI (b + (L : Int)) < t then iI (b + (L : Int)) else t) then (if iI (b + (L : Int)) < t then iI (b + (L : Int)) else t) else iI b) - iI b = nI (min (max (t.toInt - b) 0) (L : Int)).toNat := by
  have ht := i32_b t
  obtain ⟨z, hz⟩ : ∃ z, z = t.toInt := ⟨_, rfl⟩
  have et : t = iI z := by rw [hz]; exact iI_self t
  rw [← hz] at ht ⊢
  rw [et]
  have e1 : (iI (b + (L : Int)) < iI z) ↔ b + L < z := iI_lt (by omega) (by omega) (by omega) (by omega)
  by_cases c1 : b + (L : Int) < z
  · rw [if_pos (e1.mpr c1)]
    have e2 : (iI b < iI (b + (L : Int))) ↔ b < b + L := iI_lt (by omega) (by omega) (by omega) (by omega)
    by_cases c2 : b < b + (L : Int)
    · rw [if_pos (e2.mpr c2), iI_sub, nI_iI]
      congr 1
      omega
    · rw [if_neg (fun q => c2 (e2.mp q)), iI_sub, nI_iI]
      congr 1
      omega
  · rw [if_neg (fun q => c1 (e1.mp q))]
    have e2 : (iI b < iI z) ↔ b < z := iI_lt (by omega) (by omega) (by omega) (by omega)
    by_cases c2 : b < z
    · rw [if_pos (e2.mpr c2), iI_sub, nI_iI]
      congr 1
      omega
    · rw [if_neg (fun q => c2 (e2.mp q)), iI_sub, nI_iI]
      congr 1
      omega
theorem c_wi_eq {a b : Nat} (ha : a ≤ 8) (hb : b ≤ 8) : (if (0 : Int32) < nI a - nI b then nI a - nI b else 0) = nI (a - b) := by
  rw [nI_iI a, nI_iI b, iI_sub, nI_iI (a - b)]
  have e0 : (0 : Int32) = iI 0 := rfl
  rw [e0]
  have e2 : (iI 0 < iI ((a : Int) - b)) ↔ 0 < (a : Int) - b := iI_lt (by omega) (by omega) (by omega) (by omega)
  by_cases c2 : 0 < (a : Int) - b
  · rw [if_pos (e2.mpr c2)]
    congr 1
    omega
  · rw [if_neg (fun q => c2 (e2.mp q))]
    congr 1
    omega

set_option maxHeartbeats 4000000 in
set_option maxRecDepth 100000 in
theorem c_X4_shiftOf (l : Launch) (dC : Nat → ClassId) (dI : Nat → Nat → Nat) (a : Nat → Nat) (k : c_K) (u : c_St) (n i : Nat) (hn : n < 200) (hi : i < cu_F u 2 n) : Met l yX4_shiftOf wsX4_shiftOf ({ frames := 0, cells := 0, slots := 0, locals := 0 }) (va_Pc [.ref (a 1), .int (nI n), .int (nI i)] (w_ro (dC, dI) vwCl (wC a k u) (tC k))) (vp_Si (fun r => r = nI (8 * (cu_F u 2 n - 1 - i)))) 0 0 (fun _ => False) := by
  refine Met.ofW (cc := cX4_shiftOf) (maxL := 3) (ret := (some .int)) (by decide) rfl ?_
  intro p e s m args below meth c s₁ B hml hv
  obtain ⟨rfl, hP, hK⟩ := hv
  have hx := B.exec
  have hb := B.bytes
  have hr := B.returns
  have hts := atoms_spec (ws := wsX4_shiftOf) B.pre
  have htg : ∀ w ∈ wG, w.before _ s = true := fun w h => hts w (List.mem_cons_of_mem _ h)
  have hown : s.vm.findClass RX4 = some m.cls := findClass_of_methodNamed B.named
  have hlocks := B.notSynchronized
  have hl := lv_entry ([.ref (a 1), .int (nI n), .int (nI i)]) (n := 3) (Nat.le_of_ble_eq_true rfl)
  rw [lg_entry_eq]
  generalize (lg_sl ([.ref (a 1), .int (nI n), .int (nI i)]) ++ List.replicate (3 - (lg_sl ([.ref (a 1), .int (nI n), .int (nI i)])).length) Slot.unset).toArray = ls at hl ⊢
  have hl : lv_has ls 3 [(0, .ref (a 1)), (1, .int (nI n)), (2, .int (nI i))] := hl
  refine lv_bipush (v := 8) hx hb dX4_shiftOf_0 (by decide) ?_
  refine lv_aload_n hx hb dX4_shiftOf_2 rfl (lv_at hl 0 rfl) ?_
  refine va_get (D := (dC, dI)) (ci := 4) (v := .ref (a 9)) (C := RX4) (T := TX4) (N := 9) hx hb htg inX4 hown hK hP 1 (wC_g1 a k _) rfl 2 (by decide) (htg _ q_34) (fun _ h9 => h9) rfl dX4_shiftOf_3 ?_
  refine lv_iload_n hx hb dX4_shiftOf_6 rfl (lv_at hl 1 rfl) ?_
  refine va_iald hx hb hK hP 9 0 (wC_g9 a k _) rfl (vp_in_nI (n := n) (N := 200) (by omega) (by decide)) dX4_shiftOf_7 ?_
  refine wtopi (nI (cu_F u 2 n)) (congrArg (fun j9 => nI (cu_F u 2 j9)) (nI_clamp (n := n) (Nat.lt_trans (m := 200) (by omega) (by decide)))) ?_
  refine lv_iconst (v := 1) hx hb dX4_shiftOf_8 (by decide) ?_
  refine lv_isub hx hb dX4_shiftOf_9 ?_
  refine wtopi (y := nI (cu_F u 2 n - 1)) (pk_sub (a := cu_F u 2 n) (b := 1) (by omega)) ?_
  refine lv_iload_n hx hb dX4_shiftOf_10 rfl (lv_at hl 2 rfl) ?_
  refine lv_isub hx hb dX4_shiftOf_11 ?_
  refine wtopi (y := nI (cu_F u 2 n - 1 - i)) (pk_sub (a := cu_F u 2 n - 1) (b := i) (by omega)) ?_
  refine lv_imul hx hb dX4_shiftOf_12 ?_
  refine wtopi (y := nI (8 * (cu_F u 2 n - 1 - i))) (pk_mul 8 (cu_F u 2 n - 1 - i)) ?_
  exact W.iret (v := nI (8 * (cu_F u 2 n - 1 - i))) hx hb hr (fun t9 ht9 hW9 => ⟨_, rfl, rfl, ht9⟩) (fun _ h => by cases h) dX4_shiftOf_13
set_option maxHeartbeats 4000000 in
set_option maxRecDepth 100000 in
theorem c_X4_sumOn (l : Launch) (dC : Nat → ClassId) (dI : Nat → Nat → Nat) (a : Nat → Nat) (k : c_K) (u : c_St) (s0 : Int32) (n i en : Nat) (hn : n < 200) (hi : i ≤ 8) (he : en ≤ cu_F u 2 n) (h8 : cu_F u 2 n ≤ 8) : Met l yX4_sumOn wsX4_sumOn ({ frames := 1, cells := 0, slots := 0, locals := 22 }) (va_Pc [.ref (a 1), .int s0, .int (nI n), .int (nI i), .int (nI en)] (w_ro (dC, dI) vwCl (wC a k u) (tC k))) (vp_Si (fun r => r = c_sm (cu_L u n) (cu_F u 2 n) s0 i (en - i))) 0 0 (fun _ => False) := by
  refine Met.ofW (cc := cX4_sumOn) (maxL := 9) (ret := (some .int)) (by decide) rfl ?_
  intro p e s m args below meth c s₁ B hml hv
  obtain ⟨rfl, hP, hK⟩ := hv
  have hx := B.exec
  have hb := B.bytes
  have hr := B.returns
  have hts := atoms_spec (ws := wsX4_sumOn) B.pre
  have htg : ∀ w ∈ wG, w.before _ s = true := fun w h => hts w (List.mem_cons_of_mem _ h)
  have hown : s.vm.findClass RX4 = some m.cls := findClass_of_methodNamed B.named
  have hlocks := B.notSynchronized
  have hl := lv_entry ([.ref (a 1), .int s0, .int (nI n), .int (nI i), .int (nI en)]) (n := 9) (Nat.le_of_ble_eq_true rfl)
  rw [lg_entry_eq]
  generalize (lg_sl ([.ref (a 1), .int s0, .int (nI n), .int (nI i), .int (nI en)]) ++ List.replicate (9 - (lg_sl ([.ref (a 1), .int s0, .int (nI n), .int (nI i), .int (nI en)])).length) Slot.unset).toArray = ls at hl ⊢
  have hl : lv_has ls 9 [(0, .ref (a 1)), (1, .int s0), (2, .int (nI n)), (3, .int (nI i)), (4, .int (nI en))] := hl
  refine lv_iload_n hx hb dX4_sumOn_0 rfl (lv_at hl 1 rfl) ?_
  refine lv_istore (lv' := [(5, .int s0), (0, .ref (a 1)), (1, .int s0), (2, .int (nI n)), (3, .int (nI i)), (4, .int (nI en))]) hx hb dX4_sumOn_1 hl (by decide) rfl (fun ls hl => ?_)
  refine lv_iload_n hx hb dX4_sumOn_3 rfl (lv_at hl 4 rfl) ?_
  refine lv_istore (lv' := [(6, .int (nI i)), (5, .int s0), (0, .ref (a 1)), (1, .int s0), (2, .int (nI n)), (3, .int (nI i)), (4, .int (nI en))]) hx hb dX4_sumOn_4 hl (by decide) rfl (fun ls hl => ?_)
  refine w_loop (fun j : Nat => en - i - j) (fun j ls => j ≤ en - i ∧ lv_has ls 9 [(0, .ref (a 1)), (1, .int s0), (2, .int (nI n)), (3, .int (nI i)), (4, .int (nI en)), (5, .int (c_sm (cu_L u n) (cu_F u 2 n) s0 i j)), (6, .int (nI (i + j)))]) ?_ 0 ls ⟨Nat.zero_le _, lv_sub hl [2, 3, 4, 5, 6, 1, 0] rfl⟩
  intro j ls hI ih
  obtain ⟨hj, hl⟩ := hI
  refine lv_iload hx hb dX4_sumOn_6 (lv_at hl 6 rfl) ?_
  refine lv_iload hx hb dX4_sumOn_8 (lv_at hl 4 rfl) ?_
  refine nb_ge (a := (i + j)) (b := en) (tgt := 62) hx hb (by omega) (by omega) rfl rfl dX4_sumOn_10 (by decide) (fun c_10 => ?_) (fun c_10 => ?_)
  · refine lv_iload hx hb dX4_sumOn_62 (lv_at hl 5 rfl) ?_
    exact W.iret (v := c_sm (cu_L u n) (cu_F u 2 n) s0 i j) hx hb hr (fun t9 ht9 hW9 => ⟨_, rfl, (by rw [show en - i = j by omega]), ht9⟩) (fun _ h => by cases h) dX4_sumOn_64
  · refine lv_aload_n hx hb dX4_sumOn_13 rfl (lv_at hl 0 rfl) ?_
    refine va_get (D := (dC, dI)) (ci := 4) (v := .ref (a 10)) (C := RX4) (T := TX4) (N := 9) hx hb htg inX4 hown hK hP 1 (wC_g1 a k _) rfl 3 (by decide) (htg _ q_37) (fun _ h9 => h9) rfl dX4_sumOn_14 ?_
    refine lv_iload_n hx hb dX4_sumOn_17 rfl (lv_at hl 2 rfl) ?_
    refine va_lald hx hb hK hP 10 1 (wC_g10 a k _) rfl (vp_in_nI (n := n) (N := 200) (by omega) (by decide)) dX4_sumOn_18 ?_
    refine wtopl (cu_L u n) (congrArg (fun j9 => cu_L u j9) (nI_clamp (n := n) (Nat.lt_trans (m := 200) (by omega) (by decide)))) ?_
    refine lv_aload_n hx hb dX4_sumOn_19 rfl (lv_at hl 0 rfl) ?_
    refine lv_iload_n hx hb dX4_sumOn_20 rfl (lv_at hl 2 rfl) ?_
    refine lv_iload hx hb dX4_sumOn_21 (lv_at hl 6 rfl) ?_
    refine vp_callSi (W.runV (As := [.int (nI n), .int (nI (i + j))]) (rest := [.long (cu_L u n)]) ⟨hx, hb, hml, hown, hts⟩ (c_X4_shiftOf l dC dI a k u n (i + j) hn (by omega)) (cwV 2 hts (wG_V wG_c q_217 q_219 p_1 q_2 q_220) rfl rfl rfl (by decide +kernel) ⟨Nat.le_of_ble_eq_true rfl, Nat.le_of_ble_eq_true rfl⟩) (w_roV hK hP (ci := 4) (q0 := 1) rfl (wC_g1 a k _) rfl) rfl rfl hl.1 rfl (lv_room (Nat.le_of_ble_eq_true rfl)) dX4_sumOn_23 ⟨Nat.le_of_ble_eq_true rfl, Nat.le_of_ble_eq_true rfl⟩) (fun r_1 hr_1 => ?_)
    subst hr_1
    refine lv_lushr hx hb dX4_sumOn_26 rfl ?_
    refine lv_l2i hx hb dX4_sumOn_27 rfl ?_
    refine lv_sipush (v := 255) hx hb dX4_sumOn_28 (by decide) ?_
    refine lv_iand hx hb dX4_sumOn_31 ?_
    refine wtopi (y := c_byte (cu_L u n) (nI (8 * (cu_F u 2 n - 1 - (i + j))))) rfl ?_
    refine lv_istore (lv' := [(7, .int (c_byte (cu_L u n) (nI (8 * (cu_F u 2 n - 1 - (i + j)))))), (0, .ref (a 1)), (1, .int s0), (2, .int (nI n)), (3, .int (nI i)), (4, .int (nI en)), (5, .int (c_sm (cu_L u n) (cu_F u 2 n) s0 i j)), (6, .int (nI (i + j)))]) hx hb dX4_sumOn_32 hl (by decide) rfl (fun ls hl => ?_)
    refine lv_iload hx hb dX4_sumOn_34 (lv_at hl 6 rfl) ?_
    refine lv_iload hx hb dX4_sumOn_36 (lv_at hl 0 rfl) ?_
    refine lv_ixor hx hb dX4_sumOn_38 ?_
    refine lv_istore (lv' := [(8, .int ((c_sm (cu_L u n) (cu_F u 2 n) s0 i j) ^^^ (c_byte (cu_L u n) (nI (8 * (cu_F u 2 n - 1 - (i + j))))))), (7, .int (c_byte (cu_L u n) (nI (8 * (cu_F u 2 n - 1 - (i + j)))))), (0, .ref (a 1)), (1, .int s0), (2, .int (nI n)), (3, .int (nI i)), (4, .int (nI en)), (5, .int (c_sm (cu_L u n) (cu_F u 2 n) s0 i j)), (6, .int (nI (i + j)))]) hx hb dX4_sumOn_39 hl (by decide) rfl (fun ls hl => ?_)
    refine lv_iload hx hb dX4_sumOn_41 (lv_at hl 0 rfl) ?_
    refine lv_iconst (v := 5) hx hb dX4_sumOn_43 (by decide) ?_
    refine lv_ishl hx hb dX4_sumOn_44 ?_
    refine lv_iload hx hb dX4_sumOn_45 (lv_at hl 0 rfl) ?_
    refine lv_bipush (v := 27) hx hb dX4_sumOn_47 (by decide) ?_
    refine lv_iushr hx hb dX4_sumOn_49 rfl ?_
    refine lv_ior hx hb dX4_sumOn_50 ?_
    refine lv_ldc (v := (-2048144789)) hx hb hown (htg _ q_221) dX4_sumOn_51 ?_
    refine lv_imul hx hb dX4_sumOn_53 ?_
    refine wtopi (y := c_sm (cu_L u n) (cu_F u 2 n) s0 i (j + 1)) rfl ?_
    refine lv_istore (lv' := [(5, .int (c_sm (cu_L u n) (cu_F u 2 n) s0 i (j + 1))), (8, .int ((c_sm (cu_L u n) (cu_F u 2 n) s0 i j) ^^^ (c_byte (cu_L u n) (nI (8 * (cu_F u 2 n - 1 - (i + j))))))), (7, .int (c_byte (cu_L u n) (nI (8 * (cu_F u 2 n - 1 - (i + j)))))), (0, .ref (a 1)), (1, .int s0), (2, .int (nI n)), (3, .int (nI i)), (4, .int (nI en)), (6, .int (nI (i + j)))]) hx hb dX4_sumOn_54 hl (by decide) rfl (fun ls hl => ?_)
    refine lv_iinc (v := nI ((i + j) + 1)) (lv' := [(6, .int (nI ((i + j) + 1))), (5, .int (c_sm (cu_L u n) (cu_F u 2 n) s0 i (j + 1))), (8, .int ((c_sm (cu_L u n) (cu_F u 2 n) s0 i j) ^^^ (c_byte (cu_L u n) (nI (8 * (cu_F u 2 n - 1 - (i + j))))))), (7, .int (c_byte (cu_L u n) (nI (8 * (cu_F u 2 n - 1 - (i + j)))))), (0, .ref (a 1)), (1, .int s0), (2, .int (nI n)), (3, .int (nI i)), (4, .int (nI en))]) hx hb dX4_sumOn_56 hl (k := 8) rfl (nI_1 (i + j)) (by decide) rfl (fun ls hl => ?_)
    refine lv_goto (tgt := 6) hx hb dX4_sumOn_59 (by decide) ?_
    exact ih (j + 1) ls (by omega) ⟨by omega, lv_sub hl [4, 5, 6, 7, 8, 1, 0] rfl⟩
set_option maxHeartbeats 4000000 in
set_option maxRecDepth 100000 in
theorem c_X4_sumNow (l : Launch) (dC : Nat → ClassId) (dI : Nat → Nat → Nat) (a : Nat → Nat) (k : c_K) (u : c_St) (n : Nat) (hn : n < 200) (h8 : cu_F u 2 n ≤ 8) : Met l yX4_sumNow wsX4_sumNow ({ frames := 2, cells := 0, slots := 0, locals := 50 }) (va_Pc [.ref (a 1), .int (nI n)] (w_ro (dC, dI) vwCl (wC a k u) (tC k))) (vp_Si (fun r => r = c_sm (cu_L u n) (cu_F u 2 n) 0 0 (cu_F u 2 n))) 0 0 (fun _ => False) := by
  refine Met.ofW (cc := cX4_sumNow) (maxL := 2) (ret := (some .int)) (by decide) rfl ?_
  intro p e s m args below meth c s₁ B hml hv
  obtain ⟨rfl, hP, hK⟩ := hv
  have hx := B.exec
  have hb := B.bytes
  have hr := B.returns
  have hts := atoms_spec (ws := wsX4_sumNow) B.pre
  have htg : ∀ w ∈ wG, w.before _ s = true := fun w h => hts w (List.mem_cons_of_mem _ h)
  have hown : s.vm.findClass RX4 = some m.cls := findClass_of_methodNamed B.named
  have hlocks := B.notSynchronized
  have hl := lv_entry ([.ref (a 1), .int (nI n)]) (n := 2) (Nat.le_of_ble_eq_true rfl)
  rw [lg_entry_eq]
  generalize (lg_sl ([.ref (a 1), .int (nI n)]) ++ List.replicate (2 - (lg_sl ([.ref (a 1), .int (nI n)])).length) Slot.unset).toArray = ls at hl ⊢
  have hl : lv_has ls 2 [(0, .ref (a 1)), (1, .int (nI n))] := hl
  refine lv_aload_n hx hb dX4_sumNow_0 rfl (lv_at hl 0 rfl) ?_
  refine lv_iconst (v := 0) hx hb dX4_sumNow_1 (by decide) ?_
  refine lv_iload_n hx hb dX4_sumNow_2 rfl (lv_at hl 1 rfl) ?_
  refine lv_iconst (v := 0) hx hb dX4_sumNow_3 (by decide) ?_
  refine lv_aload_n hx hb dX4_sumNow_4 rfl (lv_at hl 0 rfl) ?_
  refine va_get (D := (dC, dI)) (ci := 4) (v := .ref (a 9)) (C := RX4) (T := TX4) (N := 9) hx hb htg inX4 hown hK hP 1 (wC_g1 a k _) rfl 2 (by decide) (htg _ q_34) (fun _ h9 => h9) rfl dX4_sumNow_5 ?_
  refine lv_iload_n hx hb dX4_sumNow_8 rfl (lv_at hl 1 rfl) ?_
  refine va_iald hx hb hK hP 9 0 (wC_g9 a k _) rfl (vp_in_nI (n := n) (N := 200) (by omega) (by decide)) dX4_sumNow_9 ?_
  refine wtopi (nI (cu_F u 2 n)) (congrArg (fun j9 => nI (cu_F u 2 j9)) (nI_clamp (n := n) (Nat.lt_trans (m := 200) (by omega) (by decide)))) ?_
  refine vp_callSi (W.runV (As := [.int 0, .int (nI n), .int 0, .int (nI (cu_F u 2 n))]) (rest := []) ⟨hx, hb, hml, hown, hts⟩ (c_X4_sumOn l dC dI a k u 0 n 0 (cu_F u 2 n) hn (by omega) (Nat.le_refl _) h8) (cwV 4 hts (wG_V wG_c q_230 q_214 q_215 q_2 q_216) rfl rfl rfl (by decide +kernel) ⟨Nat.le_of_ble_eq_true rfl, Nat.le_of_ble_eq_true rfl⟩) (w_roV hK hP (ci := 4) (q0 := 1) rfl (wC_g1 a k _) rfl) rfl rfl hl.1 rfl (lv_room (Nat.le_of_ble_eq_true rfl)) dX4_sumNow_10 ⟨Nat.le_of_ble_eq_true rfl, Nat.le_of_ble_eq_true rfl⟩) (fun r_1 hr_1 => ?_)
  subst hr_1
  exact W.iret (v := c_sm (cu_L u n) (cu_F u 2 n) 0 0 (cu_F u 2 n - 0)) hx hb hr (fun t9 ht9 hW9 => ⟨_, rfl, rfl, ht9⟩) (fun _ h => by cases h) dX4_sumNow_13
set_option maxHeartbeats 4000000 in
set_option maxRecDepth 100000 in
theorem c_X3_offsetOf (l : Launch) (dC : Nat → ClassId) (dI : Nat → Nat → Nat) (a : Nat → Nat) (k : c_K) (u : c_St) (sc : Nat) (hs : sc < 10) (hd : cu_D u 1 sc = -1 ∨ ∃ j : Nat, j < 60 ∧ cu_D u 1 sc = (j : Int)) : Met l yX3_offsetOf wsX3_offsetOf ({ frames := 0, cells := 0, slots := 0, locals := 0 }) (va_Pc [.ref (a 2), .int (nI sc)] (w_ro (dC, dI) vwCl (wC a k u) (tC k))) (vp_Si (fun r => r = iI (c_off u sc))) 0 0 (fun _ => False) := by
  refine Met.ofW (cc := cX3_offsetOf) (maxL := 3) (ret := (some .int)) (by decide) rfl ?_
  intro p e s m args below meth c s₁ B hml hv
  obtain ⟨rfl, hP, hK⟩ := hv
  have hx := B.exec
  have hb := B.bytes
  have hr := B.returns
  have hts := atoms_spec (ws := wsX3_offsetOf) B.pre
  have htg : ∀ w ∈ wG, w.before _ s = true := fun w h => hts w (List.mem_cons_of_mem _ h)
  have hown : s.vm.findClass RX3 = some m.cls := findClass_of_methodNamed B.named
  have hlocks := B.notSynchronized
  have hl := lv_entry ([.ref (a 2), .int (nI sc)]) (n := 3) (Nat.le_of_ble_eq_true rfl)
  rw [lg_entry_eq]
  generalize (lg_sl ([.ref (a 2), .int (nI sc)]) ++ List.replicate (3 - (lg_sl ([.ref (a 2), .int (nI sc)])).length) Slot.unset).toArray = ls at hl ⊢
  have hl : lv_has ls 3 [(0, .ref (a 2)), (1, .int (nI sc))] := hl
  rcases hd with hd | ⟨j, hj, hd⟩
  · refine lv_aload_n hx hb dX3_offsetOf_0 rfl (lv_at hl 0 rfl) ?_
    refine va_get (D := (dC, dI)) (ci := 3) (v := .ref (a 17)) (C := RX3) (T := TX3) (N := 4) hx hb htg inX3 hown hK hP 2 (wC_g2 a k _) rfl 2 (by decide) (htg _ q_77) (fun _ h9 => h9) rfl dX3_offsetOf_1 ?_
    refine lv_iload_n hx hb dX3_offsetOf_4 rfl (lv_at hl 1 rfl) ?_
    refine va_iald hx hb hK hP 17 0 (wC_g17 a k _) rfl (vp_in_nI (n := sc) (N := 10) (by omega) (by decide)) dX3_offsetOf_5 ?_
    refine wtopi (iI (cu_D u 1 sc)) (congrArg (fun j9 => iI (cu_D u 1 j9)) (nI_clamp (n := sc) (Nat.lt_trans (m := 10) (by omega) (by decide)))) ?_
    refine wtopi (y := -1) (by rw [hd]; rfl) ?_
    refine lv_istore_n (lv' := [(2, .int (-1)), (0, .ref (a 2)), (1, .int (nI sc))]) hx hb dX3_offsetOf_6 rfl hl (by decide) rfl (fun ls hl => ?_)
    refine lv_iload_n hx hb dX3_offsetOf_7 rfl (lv_at hl 0 rfl) ?_
    refine lv_iconst (v := (-1)) hx hb dX3_offsetOf_8 (by decide) ?_
    refine lv_icmp_ne (tgt := 16) hx hb dX3_offsetOf_9 (by decide) (fun c_9 => ?_) (fun c_9 => ?_)
    · exact absurd rfl c_9
    · refine lv_iconst (v := 0) hx hb dX3_offsetOf_12 (by decide) ?_
      refine lv_goto (tgt := 22) hx hb dX3_offsetOf_13 (by decide) ?_
      exact W.iret (v := 0) hx hb hr (fun t9 ht9 hW9 => ⟨_, rfl, (by unfold c_off; rw [if_pos hd]; rfl), ht9⟩) (fun _ h => by cases h) dX3_offsetOf_22
  · refine lv_aload_n hx hb dX3_offsetOf_0 rfl (lv_at hl 0 rfl) ?_
    refine va_get (D := (dC, dI)) (ci := 3) (v := .ref (a 17)) (C := RX3) (T := TX3) (N := 4) hx hb htg inX3 hown hK hP 2 (wC_g2 a k _) rfl 2 (by decide) (htg _ q_77) (fun _ h9 => h9) rfl dX3_offsetOf_1 ?_
    refine lv_iload_n hx hb dX3_offsetOf_4 rfl (lv_at hl 1 rfl) ?_
    refine va_iald hx hb hK hP 17 0 (wC_g17 a k _) rfl (vp_in_nI (n := sc) (N := 10) (by omega) (by decide)) dX3_offsetOf_5 ?_
    refine wtopi (iI (cu_D u 1 sc)) (congrArg (fun j9 => iI (cu_D u 1 j9)) (nI_clamp (n := sc) (Nat.lt_trans (m := 10) (by omega) (by decide)))) ?_
    refine wtopi (y := nI j) (by rw [hd, nI_iI]) ?_
    refine lv_istore_n (lv' := [(2, .int (nI j)), (0, .ref (a 2)), (1, .int (nI sc))]) hx hb dX3_offsetOf_6 rfl hl (by decide) rfl (fun ls hl => ?_)
    refine lv_iload_n hx hb dX3_offsetOf_7 rfl (lv_at hl 0 rfl) ?_
    refine lv_iconst (v := (-1)) hx hb dX3_offsetOf_8 (by decide) ?_
    refine lv_icmp_ne (tgt := 16) hx hb dX3_offsetOf_9 (by decide) (fun c_9 => ?_) (fun c_9 => ?_)
    · refine lv_aload_n hx hb dX3_offsetOf_16 rfl (lv_at hl 1 rfl) ?_
      refine va_get (D := (dC, dI)) (ci := 3) (v := .ref (a 16)) (C := RX3) (T := TX3) (N := 4) hx hb htg inX3 hown hK hP 2 (wC_g2 a k _) rfl 1 (by decide) (htg _ q_76) (fun _ h9 => h9) rfl dX3_offsetOf_17 ?_
      refine lv_iload_n hx hb dX3_offsetOf_20 rfl (lv_at hl 0 rfl) ?_
      refine va_iald hx hb hK hP 16 0 (wC_g16 a k _) rfl (vp_in_nI (n := j) (N := 60) (by omega) (by decide)) dX3_offsetOf_21 ?_
      refine wtopi (iI (cu_D u 0 j)) (congrArg (fun j9 => iI (cu_D u 0 j9)) (nI_clamp (n := j) (Nat.lt_trans (m := 60) (by omega) (by decide)))) ?_
      exact W.iret (v := iI (cu_D u 0 j)) hx hb hr (fun t9 ht9 hW9 => ⟨_, rfl, (by unfold c_off; rw [if_neg (by omega), hd, Int.toNat_natCast]), ht9⟩) (fun _ h => by cases h) dX3_offsetOf_22
    · exact absurd c_9 (nI_m1 (by omega))
set_option maxHeartbeats 4000000 in
set_option maxRecDepth 100000 in
theorem c_X1_beginOf (l : Launch) (dC : Nat → ClassId) (dI : Nat → Nat → Nat) (a : Nat → Nat) (k : c_K) (u : c_St) (h : c_ok u) (n : Nat) (hn : n < cu_N u 0) : Met l yX1_beginOf wsX1_beginOf ({ frames := 1, cells := 0, slots := 0, locals := 22 }) (va_Pc [.ref (a 3), .int (nI n)] (w_ro (dC, dI) vwCl (wC a k u) (tC k))) (vp_Si (fun r => r = iI (c_beg u n))) 0 0 (fun _ => False) := by
  have hn2 := h.2.2.1 n hn
  have h20 := h.1
  have h60 := h.2.1
  have hd9 : cu_D u 1 (cu_F u 0 n) = -1 ∨ ∃ j : Nat, j < 60 ∧ cu_D u 1 (cu_F u 0 n) = (j : Int) := by
    rcases h.2.2.2.2 _ hn2.1 with q | ⟨j, q1, q2⟩
    · exact Or.inl q
    · exact Or.inr ⟨j, by omega, q2⟩
  refine Met.ofW (cc := cX1_beginOf) (maxL := 2) (ret := (some .int)) (by decide) rfl ?_
  intro p e s m args below meth c s₁ B hml hv
  obtain ⟨rfl, hP, hK⟩ := hv
  have hx := B.exec
  have hb := B.bytes
  have hr := B.returns
  have hts := atoms_spec (ws := wsX1_beginOf) B.pre
  have htg : ∀ w ∈ wG, w.before _ s = true := fun w h => hts w (List.mem_cons_of_mem _ h)
  have hown : s.vm.findClass RX1 = some m.cls := findClass_of_methodNamed B.named
  have hlocks := B.notSynchronized
  have hl := lv_entry ([.ref (a 3), .int (nI n)]) (n := 2) (Nat.le_of_ble_eq_true rfl)
  rw [lg_entry_eq]
  generalize (lg_sl ([.ref (a 3), .int (nI n)]) ++ List.replicate (2 - (lg_sl ([.ref (a 3), .int (nI n)])).length) Slot.unset).toArray = ls at hl ⊢
  have hl : lv_has ls 2 [(0, .ref (a 3)), (1, .int (nI n))] := hl
  refine lv_aload_n hx hb dX1_beginOf_0 rfl (lv_at hl 0 rfl) ?_
  refine va_get (D := (dC, dI)) (ci := 1) (v := .ref (a 1)) (C := RX1) (T := TX1) (N := 4) hx hb htg inX1 hown hK hP 3 (wC_g3 a k _) rfl 2 (by decide) (htg _ q_100) (fun _ h9 => h9) rfl dX1_beginOf_1 ?_
  refine va_get (D := (dC, dI)) (ci := 4) (v := .ref (a 8)) (C := RX4) (T := TX4) (N := 9) hx hb htg inX4 hown hK hP 1 (wC_g1 a k _) rfl 1 (by decide) (htg _ q_33) (fun _ h9 => h9) rfl dX1_beginOf_4 ?_
  refine lv_iload_n hx hb dX1_beginOf_7 rfl (lv_at hl 1 rfl) ?_
  refine va_iald hx hb hK hP 8 0 (wC_g8 a k _) rfl (vp_in_nI (n := n) (N := 200) (by omega) (by decide)) dX1_beginOf_8 ?_
  refine wtopi (nI (cu_F u 1 n)) (congrArg (fun j9 => nI (cu_F u 1 j9)) (nI_clamp (n := n) (Nat.lt_trans (m := 200) (by omega) (by decide)))) ?_
  refine lv_aload_n hx hb dX1_beginOf_9 rfl (lv_at hl 0 rfl) ?_
  refine va_get (D := (dC, dI)) (ci := 1) (v := .ref (a 2)) (C := RX1) (T := TX1) (N := 4) hx hb htg inX1 hown hK hP 3 (wC_g3 a k _) rfl 3 (by decide) (htg _ q_101) (fun _ h9 => h9) rfl dX1_beginOf_10 ?_
  refine lv_aload_n hx hb dX1_beginOf_13 rfl (lv_at hl 0 rfl) ?_
  refine va_get (D := (dC, dI)) (ci := 1) (v := .ref (a 1)) (C := RX1) (T := TX1) (N := 4) hx hb htg inX1 hown hK hP 3 (wC_g3 a k _) rfl 2 (by decide) (htg _ q_100) (fun _ h9 => h9) rfl dX1_beginOf_14 ?_
  refine va_get (D := (dC, dI)) (ci := 4) (v := .ref (a 7)) (C := RX4) (T := TX4) (N := 9) hx hb htg inX4 hown hK hP 1 (wC_g1 a k _) rfl 0 (by decide) (htg _ q_31) (fun _ h9 => h9) rfl dX1_beginOf_17 ?_
  refine lv_iload_n hx hb dX1_beginOf_20 rfl (lv_at hl 1 rfl) ?_
  refine va_iald hx hb hK hP 7 0 (wC_g7 a k _) rfl (vp_in_nI (n := n) (N := 200) (by omega) (by decide)) dX1_beginOf_21 ?_
  refine wtopi (nI (cu_F u 0 n)) (congrArg (fun j9 => nI (cu_F u 0 j9)) (nI_clamp (n := n) (Nat.lt_trans (m := 200) (by omega) (by decide)))) ?_
  refine vp_callSi (W.runV (As := [.int (nI (cu_F u 0 n))]) (rest := [.int (nI (cu_F u 1 n))]) ⟨hx, hb, hml, hown, hts⟩ (c_X3_offsetOf l dC dI a k u (cu_F u 0 n) hn2.1 hd9) (cwV 1 hts (wG_V wG_c q_195 q_196 q_197 q_3 q_198) rfl rfl rfl (by decide +kernel) ⟨Nat.le_of_ble_eq_true rfl, Nat.le_of_ble_eq_true rfl⟩) (w_roV hK hP (ci := 3) (q0 := 2) rfl (wC_g2 a k _) rfl) rfl rfl hl.1 rfl (lv_room (Nat.le_of_ble_eq_true rfl)) dX1_beginOf_22 ⟨Nat.le_of_ble_eq_true rfl, Nat.le_of_ble_eq_true rfl⟩) (fun r_1 hr_1 => ?_)
  subst hr_1
  refine lv_iadd hx hb dX1_beginOf_25 ?_
  refine wtopi (y := iI (c_beg u n)) (nI_addI _ _) ?_
  exact W.iret (v := iI (c_beg u n)) hx hb hr (fun t9 ht9 hW9 => ⟨_, rfl, rfl, ht9⟩) (fun _ h => by cases h) dX1_beginOf_26
set_option maxHeartbeats 4000000 in
set_option maxRecDepth 100000 in
theorem c_X1_bytesBefore (l : Launch) (dC : Nat → ClassId) (dI : Nat → Nat → Nat) (a : Nat → Nat) (k : c_K) (u : c_St) (h : c_ok u) (n : Nat) (hn : n < cu_N u 0) (t : Int32) : Met l yX1_bytesBefore wsX1_bytesBefore ({ frames := 2, cells := 0, slots := 0, locals := 43 }) (va_Pc [.ref (a 3), .int (nI n), .int t] (w_ro (dC, dI) vwCl (wC a k u) (tC k))) (vp_Si (fun r => r = nI (c_bb u n t))) 0 0 (fun _ => False) := by
  have hn2 := h.2.2.1 n hn
  have h20 := h.1
  have h60 := h.2.1
  have hbb := c_beg_b h hn
  refine Met.ofW (cc := cX1_bytesBefore) (maxL := 5) (ret := (some .int)) (by decide) rfl ?_
  intro p e s m args below meth c s₁ B hml hv
  obtain ⟨rfl, hP, hK⟩ := hv
  have hx := B.exec
  have hb := B.bytes
  have hr := B.returns
  have hts := atoms_spec (ws := wsX1_bytesBefore) B.pre
  have htg : ∀ w ∈ wG, w.before _ s = true := fun w h => hts w (List.mem_cons_of_mem _ h)
  have hown : s.vm.findClass RX1 = some m.cls := findClass_of_methodNamed B.named
  have hlocks := B.notSynchronized
  have hl := lv_entry ([.ref (a 3), .int (nI n), .int t]) (n := 5) (Nat.le_of_ble_eq_true rfl)
  rw [lg_entry_eq]
  generalize (lg_sl ([.ref (a 3), .int (nI n), .int t]) ++ List.replicate (5 - (lg_sl ([.ref (a 3), .int (nI n), .int t])).length) Slot.unset).toArray = ls at hl ⊢
  have hl : lv_has ls 5 [(0, .ref (a 3)), (1, .int (nI n)), (2, .int t)] := hl
  refine lv_aload_n hx hb dX1_bytesBefore_0 rfl (lv_at hl 0 rfl) ?_
  refine lv_iload_n hx hb dX1_bytesBefore_1 rfl (lv_at hl 1 rfl) ?_
  refine vp_callSi (W.runV (As := [.int (nI n)]) (rest := []) ⟨hx, hb, hml, hown, hts⟩ (c_X1_beginOf l dC dI a k u h n hn) (cwV 1 hts (wG_V wG_c q_191 q_192 q_193 q_4 q_194) rfl rfl rfl (by decide +kernel) ⟨Nat.le_of_ble_eq_true rfl, Nat.le_of_ble_eq_true rfl⟩) (w_roV hK hP (ci := 1) (q0 := 3) rfl (wC_g3 a k _) rfl) rfl rfl hl.1 rfl (lv_room (Nat.le_of_ble_eq_true rfl)) dX1_bytesBefore_2 ⟨Nat.le_of_ble_eq_true rfl, Nat.le_of_ble_eq_true rfl⟩) (fun r_1 hr_1 => ?_)
  subst hr_1
  refine lv_istore_n (lv' := [(3, .int (iI (c_beg u n))), (0, .ref (a 3)), (1, .int (nI n)), (2, .int t)]) hx hb dX1_bytesBefore_5 rfl hl (by decide) rfl (fun ls hl => ?_)
  refine lv_iload_n hx hb dX1_bytesBefore_6 rfl (lv_at hl 0 rfl) ?_
  refine lv_aload_n hx hb dX1_bytesBefore_7 rfl (lv_at hl 1 rfl) ?_
  refine va_get (D := (dC, dI)) (ci := 1) (v := .ref (a 1)) (C := RX1) (T := TX1) (N := 4) hx hb htg inX1 hown hK hP 3 (wC_g3 a k _) rfl 2 (by decide) (htg _ q_100) (fun _ h9 => h9) rfl dX1_bytesBefore_8 ?_
  refine va_get (D := (dC, dI)) (ci := 4) (v := .ref (a 9)) (C := RX4) (T := TX4) (N := 9) hx hb htg inX4 hown hK hP 1 (wC_g1 a k _) rfl 2 (by decide) (htg _ q_35) (fun _ h9 => h9) rfl dX1_bytesBefore_11 ?_
  refine lv_iload_n hx hb dX1_bytesBefore_14 rfl (lv_at hl 2 rfl) ?_
  refine va_iald hx hb hK hP 9 0 (wC_g9 a k _) rfl (vp_in_nI (n := n) (N := 200) (by omega) (by decide)) dX1_bytesBefore_15 ?_
  refine wtopi (nI (cu_F u 2 n)) (congrArg (fun j9 => nI (cu_F u 2 j9)) (nI_clamp (n := n) (Nat.lt_trans (m := 200) (by omega) (by decide)))) ?_
  refine lv_iadd hx hb dX1_bytesBefore_16 ?_
  refine wtopi (y := iI (c_beg u n + (cu_F u 2 n : Int))) (by rw [nI_iI, iI_add]) ?_
  refine lv_istore (lv' := [(4, .int (iI (c_beg u n + (cu_F u 2 n : Int)))), (3, .int (iI (c_beg u n))), (0, .ref (a 3)), (1, .int (nI n)), (2, .int t)]) hx hb dX1_bytesBefore_17 hl (by decide) rfl (fun ls hl => ?_)
  refine lv_iload_n hx hb dX1_bytesBefore_19 rfl (lv_at hl 1 rfl) ?_
  refine lv_iload_n hx hb dX1_bytesBefore_20 rfl (lv_at hl 4 rfl) ?_
  refine lv_iload hx hb dX1_bytesBefore_21 (lv_at hl 0 rfl) ?_
  refine va_mmin hx hb (hml.trans hl.1.symm) hown (htg _ q_199) (htg _ q_200) (htg _ q_14) (htg _ qm_min) (Nat.le_of_ble_eq_true rfl) (Nat.le_of_ble_eq_true rfl) (Nat.zero_le _) (Nat.zero_le _) dX1_bytesBefore_23 ?_
  refine va_mmax hx hb (hml.trans hl.1.symm) hown (htg _ q_202) (htg _ q_203) (htg _ q_14) (htg _ qm_max) (Nat.le_of_ble_eq_true rfl) (Nat.le_of_ble_eq_true rfl) (Nat.zero_le _) (Nat.zero_le _) dX1_bytesBefore_26 ?_
  refine lv_iload_n hx hb dX1_bytesBefore_29 rfl (lv_at hl 1 rfl) ?_
  refine lv_isub hx hb dX1_bytesBefore_30 ?_
  refine wtopi (y := nI (c_bb u n t)) (c_bb_eq hbb.1 hbb.2 hn2.2.2.2.1) ?_
  exact W.iret (v := nI (c_bb u n t)) hx hb hr (fun t9 ht9 hW9 => ⟨_, rfl, rfl, ht9⟩) (fun _ h => by cases h) dX1_bytesBefore_31
set_option maxHeartbeats 4000000 in
set_option maxRecDepth 100000 in
theorem c_X1_bytesWithin (l : Launch) (dC : Nat → ClassId) (dI : Nat → Nat → Nat) (a : Nat → Nat) (k : c_K) (u : c_St) (h : c_ok u) (n : Nat) (hn : n < cu_N u 0) (t1 t2 : Int32) : Met l yX1_bytesWithin wsX1_bytesWithin ({ frames := 3, cells := 0, slots := 0, locals := 67 }) (va_Pc [.ref (a 3), .int (nI n), .int t1, .int t2] (w_ro (dC, dI) vwCl (wC a k u) (tC k))) (vp_Si (fun r => r = nI (c_bb u n t2 - c_bb u n t1))) 0 0 (fun _ => False) := by
  have hn2 := h.2.2.1 n hn
  have h20 := h.1
  have h60 := h.2.1
  have hq1 := c_bb_le u n t1
  have hq2 := c_bb_le u n t2
  refine Met.ofW (cc := cX1_bytesWithin) (maxL := 4) (ret := (some .int)) (by decide) rfl ?_
  intro p e s m args below meth c s₁ B hml hv
  obtain ⟨rfl, hP, hK⟩ := hv
  have hx := B.exec
  have hb := B.bytes
  have hr := B.returns
  have hts := atoms_spec (ws := wsX1_bytesWithin) B.pre
  have htg : ∀ w ∈ wG, w.before _ s = true := fun w h => hts w (List.mem_cons_of_mem _ h)
  have hown : s.vm.findClass RX1 = some m.cls := findClass_of_methodNamed B.named
  have hlocks := B.notSynchronized
  have hl := lv_entry ([.ref (a 3), .int (nI n), .int t1, .int t2]) (n := 4) (Nat.le_of_ble_eq_true rfl)
  rw [lg_entry_eq]
  generalize (lg_sl ([.ref (a 3), .int (nI n), .int t1, .int t2]) ++ List.replicate (4 - (lg_sl ([.ref (a 3), .int (nI n), .int t1, .int t2])).length) Slot.unset).toArray = ls at hl ⊢
  have hl : lv_has ls 4 [(0, .ref (a 3)), (1, .int (nI n)), (2, .int t1), (3, .int t2)] := hl
  refine lv_iconst (v := 0) hx hb dX1_bytesWithin_0 (by decide) ?_
  refine lv_aload_n hx hb dX1_bytesWithin_1 rfl (lv_at hl 0 rfl) ?_
  refine lv_iload_n hx hb dX1_bytesWithin_2 rfl (lv_at hl 1 rfl) ?_
  refine lv_iload_n hx hb dX1_bytesWithin_3 rfl (lv_at hl 3 rfl) ?_
  refine vp_callSi (W.runV (As := [.int (nI n), .int t2]) (rest := [.int 0]) ⟨hx, hb, hml, hown, hts⟩ (c_X1_bytesBefore l dC dI a k u h n hn t2) (cwV 2 hts (wG_V wG_c q_187 q_189 p_0 q_4 q_190) rfl rfl rfl (by decide +kernel) ⟨Nat.le_of_ble_eq_true rfl, Nat.le_of_ble_eq_true rfl⟩) (w_roV hK hP (ci := 1) (q0 := 3) rfl (wC_g3 a k _) rfl) rfl rfl hl.1 rfl (lv_room (Nat.le_of_ble_eq_true rfl)) dX1_bytesWithin_4 ⟨Nat.le_of_ble_eq_true rfl, Nat.le_of_ble_eq_true rfl⟩) (fun r_1 hr_1 => ?_)
  subst hr_1
  refine lv_aload_n hx hb dX1_bytesWithin_7 rfl (lv_at hl 0 rfl) ?_
  refine lv_iload_n hx hb dX1_bytesWithin_8 rfl (lv_at hl 1 rfl) ?_
  refine lv_iload_n hx hb dX1_bytesWithin_9 rfl (lv_at hl 2 rfl) ?_
  refine vp_callSi (W.runV (As := [.int (nI n), .int t1]) (rest := [.int (nI (c_bb u n t2)), .int 0]) ⟨hx, hb, hml, hown, hts⟩ (c_X1_bytesBefore l dC dI a k u h n hn t1) (cwV 2 hts (wG_V wG_c q_187 q_189 p_0 q_4 q_190) rfl rfl rfl (by decide +kernel) ⟨Nat.le_of_ble_eq_true rfl, Nat.le_of_ble_eq_true rfl⟩) (w_roV hK hP (ci := 1) (q0 := 3) rfl (wC_g3 a k _) rfl) rfl rfl hl.1 rfl (lv_room (Nat.le_of_ble_eq_true rfl)) dX1_bytesWithin_10 ⟨Nat.le_of_ble_eq_true rfl, Nat.le_of_ble_eq_true rfl⟩) (fun r_2 hr_2 => ?_)
  subst hr_2
  refine lv_isub hx hb dX1_bytesWithin_13 ?_
  refine va_mmax hx hb (hml.trans hl.1.symm) hown (htg _ q_202) (htg _ q_203) (htg _ q_14) (htg _ qm_max) (Nat.le_of_ble_eq_true rfl) (Nat.le_of_ble_eq_true rfl) (Nat.zero_le _) (Nat.zero_le _) dX1_bytesWithin_14 ?_
  refine wtopi (nI (c_bb u n t2 - c_bb u n t1)) (c_wi_eq (by omega) (by omega)) ?_
  exact W.iret (v := nI (c_bb u n t2 - c_bb u n t1)) hx hb hr (fun t9 ht9 hW9 => ⟨_, rfl, rfl, ht9⟩) (fun _ h => by cases h) dX1_bytesWithin_17
set_option maxHeartbeats 4000000 in
set_option maxRecDepth 100000 in
theorem c_X1_sumWithin (l : Launch) (dC : Nat → ClassId) (dI : Nat → Nat → Nat) (a : Nat → Nat) (k : c_K) (u : c_St) (h : c_ok u) (s0 : Int32) (n : Nat) (hn : n < cu_N u 0) (t1 t2 : Int32) : Met l yX1_sumWithin wsX1_sumWithin ({ frames := 3, cells := 0, slots := 0, locals := 67 }) (va_Pc [.ref (a 3), .int s0, .int (nI n), .int t1, .int t2] (w_ro (dC, dI) vwCl (wC a k u) (tC k))) (vp_Si (fun r => r = c_sm (cu_L u n) (cu_F u 2 n) s0 (c_bb u n t1) (c_bb u n t2 - c_bb u n t1))) 0 0 (fun _ => False) := by
  have hn2 := h.2.2.1 n hn
  have h20 := h.1
  have h60 := h.2.1
  have hq1 := c_bb_le u n t1
  have hq2 := c_bb_le u n t2
  refine Met.ofW (cc := cX1_sumWithin) (maxL := 5) (ret := (some .int)) (by decide) rfl ?_
  intro p e s m args below meth c s₁ B hml hv
  obtain ⟨rfl, hP, hK⟩ := hv
  have hx := B.exec
  have hb := B.bytes
  have hr := B.returns
  have hts := atoms_spec (ws := wsX1_sumWithin) B.pre
  have htg : ∀ w ∈ wG, w.before _ s = true := fun w h => hts w (List.mem_cons_of_mem _ h)
  have hown : s.vm.findClass RX1 = some m.cls := findClass_of_methodNamed B.named
  have hlocks := B.notSynchronized
  have hl := lv_entry ([.ref (a 3), .int s0, .int (nI n), .int t1, .int t2]) (n := 5) (Nat.le_of_ble_eq_true rfl)
  rw [lg_entry_eq]
  generalize (lg_sl ([.ref (a 3), .int s0, .int (nI n), .int t1, .int t2]) ++ List.replicate (5 - (lg_sl ([.ref (a 3), .int s0, .int (nI n), .int t1, .int t2])).length) Slot.unset).toArray = ls at hl ⊢
  have hl : lv_has ls 5 [(0, .ref (a 3)), (1, .int s0), (2, .int (nI n)), (3, .int t1), (4, .int t2)] := hl
  refine lv_aload_n hx hb dX1_sumWithin_0 rfl (lv_at hl 0 rfl) ?_
  refine va_get (D := (dC, dI)) (ci := 1) (v := .ref (a 1)) (C := RX1) (T := TX1) (N := 4) hx hb htg inX1 hown hK hP 3 (wC_g3 a k _) rfl 2 (by decide) (htg _ q_100) (fun _ h9 => h9) rfl dX1_sumWithin_1 ?_
  refine lv_iload_n hx hb dX1_sumWithin_4 rfl (lv_at hl 1 rfl) ?_
  refine lv_iload_n hx hb dX1_sumWithin_5 rfl (lv_at hl 2 rfl) ?_
  refine lv_aload_n hx hb dX1_sumWithin_6 rfl (lv_at hl 0 rfl) ?_
  refine lv_iload_n hx hb dX1_sumWithin_7 rfl (lv_at hl 2 rfl) ?_
  refine lv_iload_n hx hb dX1_sumWithin_8 rfl (lv_at hl 3 rfl) ?_
  refine vp_callSi (W.runV (As := [.int (nI n), .int t1]) (rest := [.int (nI n), .int s0, .ref (a 1)]) ⟨hx, hb, hml, hown, hts⟩ (c_X1_bytesBefore l dC dI a k u h n hn t1) (cwV 2 hts (wG_V wG_c q_187 q_189 p_0 q_4 q_190) rfl rfl rfl (by decide +kernel) ⟨Nat.le_of_ble_eq_true rfl, Nat.le_of_ble_eq_true rfl⟩) (w_roV hK hP (ci := 1) (q0 := 3) rfl (wC_g3 a k _) rfl) rfl rfl hl.1 rfl (lv_room (Nat.le_of_ble_eq_true rfl)) dX1_sumWithin_9 ⟨Nat.le_of_ble_eq_true rfl, Nat.le_of_ble_eq_true rfl⟩) (fun r_1 hr_1 => ?_)
  subst hr_1
  refine lv_aload_n hx hb dX1_sumWithin_12 rfl (lv_at hl 0 rfl) ?_
  refine lv_iload_n hx hb dX1_sumWithin_13 rfl (lv_at hl 2 rfl) ?_
  refine lv_iload hx hb dX1_sumWithin_14 (lv_at hl 4 rfl) ?_
  refine vp_callSi (W.runV (As := [.int (nI n), .int t2]) (rest := [.int (nI (c_bb u n t1)), .int (nI n), .int s0, .ref (a 1)]) ⟨hx, hb, hml, hown, hts⟩ (c_X1_bytesBefore l dC dI a k u h n hn t2) (cwV 2 hts (wG_V wG_c q_187 q_189 p_0 q_4 q_190) rfl rfl rfl (by decide +kernel) ⟨Nat.le_of_ble_eq_true rfl, Nat.le_of_ble_eq_true rfl⟩) (w_roV hK hP (ci := 1) (q0 := 3) rfl (wC_g3 a k _) rfl) rfl rfl hl.1 rfl (lv_room (Nat.le_of_ble_eq_true rfl)) dX1_sumWithin_16 ⟨Nat.le_of_ble_eq_true rfl, Nat.le_of_ble_eq_true rfl⟩) (fun r_2 hr_2 => ?_)
  subst hr_2
  refine vp_callSi (W.runV (As := [.int s0, .int (nI n), .int (nI (c_bb u n t1)), .int (nI (c_bb u n t2))]) (rest := []) ⟨hx, hb, hml, hown, hts⟩ (c_X4_sumOn l dC dI a k u s0 n (c_bb u n t1) (c_bb u n t2) (by omega) (by omega) hq2 hn2.2.2.2.1) (cwV 4 hts (wG_V wG_c q_213 q_214 q_215 q_2 q_216) rfl rfl rfl (by decide +kernel) ⟨Nat.le_of_ble_eq_true rfl, Nat.le_of_ble_eq_true rfl⟩) (w_roV hK hP (ci := 4) (q0 := 1) rfl (wC_g1 a k _) rfl) rfl rfl hl.1 rfl (lv_room (Nat.le_of_ble_eq_true rfl)) dX1_sumWithin_19 ⟨Nat.le_of_ble_eq_true rfl, Nat.le_of_ble_eq_true rfl⟩) (fun r_3 hr_3 => ?_)
  subst hr_3
  exact W.iret (v := c_sm (cu_L u n) (cu_F u 2 n) s0 (c_bb u n t1) (c_bb u n t2 - c_bb u n t1)) hx hb hr (fun t9 ht9 hW9 => ⟨_, rfl, rfl, ht9⟩) (fun _ h => by cases h) dX1_sumWithin_22
set_option maxHeartbeats 4000000 in
set_option maxRecDepth 100000 in
theorem c_X1_isBefore (l : Launch) (dC : Nat → ClassId) (dI : Nat → Nat → Nat) (a : Nat → Nat) (k : c_K) (u : c_St) (h : c_ok u) (x y : Nat) (hx9 : x < cu_N u 0) (hy9 : y < cu_N u 0) : Met l yX1_isBefore wsX1_isBefore ({ frames := 2, cells := 0, slots := 0, locals := 43 }) (va_Pc [.ref (a 3), .int (nI x), .int (nI y)] (w_ro (dC, dI) vwCl (wC a k u) (tC k))) (vp_Si (fun r => r = bI (c_lt u x y))) 0 0 (fun _ => False) := by
  have h20 := h.1
  have hx2 := h.2.2.1 x hx9
  have hy2 := h.2.2.1 y hy9
  have hbx := c_beg_b h hx9
  have hby := c_beg_b h hy9
  refine Met.ofW (cc := cX1_isBefore) (maxL := 5) (ret := (some .boolean)) (by decide) rfl ?_
  intro p e s m args below meth c s₁ B hml hv
  obtain ⟨rfl, hP, hK⟩ := hv
  have hx := B.exec
  have hb := B.bytes
  have hr := B.returns
  have hts := atoms_spec (ws := wsX1_isBefore) B.pre
  have htg : ∀ w ∈ wG, w.before _ s = true := fun w h => hts w (List.mem_cons_of_mem _ h)
  have hown : s.vm.findClass RX1 = some m.cls := findClass_of_methodNamed B.named
  have hlocks := B.notSynchronized
  have hl := lv_entry ([.ref (a 3), .int (nI x), .int (nI y)]) (n := 5) (Nat.le_of_ble_eq_true rfl)
  rw [lg_entry_eq]
  generalize (lg_sl ([.ref (a 3), .int (nI x), .int (nI y)]) ++ List.replicate (5 - (lg_sl ([.ref (a 3), .int (nI x), .int (nI y)])).length) Slot.unset).toArray = ls at hl ⊢
  have hl : lv_has ls 5 [(0, .ref (a 3)), (1, .int (nI x)), (2, .int (nI y))] := hl
  refine lv_aload_n hx hb dX1_isBefore_0 rfl (lv_at hl 0 rfl) ?_
  refine lv_iload_n hx hb dX1_isBefore_1 rfl (lv_at hl 1 rfl) ?_
  refine vp_callSi (W.runV (As := [.int (nI x)]) (rest := []) ⟨hx, hb, hml, hown, hts⟩ (c_X1_beginOf l dC dI a k u h x hx9) (cwV 1 hts (wG_V wG_c q_191 q_192 q_193 q_4 q_194) rfl rfl rfl (by decide +kernel) ⟨Nat.le_of_ble_eq_true rfl, Nat.le_of_ble_eq_true rfl⟩) (w_roV hK hP (ci := 1) (q0 := 3) rfl (wC_g3 a k _) rfl) rfl rfl hl.1 rfl (lv_room (Nat.le_of_ble_eq_true rfl)) dX1_isBefore_2 ⟨Nat.le_of_ble_eq_true rfl, Nat.le_of_ble_eq_true rfl⟩) (fun r_1 hr_1 => ?_)
  subst hr_1
  refine lv_istore_n (lv' := [(3, .int (iI (c_beg u x))), (0, .ref (a 3)), (1, .int (nI x)), (2, .int (nI y))]) hx hb dX1_isBefore_5 rfl hl (by decide) rfl (fun ls hl => ?_)
  refine lv_aload_n hx hb dX1_isBefore_6 rfl (lv_at hl 1 rfl) ?_
  refine lv_iload_n hx hb dX1_isBefore_7 rfl (lv_at hl 3 rfl) ?_
  refine vp_callSi (W.runV (As := [.int (nI y)]) (rest := []) ⟨hx, hb, hml, hown, hts⟩ (c_X1_beginOf l dC dI a k u h y hy9) (cwV 1 hts (wG_V wG_c q_191 q_192 q_193 q_4 q_194) rfl rfl rfl (by decide +kernel) ⟨Nat.le_of_ble_eq_true rfl, Nat.le_of_ble_eq_true rfl⟩) (w_roV hK hP (ci := 1) (q0 := 3) rfl (wC_g3 a k _) rfl) rfl rfl hl.1 rfl (lv_room (Nat.le_of_ble_eq_true rfl)) dX1_isBefore_8 ⟨Nat.le_of_ble_eq_true rfl, Nat.le_of_ble_eq_true rfl⟩) (fun r_2 hr_2 => ?_)
  subst hr_2
  refine lv_istore (lv' := [(4, .int (iI (c_beg u y))), (3, .int (iI (c_beg u x))), (0, .ref (a 3)), (1, .int (nI x)), (2, .int (nI y))]) hx hb dX1_isBefore_11 hl (by decide) rfl (fun ls hl => ?_)
  refine lv_iload_n hx hb dX1_isBefore_13 rfl (lv_at hl 1 rfl) ?_
  refine lv_iload hx hb dX1_isBefore_14 (lv_at hl 0 rfl) ?_
  refine ib_eq (a := (c_beg u x)) (b := (c_beg u y)) (tgt := 31) hx hb (by omega) (by omega) (by omega) (by omega) rfl rfl dX1_isBefore_16 (by decide) (fun c_16 => ?_) (fun c_16 => ?_)
  · refine lv_aload_n hx hb dX1_isBefore_31 rfl (lv_at hl 2 rfl) ?_
    refine va_get (D := (dC, dI)) (ci := 1) (v := .ref (a 1)) (C := RX1) (T := TX1) (N := 4) hx hb htg inX1 hown hK hP 3 (wC_g3 a k _) rfl 2 (by decide) (htg _ q_100) (fun _ h9 => h9) rfl dX1_isBefore_32 ?_
    refine va_get (D := (dC, dI)) (ci := 4) (v := .ref (a 7)) (C := RX4) (T := TX4) (N := 9) hx hb htg inX4 hown hK hP 1 (wC_g1 a k _) rfl 0 (by decide) (htg _ q_31) (fun _ h9 => h9) rfl dX1_isBefore_35 ?_
    refine lv_iload_n hx hb dX1_isBefore_38 rfl (lv_at hl 3 rfl) ?_
    refine va_iald hx hb hK hP 7 0 (wC_g7 a k _) rfl (vp_in_nI (n := x) (N := 200) (by omega) (by decide)) dX1_isBefore_39 ?_
    refine wtopi (nI (cu_F u 0 x)) (congrArg (fun j9 => nI (cu_F u 0 j9)) (nI_clamp (n := x) (Nat.lt_trans (m := 200) (by omega) (by decide)))) ?_
    refine lv_aload_n hx hb dX1_isBefore_40 rfl (lv_at hl 2 rfl) ?_
    refine va_get (D := (dC, dI)) (ci := 1) (v := .ref (a 1)) (C := RX1) (T := TX1) (N := 4) hx hb htg inX1 hown hK hP 3 (wC_g3 a k _) rfl 2 (by decide) (htg _ q_100) (fun _ h9 => h9) rfl dX1_isBefore_41 ?_
    refine va_get (D := (dC, dI)) (ci := 4) (v := .ref (a 7)) (C := RX4) (T := TX4) (N := 9) hx hb htg inX4 hown hK hP 1 (wC_g1 a k _) rfl 0 (by decide) (htg _ q_31) (fun _ h9 => h9) rfl dX1_isBefore_44 ?_
    refine lv_iload_n hx hb dX1_isBefore_47 rfl (lv_at hl 4 rfl) ?_
    refine va_iald hx hb hK hP 7 0 (wC_g7 a k _) rfl (vp_in_nI (n := y) (N := 200) (by omega) (by decide)) dX1_isBefore_48 ?_
    refine wtopi (nI (cu_F u 0 y)) (congrArg (fun j9 => nI (cu_F u 0 j9)) (nI_clamp (n := y) (Nat.lt_trans (m := 200) (by omega) (by decide)))) ?_
    refine nb_eq (a := (cu_F u 0 x)) (b := (cu_F u 0 y)) (tgt := 79) hx hb (by omega) (by omega) rfl rfl dX1_isBefore_49 (by decide) (fun c_49 => ?_) (fun c_49 => ?_)
    · refine lv_iload_n hx hb dX1_isBefore_79 rfl (lv_at hl 3 rfl) ?_
      refine lv_iload_n hx hb dX1_isBefore_80 rfl (lv_at hl 4 rfl) ?_
      refine nb_ge (a := x) (b := y) (tgt := 88) hx hb (by omega) (by omega) rfl rfl dX1_isBefore_81 (by decide) (fun c_81 => ?_) (fun c_81 => ?_)
      · refine lv_iconst (v := 0) hx hb dX1_isBefore_88 (by decide) ?_
        exact W.zret (v := bI false) hx hb hr (bI_narw _) (fun t ht hW => ⟨_, rfl, (congrArg bI (by unfold c_lt; symm; simp only [decide_eq_true_eq, decide_eq_false_iff_not]; omega)), ht⟩) (fun _ h => by cases h) dX1_isBefore_89
      · refine lv_iconst (v := 1) hx hb dX1_isBefore_84 (by decide) ?_
        refine lv_goto (tgt := 89) hx hb dX1_isBefore_85 (by decide) ?_
        exact W.zret (v := bI true) hx hb hr (bI_narw _) (fun t ht hW => ⟨_, rfl, (congrArg bI (by unfold c_lt; symm; simp only [decide_eq_true_eq, decide_eq_false_iff_not]; omega)), ht⟩) (fun _ h => by cases h) dX1_isBefore_89
    · refine lv_aload_n hx hb dX1_isBefore_52 rfl (lv_at hl 2 rfl) ?_
      refine va_get (D := (dC, dI)) (ci := 1) (v := .ref (a 1)) (C := RX1) (T := TX1) (N := 4) hx hb htg inX1 hown hK hP 3 (wC_g3 a k _) rfl 2 (by decide) (htg _ q_100) (fun _ h9 => h9) rfl dX1_isBefore_53 ?_
      refine va_get (D := (dC, dI)) (ci := 4) (v := .ref (a 7)) (C := RX4) (T := TX4) (N := 9) hx hb htg inX4 hown hK hP 1 (wC_g1 a k _) rfl 0 (by decide) (htg _ q_31) (fun _ h9 => h9) rfl dX1_isBefore_56 ?_
      refine lv_iload_n hx hb dX1_isBefore_59 rfl (lv_at hl 3 rfl) ?_
      refine va_iald hx hb hK hP 7 0 (wC_g7 a k _) rfl (vp_in_nI (n := x) (N := 200) (by omega) (by decide)) dX1_isBefore_60 ?_
      refine wtopi (nI (cu_F u 0 x)) (congrArg (fun j9 => nI (cu_F u 0 j9)) (nI_clamp (n := x) (Nat.lt_trans (m := 200) (by omega) (by decide)))) ?_
      refine lv_aload_n hx hb dX1_isBefore_61 rfl (lv_at hl 2 rfl) ?_
      refine va_get (D := (dC, dI)) (ci := 1) (v := .ref (a 1)) (C := RX1) (T := TX1) (N := 4) hx hb htg inX1 hown hK hP 3 (wC_g3 a k _) rfl 2 (by decide) (htg _ q_100) (fun _ h9 => h9) rfl dX1_isBefore_62 ?_
      refine va_get (D := (dC, dI)) (ci := 4) (v := .ref (a 7)) (C := RX4) (T := TX4) (N := 9) hx hb htg inX4 hown hK hP 1 (wC_g1 a k _) rfl 0 (by decide) (htg _ q_31) (fun _ h9 => h9) rfl dX1_isBefore_65 ?_
      refine lv_iload_n hx hb dX1_isBefore_68 rfl (lv_at hl 4 rfl) ?_
      refine va_iald hx hb hK hP 7 0 (wC_g7 a k _) rfl (vp_in_nI (n := y) (N := 200) (by omega) (by decide)) dX1_isBefore_69 ?_
      refine wtopi (nI (cu_F u 0 y)) (congrArg (fun j9 => nI (cu_F u 0 j9)) (nI_clamp (n := y) (Nat.lt_trans (m := 200) (by omega) (by decide)))) ?_
      refine nb_ge (a := (cu_F u 0 x)) (b := (cu_F u 0 y)) (tgt := 77) hx hb (by omega) (by omega) rfl rfl dX1_isBefore_70 (by decide) (fun c_70 => ?_) (fun c_70 => ?_)
      · refine lv_iconst (v := 0) hx hb dX1_isBefore_77 (by decide) ?_
        exact W.zret (v := bI false) hx hb hr (bI_narw _) (fun t ht hW => ⟨_, rfl, (congrArg bI (by unfold c_lt; symm; simp only [decide_eq_true_eq, decide_eq_false_iff_not]; omega)), ht⟩) (fun _ h => by cases h) dX1_isBefore_78
      · refine lv_iconst (v := 1) hx hb dX1_isBefore_73 (by decide) ?_
        refine lv_goto (tgt := 78) hx hb dX1_isBefore_74 (by decide) ?_
        exact W.zret (v := bI true) hx hb hr (bI_narw _) (fun t ht hW => ⟨_, rfl, (congrArg bI (by unfold c_lt; symm; simp only [decide_eq_true_eq, decide_eq_false_iff_not]; omega)), ht⟩) (fun _ h => by cases h) dX1_isBefore_78
  · refine lv_iload_n hx hb dX1_isBefore_19 rfl (lv_at hl 1 rfl) ?_
    refine lv_iload hx hb dX1_isBefore_20 (lv_at hl 0 rfl) ?_
    refine ib_ge (a := (c_beg u x)) (b := (c_beg u y)) (tgt := 29) hx hb (by omega) (by omega) (by omega) (by omega) rfl rfl dX1_isBefore_22 (by decide) (fun c_22 => ?_) (fun c_22 => ?_)
    · refine lv_iconst (v := 0) hx hb dX1_isBefore_29 (by decide) ?_
      exact W.zret (v := bI false) hx hb hr (bI_narw _) (fun t ht hW => ⟨_, rfl, (congrArg bI (by unfold c_lt; symm; simp only [decide_eq_true_eq, decide_eq_false_iff_not]; omega)), ht⟩) (fun _ h => by cases h) dX1_isBefore_30
    · refine lv_iconst (v := 1) hx hb dX1_isBefore_25 (by decide) ?_
      refine lv_goto (tgt := 30) hx hb dX1_isBefore_26 (by decide) ?_
      exact W.zret (v := bI true) hx hb hr (bI_narw _) (fun t ht hW => ⟨_, rfl, (congrArg bI (by unfold c_lt; symm; simp only [decide_eq_true_eq, decide_eq_false_iff_not]; omega)), ht⟩) (fun _ h => by cases h) dX1_isBefore_30
set_option maxHeartbeats 4000000 in
set_option maxRecDepth 100000 in
theorem c_X4_isOf (l : Launch) (dC : Nat → ClassId) (dI : Nat → Nat → Nat) (a : Nat → Nat) (k : c_K) (u : c_St) (n : Nat) (hn : n < 200) (au ai : Int32) : Met l yX4_isOf wsX4_isOf ({ frames := 0, cells := 0, slots := 0, locals := 0 }) (va_Pc [.ref (a 1), .int (nI n), .int au, .int ai] (w_ro (dC, dI) vwCl (wC a k u) (tC k))) (vp_Si (fun r => r = bI (c_of u n au ai))) 0 0 (fun _ => False) := by
  refine Met.ofW (cc := cX4_isOf) (maxL := 4) (ret := (some .boolean)) (by decide) rfl ?_
  intro p e s m args below meth c s₁ B hml hv
  obtain ⟨rfl, hP, hK⟩ := hv
  have hx := B.exec
  have hb := B.bytes
  have hr := B.returns
  have hts := atoms_spec (ws := wsX4_isOf) B.pre
  have htg : ∀ w ∈ wG, w.before _ s = true := fun w h => hts w (List.mem_cons_of_mem _ h)
  have hown : s.vm.findClass RX4 = some m.cls := findClass_of_methodNamed B.named
  have hlocks := B.notSynchronized
  have hl := lv_entry ([.ref (a 1), .int (nI n), .int au, .int ai]) (n := 4) (Nat.le_of_ble_eq_true rfl)
  rw [lg_entry_eq]
  generalize (lg_sl ([.ref (a 1), .int (nI n), .int au, .int ai]) ++ List.replicate (4 - (lg_sl ([.ref (a 1), .int (nI n), .int au, .int ai])).length) Slot.unset).toArray = ls at hl ⊢
  have hl : lv_has ls 4 [(0, .ref (a 1)), (1, .int (nI n)), (2, .int au), (3, .int ai)] := hl
  refine lv_iload_n hx hb dX4_isOf_0 rfl (lv_at hl 2 rfl) ?_
  refine lv_iconst (v := (-1)) hx hb dX4_isOf_1 (by decide) ?_
  refine lv_icmp_eq (tgt := 15) hx hb dX4_isOf_2 (by decide) (fun c_2 => ?_) (fun c_2 => ?_)
  · refine lv_iload_n hx hb dX4_isOf_15 rfl (lv_at hl 3 rfl) ?_
    refine lv_iconst (v := (-1)) hx hb dX4_isOf_16 (by decide) ?_
    refine lv_icmp_eq (tgt := 30) hx hb dX4_isOf_17 (by decide) (fun c_17 => ?_) (fun c_17 => ?_)
    · refine lv_iconst (v := 1) hx hb dX4_isOf_30 (by decide) ?_
      refine lv_goto (tgt := 35) hx hb dX4_isOf_31 (by decide) ?_
      exact W.zret (v := bI true) hx hb hr (bI_narw _) (fun t ht hW => ⟨_, rfl, (congrArg bI (by unfold c_of; symm; simp_all)), ht⟩) (fun _ h => by cases h) dX4_isOf_35
    · refine lv_iload_n hx hb dX4_isOf_20 rfl (lv_at hl 3 rfl) ?_
      refine lv_aload_n hx hb dX4_isOf_21 rfl (lv_at hl 0 rfl) ?_
      refine va_get (D := (dC, dI)) (ci := 4) (v := .ref (a 12)) (C := RX4) (T := TX4) (N := 9) hx hb htg inX4 hown hK hP 1 (wC_g1 a k _) rfl 5 (by decide) (htg _ q_39) (fun _ h9 => h9) rfl dX4_isOf_22 ?_
      refine lv_iload_n hx hb dX4_isOf_25 rfl (lv_at hl 1 rfl) ?_
      refine va_iald hx hb hK hP 12 0 (wC_g12 a k _) rfl (vp_in_nI (n := n) (N := 200) (by omega) (by decide)) dX4_isOf_26 ?_
      refine wtopi (nI (cu_F u 4 n)) (congrArg (fun j9 => nI (cu_F u 4 j9)) (nI_clamp (n := n) (Nat.lt_trans (m := 200) (by omega) (by decide)))) ?_
      refine lv_icmp_ne (tgt := 34) hx hb dX4_isOf_27 (by decide) (fun c_27 => ?_) (fun c_27 => ?_)
      · refine lv_iconst (v := 0) hx hb dX4_isOf_34 (by decide) ?_
        exact W.zret (v := bI false) hx hb hr (bI_narw _) (fun t ht hW => ⟨_, rfl, (congrArg bI (by unfold c_of; symm; simp_all)), ht⟩) (fun _ h => by cases h) dX4_isOf_35
      · refine lv_iconst (v := 1) hx hb dX4_isOf_30 (by decide) ?_
        refine lv_goto (tgt := 35) hx hb dX4_isOf_31 (by decide) ?_
        exact W.zret (v := bI true) hx hb hr (bI_narw _) (fun t ht hW => ⟨_, rfl, (congrArg bI (by unfold c_of; symm; simp_all)), ht⟩) (fun _ h => by cases h) dX4_isOf_35
  · refine lv_iload_n hx hb dX4_isOf_5 rfl (lv_at hl 2 rfl) ?_
    refine lv_aload_n hx hb dX4_isOf_6 rfl (lv_at hl 0 rfl) ?_
    refine va_get (D := (dC, dI)) (ci := 4) (v := .ref (a 11)) (C := RX4) (T := TX4) (N := 9) hx hb htg inX4 hown hK hP 1 (wC_g1 a k _) rfl 4 (by decide) (htg _ q_38) (fun _ h9 => h9) rfl dX4_isOf_7 ?_
    refine lv_iload_n hx hb dX4_isOf_10 rfl (lv_at hl 1 rfl) ?_
    refine va_iald hx hb hK hP 11 0 (wC_g11 a k _) rfl (vp_in_nI (n := n) (N := 200) (by omega) (by decide)) dX4_isOf_11 ?_
    refine wtopi (nI (cu_F u 3 n)) (congrArg (fun j9 => nI (cu_F u 3 j9)) (nI_clamp (n := n) (Nat.lt_trans (m := 200) (by omega) (by decide)))) ?_
    refine lv_icmp_ne (tgt := 34) hx hb dX4_isOf_12 (by decide) (fun c_12 => ?_) (fun c_12 => ?_)
    · refine lv_iconst (v := 0) hx hb dX4_isOf_34 (by decide) ?_
      exact W.zret (v := bI false) hx hb hr (bI_narw _) (fun t ht hW => ⟨_, rfl, (congrArg bI (by unfold c_of; symm; simp_all)), ht⟩) (fun _ h => by cases h) dX4_isOf_35
    · refine lv_iload_n hx hb dX4_isOf_15 rfl (lv_at hl 3 rfl) ?_
      refine lv_iconst (v := (-1)) hx hb dX4_isOf_16 (by decide) ?_
      refine lv_icmp_eq (tgt := 30) hx hb dX4_isOf_17 (by decide) (fun c_17 => ?_) (fun c_17 => ?_)
      · refine lv_iconst (v := 1) hx hb dX4_isOf_30 (by decide) ?_
        refine lv_goto (tgt := 35) hx hb dX4_isOf_31 (by decide) ?_
        exact W.zret (v := bI true) hx hb hr (bI_narw _) (fun t ht hW => ⟨_, rfl, (congrArg bI (by unfold c_of; symm; simp_all)), ht⟩) (fun _ h => by cases h) dX4_isOf_35
      · refine lv_iload_n hx hb dX4_isOf_20 rfl (lv_at hl 3 rfl) ?_
        refine lv_aload_n hx hb dX4_isOf_21 rfl (lv_at hl 0 rfl) ?_
        refine va_get (D := (dC, dI)) (ci := 4) (v := .ref (a 12)) (C := RX4) (T := TX4) (N := 9) hx hb htg inX4 hown hK hP 1 (wC_g1 a k _) rfl 5 (by decide) (htg _ q_39) (fun _ h9 => h9) rfl dX4_isOf_22 ?_
        refine lv_iload_n hx hb dX4_isOf_25 rfl (lv_at hl 1 rfl) ?_
        refine va_iald hx hb hK hP 12 0 (wC_g12 a k _) rfl (vp_in_nI (n := n) (N := 200) (by omega) (by decide)) dX4_isOf_26 ?_
        refine wtopi (nI (cu_F u 4 n)) (congrArg (fun j9 => nI (cu_F u 4 j9)) (nI_clamp (n := n) (Nat.lt_trans (m := 200) (by omega) (by decide)))) ?_
        refine lv_icmp_ne (tgt := 34) hx hb dX4_isOf_27 (by decide) (fun c_27 => ?_) (fun c_27 => ?_)
        · refine lv_iconst (v := 0) hx hb dX4_isOf_34 (by decide) ?_
          exact W.zret (v := bI false) hx hb hr (bI_narw _) (fun t ht hW => ⟨_, rfl, (congrArg bI (by unfold c_of; symm; simp_all)), ht⟩) (fun _ h => by cases h) dX4_isOf_35
        · refine lv_iconst (v := 1) hx hb dX4_isOf_30 (by decide) ?_
          refine lv_goto (tgt := 35) hx hb dX4_isOf_31 (by decide) ?_
          exact W.zret (v := bI true) hx hb hr (bI_narw _) (fun t ht hW => ⟨_, rfl, (congrArg bI (by unfold c_of; symm; simp_all)), ht⟩) (fun _ h => by cases h) dX4_isOf_35
