/-! the reference in numbers: N (0 slots, 1 marks, 2 certificates, 3 rows, 4 thrown); F (0 source, 1 clock, 2 length, 3 unit, 4 incident, 5 a mark's source, 6 certified, 7 told); B (0 dropped, 1 held, 2 rights); G (0 kept, 1 the sum then, 2 bytes); D (0 a mark's offset) -/
def inR (v lo hi : Int32) : Bool := decide (lo ≤ v ∧ v ≤ hi)
theorem inR_t {v lo hi : Int32} (h1 : ¬ v < lo) (h2 : ¬ hi < v) : inR v lo hi = true := by
  unfold inR
  rw [Int32.lt_iff_toInt_lt] at h1 h2
  rw [decide_eq_true_iff, Int32.le_iff_toInt_le, Int32.le_iff_toInt_le]
  omega
theorem inR_f1 {v lo hi : Int32} (h1 : v < lo) : inR v lo hi = false := by
  unfold inR
  rw [Int32.lt_iff_toInt_lt] at h1
  rw [decide_eq_false_iff_not, Int32.le_iff_toInt_le, Int32.le_iff_toInt_le]
  omega
theorem inR_f2 {v lo hi : Int32} (h1 : hi < v) : inR v lo hi = false := by
  unfold inR
  rw [Int32.lt_iff_toInt_lt] at h1
  rw [decide_eq_false_iff_not, Int32.le_iff_toInt_le, Int32.le_iff_toInt_le]
  omega
/-- an int that is a slot's number -/
def isS (n : Nat) (p : Int32) : Bool := decide (0 ≤ p.toInt ∧ p.toInt < (n : Int))
theorem isS_eq {n : Nat} (hn : n ≤ 1000) (p : Int32) : inR p 0 (iI ((n : Int) - 1)) = isS n p := by
  unfold inR isS
  have h1 : (iI ((n : Int) - 1)).toInt = (n : Int) - 1 := iI_toInt (by omega) (by omega)
  have h2 : (0 : Int32).toInt = 0 := by decide
  rw [decide_eq_decide, Int32.le_iff_toInt_le, Int32.le_iff_toInt_le, h1, h2]
  omega
theorem isS_of {n : Nat} (hn : n ≤ 1000) {p : Int32} (h : isS n p = true) : ∃ j : Nat, j < n ∧ p = nI j := by
  unfold isS at h
  rw [decide_eq_true_iff] at h
  refine ⟨p.toInt.toNat, by omega, ?_⟩
  rw [nI_iI, Int.toNat_of_nonneg h.1]
  exact iI_self p
theorem isS_nI {n j : Nat} (hj : j < 2147483648) : isS n (nI j) = decide (j < n) := by
  unfold isS
  rw [nI_toInt (by omega), decide_eq_decide]
  omega
def m_sm (g : Nat → Int32) (s : Int32) : Nat → Int32
  | 0 => s
  | k + 1 => c_rot (m_sm g s k ^^^ g k)
/-- a source's first mark among the first k, or -1 -/
def m_scan (u : c_St) (s : Nat) : Nat → Int
  | 0 => -1
  | k + 1 => if m_scan u s k = -1 then (if cu_F u 5 k = s then (k : Int) else -1) else m_scan u s k
def m_first (u : c_St) (s : Nat) : Int := m_scan u s (cu_N u 1)
theorem m_scan_b (u : c_St) (s : Nat) : ∀ k, -1 ≤ m_scan u s k ∧ m_scan u s k < (k : Int)
  | 0 => by unfold m_scan; omega
  | k + 1 => by
    have := m_scan_b u s k
    unfold m_scan
    split
    · split <;> omega
    · omega
theorem m_scan_n {u : c_St} {s k : Nat} (h : m_scan u s k = -1) (h2 : cu_F u 5 k ≠ s) : m_scan u s (k + 1) = -1 := by
  unfold m_scan
  rw [if_pos h, if_neg h2]
theorem m_scan_y {u : c_St} {s k : Nat} (h : m_scan u s k = -1) (h2 : cu_F u 5 k = s) : ∀ d, m_scan u s (k + 1 + d) = (k : Int)
  | 0 => by
    show m_scan u s (k + 1) = _
    unfold m_scan
    rw [if_pos h, if_pos h2]
  | d + 1 => by
    have h3 := m_scan_y h h2 d
    show (if m_scan u s (k + 1 + d) = -1 then _ else m_scan u s (k + 1 + d)) = _
    rw [h3, if_neg (by omega)]
def m_off (u : c_St) (s : Nat) : Int := if m_first u s < 0 then 0 else cu_D u 0 (m_first u s).toNat
def m_beg (u : c_St) (n : Nat) : Int := (cu_F u 1 n : Int) + m_off u (cu_F u 0 n)
def m_lt (u : c_St) (x y : Nat) : Bool := decide (m_beg u x < m_beg u y ∨ (m_beg u x = m_beg u y ∧ (cu_F u 0 x < cu_F u 0 y ∨ (cu_F u 0 x = cu_F u 0 y ∧ x < y))))
def m_in (b : Int) (t1 t2 : Int32) (k : Nat) : Bool := decide (t1.toInt ≤ b + (k : Int) ∧ b + (k : Int) < t2.toInt)
theorem m_in_t {b : Int} {t1 t2 : Int32} {k : Nat} (h1 : t1.toInt ≤ b + (k : Int)) (h2 : b + (k : Int) < t2.toInt) : m_in b t1 t2 k = true := decide_eq_true ⟨h1, h2⟩
theorem m_in_f1 {b : Int} {t1 t2 : Int32} {k : Nat} (h1 : b + (k : Int) < t1.toInt) : m_in b t1 t2 k = false := decide_eq_false (by omega)
theorem m_in_f2 {b : Int} {t1 t2 : Int32} {k : Nat} (h1 : t2.toInt ≤ b + (k : Int)) : m_in b t1 t2 k = false := decide_eq_false (by omega)
def m_wi (b : Int) (t1 t2 : Int32) : Nat → Nat
  | 0 => 0
  | k + 1 => m_wi b t1 t2 k + (if m_in b t1 t2 k = true then 1 else 0)
theorem m_wi_t {b : Int} {t1 t2 : Int32} {k : Nat} (h : m_in b t1 t2 k = true) : nI (m_wi b t1 t2 k) + 1 = nI (m_wi b t1 t2 (k + 1)) := by
  show _ = nI (m_wi b t1 t2 k + _)
  rw [if_pos h]
  exact nI_1 _
theorem m_wi_f {b : Int} {t1 t2 : Int32} {k : Nat} (h : m_in b t1 t2 k = false) : nI (m_wi b t1 t2 k) + 0 = nI (m_wi b t1 t2 (k + 1)) := by
  show _ = nI (m_wi b t1 t2 k + _)
  rw [if_neg (by rw [h]; decide)]
  exact nI_add _ 0
theorem m_wi_le (b : Int) (t1 t2 : Int32) : ∀ k, m_wi b t1 t2 k ≤ k
  | 0 => Nat.le_refl _
  | k + 1 => by
    have := m_wi_le b t1 t2 k
    show m_wi b t1 t2 k + _ ≤ _
    split <;> omega
def m_fit (u : c_St) (n : Nat) (t1 t2 pu pi : Int32) : Bool := !cu_B u 0 n && (decide (pu < 0) || decide (nI (cu_F u 3 n) = pu)) && (decide (pi < 0) || decide (nI (cu_F u 4 n) = pi)) && decide (0 < m_wi (m_beg u n) t1 t2 (cu_F u 2 n))
/-- how many that fit are ahead of s among the first k -/
def m_ah (u : c_St) (t1 t2 pu pi : Int32) (s : Nat) : Nat → Nat
  | 0 => 0
  | k + 1 => m_ah u t1 t2 pu pi s k + (if (k ≠ s ∧ m_lt u k s = true) ∧ m_fit u k t1 t2 pu pi = true then 1 else 0)
theorem m_ah_t {u : c_St} {t1 t2 pu pi : Int32} {s k : Nat} (h1 : k ≠ s) (h2 : m_lt u k s = true) (h3 : m_fit u k t1 t2 pu pi = true) : nI (m_ah u t1 t2 pu pi s k) + 1 = nI (m_ah u t1 t2 pu pi s (k + 1)) := by
  show _ = nI (m_ah u t1 t2 pu pi s k + _)
  rw [if_pos ⟨⟨h1, h2⟩, h3⟩]
  exact nI_1 _
theorem m_ah_f {u : c_St} {t1 t2 pu pi : Int32} {s k : Nat} (h : ¬ ((k ≠ s ∧ m_lt u k s = true) ∧ m_fit u k t1 t2 pu pi = true)) : nI (m_ah u t1 t2 pu pi s k) + 0 = nI (m_ah u t1 t2 pu pi s (k + 1)) := by
  show _ = nI (m_ah u t1 t2 pu pi s k + _)
  rw [if_neg h]
  exact nI_add _ 0
theorem m_ah_le (u : c_St) (t1 t2 pu pi : Int32) (s : Nat) : ∀ k, m_ah u t1 t2 pu pi s k ≤ k
  | 0 => Nat.le_refl _
  | k + 1 => by
    have := m_ah_le u t1 t2 pu pi s k
    show m_ah u t1 t2 pu pi s k + _ ≤ _
    split <;> omega
/-- the first of the first k slots that fits and has many ahead, or -1 -/
def m_fnd (u : c_St) (t1 t2 pu pi : Int32) (q : Nat) : Nat → Int
  | 0 => -1
  | s + 1 => if m_fnd u t1 t2 pu pi q s = -1 then (if m_fit u s t1 t2 pu pi = true ∧ m_ah u t1 t2 pu pi s (cu_N u 0) = q then (s : Int) else -1) else m_fnd u t1 t2 pu pi q s
theorem m_fnd_n {u : c_St} {t1 t2 pu pi : Int32} {q s : Nat} (h : m_fnd u t1 t2 pu pi q s = -1) (h2 : ¬ (m_fit u s t1 t2 pu pi = true ∧ m_ah u t1 t2 pu pi s (cu_N u 0) = q)) : m_fnd u t1 t2 pu pi q (s + 1) = -1 := by
  unfold m_fnd
  rw [if_pos h, if_neg h2]
theorem m_fnd_y {u : c_St} {t1 t2 pu pi : Int32} {q s : Nat} (h : m_fnd u t1 t2 pu pi q s = -1) (h2 : m_fit u s t1 t2 pu pi = true ∧ m_ah u t1 t2 pu pi s (cu_N u 0) = q) : ∀ d, m_fnd u t1 t2 pu pi q (s + 1 + d) = (s : Int)
  | 0 => by
    show m_fnd u t1 t2 pu pi q (s + 1) = _
    unfold m_fnd
    rw [if_pos h, if_pos h2]
  | d + 1 => by
    have h3 := m_fnd_y h h2 d
    show (if m_fnd u t1 t2 pu pi q (s + 1 + d) = -1 then _ else m_fnd u t1 t2 pu pi q (s + 1 + d)) = _
    rw [h3, if_neg (by omega)]
def m_sw (g : Nat → Int32) (b : Int) (t1 t2 : Int32) (s : Int32) : Nat → Int32
  | 0 => s
  | k + 1 => if m_in b t1 t2 k = true then c_rot (m_sw g b t1 t2 s k ^^^ g k) else m_sw g b t1 t2 s k
theorem m_sw_t {g : Nat → Int32} {b : Int} {t1 t2 s : Int32} {k : Nat} (h : m_in b t1 t2 k = true) : c_rot (m_sw g b t1 t2 s k ^^^ g k) = m_sw g b t1 t2 s (k + 1) := by
  show _ = (if m_in b t1 t2 k = true then _ else _)
  rw [if_pos h]
theorem m_sw_f {g : Nat → Int32} {b : Int} {t1 t2 s : Int32} {k : Nat} (h : m_in b t1 t2 k = false) : m_sw g b t1 t2 s k = m_sw g b t1 t2 s (k + 1) := by
  show _ = (if m_in b t1 t2 k = true then _ else _)
  rw [if_neg (by rw [h]; decide)]
def m_code (b1 b2 b3 : Bool) : Nat := if b1 = true then 1 else if b2 = true then 2 else if b3 = true then 3 else 0
/-- what always holds of the reference's numbers -/
def m_ok (u : c_St) : Prop := cu_N u 0 ≤ 200 ∧ cu_N u 1 ≤ 60 ∧
  (∀ n, n < cu_N u 0 → cu_F u 0 n < 10 ∧ cu_F u 1 n ≤ 9999999 ∧ 1 ≤ cu_F u 2 n ∧ cu_F u 2 n ≤ 8 ∧ cu_F u 3 n < 100 ∧ cu_F u 4 n < 50) ∧
  (∀ j, j < cu_N u 1 → cu_F u 5 j < 10 ∧ -9999999 ≤ cu_D u 0 j ∧ cu_D u 0 j ≤ 9999999)
theorem m_first_b (u : c_St) (s : Nat) : -1 ≤ m_first u s ∧ m_first u s < (cu_N u 1 : Int) := m_scan_b u s _
theorem m_off_b {u : c_St} (h : m_ok u) (s : Nat) : -9999999 ≤ m_off u s ∧ m_off u s ≤ 9999999 := by
  have h1 := m_first_b u s
  unfold m_off
  split
  · omega
  · exact (h.2.2.2 (m_first u s).toNat (by omega)).2
theorem m_beg_b {u : c_St} (h : m_ok u) {n : Nat} (hn : n < cu_N u 0) : -9999999 ≤ m_beg u n ∧ m_beg u n ≤ 19999998 := by
  have h1 := h.2.2.1 n hn
  have h2 := m_off_b h (cu_F u 0 n)
  unfold m_beg
  omega

set_option maxHeartbeats 4000000 in
set_option maxRecDepth 100000 in
theorem c_X6_in (l : Launch) (dC : Nat → ClassId) (dI : Nat → Nat → Nat) (a : Nat → Nat) (k : c_K) (u : c_St) (v lo hi : Int32) : Met l yX6_in wsX6_in ({ frames := 0, cells := 0, slots := 0, locals := 0 }) (va_Pc [.int v, .int lo, .int hi] (w_ro (dC, dI) vwCl (wR a k u) (tC k))) (vp_Si (fun r => r = bI (inR v lo hi))) 0 0 (fun _ => False) := by
  refine Met.ofW (cc := cX6_in) (maxL := 3) (ret := (some .boolean)) (by decide) rfl ?_
  intro p e s m args below meth c s₁ B hml hv
  obtain ⟨rfl, hP, hK⟩ := hv
  have hx := B.exec
  have hb := B.bytes
  have hr := B.returns
  have hts := atoms_spec (ws := wsX6_in) B.pre
  have htg : ∀ w ∈ wG, w.before _ s = true := fun w h => hts w (List.mem_cons_of_mem _ h)
  have hown : s.vm.findClass RX6 = some m.cls := findClass_of_methodNamed B.named
  have hlocks := B.notSynchronized
  have hl := lv_entry ([.int v, .int lo, .int hi]) (n := 3) (Nat.le_of_ble_eq_true rfl)
  rw [lg_entry_eq]
  generalize (lg_sl ([.int v, .int lo, .int hi]) ++ List.replicate (3 - (lg_sl ([.int v, .int lo, .int hi])).length) Slot.unset).toArray = ls at hl ⊢
  have hl : lv_has ls 3 [(0, .int v), (1, .int lo), (2, .int hi)] := hl
  refine lv_iload_n hx hb dX6_in_0 rfl (lv_at hl 0 rfl) ?_
  refine lv_iload_n hx hb dX6_in_1 rfl (lv_at hl 1 rfl) ?_
  refine lv_icmp_lt (tgt := 14) hx hb dX6_in_2 (by decide) (fun c_2 => ?_) (fun c_2 => ?_)
  · refine lv_iconst (v := 0) hx hb dX6_in_14 (by decide) ?_
    exact W.zret (v := bI false) hx hb hr (bI_narw _) (fun t9 ht9 hW9 => ⟨_, rfl, congrArg bI (inR_f1 c_2).symm, ht9⟩) (fun _ h => by cases h) dX6_in_15
  · refine lv_iload_n hx hb dX6_in_5 rfl (lv_at hl 0 rfl) ?_
    refine lv_iload_n hx hb dX6_in_6 rfl (lv_at hl 2 rfl) ?_
    refine lv_icmp_gt (tgt := 14) hx hb dX6_in_7 (by decide) (fun c_7 => ?_) (fun c_7 => ?_)
    · refine lv_iconst (v := 0) hx hb dX6_in_14 (by decide) ?_
      exact W.zret (v := bI false) hx hb hr (bI_narw _) (fun t9 ht9 hW9 => ⟨_, rfl, congrArg bI (inR_f2 c_7).symm, ht9⟩) (fun _ h => by cases h) dX6_in_15
    · refine lv_iconst (v := 1) hx hb dX6_in_10 (by decide) ?_
      refine lv_goto (tgt := 15) hx hb dX6_in_11 (by decide) ?_
      exact W.zret (v := bI true) hx hb hr (bI_narw _) (fun t9 ht9 hW9 => ⟨_, rfl, congrArg bI (inR_t c_2 c_7).symm, ht9⟩) (fun _ h => by cases h) dX6_in_15
set_option maxHeartbeats 4000000 in
set_option maxRecDepth 100000 in
theorem c_X6_isSlot (l : Launch) (dC : Nat → ClassId) (dI : Nat → Nat → Nat) (a : Nat → Nat) (k : c_K) (u : c_St) (hN : cu_N u 0 ≤ 200) (pv : Int32) : Met l yX6_isSlot wsX6_isSlot ({ frames := 1, cells := 0, slots := 0, locals := 22 }) (va_Pc [.ref (a 0), .int pv] (w_ro (dC, dI) vwCl (wR a k u) (tC k))) (vp_Si (fun r => r = bI (isS (cu_N u 0) pv))) 0 0 (fun _ => False) := by
  refine Met.ofW (cc := cX6_isSlot) (maxL := 2) (ret := (some .boolean)) (by decide) rfl ?_
  intro p e s m args below meth c s₁ B hml hv
  obtain ⟨rfl, hP, hK⟩ := hv
  have hx := B.exec
  have hb := B.bytes
  have hr := B.returns
  have hts := atoms_spec (ws := wsX6_isSlot) B.pre
  have htg : ∀ w ∈ wG, w.before _ s = true := fun w h => hts w (List.mem_cons_of_mem _ h)
  have hown : s.vm.findClass RX6 = some m.cls := findClass_of_methodNamed B.named
  have hlocks := B.notSynchronized
  have hl := lv_entry ([.ref (a 0), .int pv]) (n := 2) (Nat.le_of_ble_eq_true rfl)
  rw [lg_entry_eq]
  generalize (lg_sl ([.ref (a 0), .int pv]) ++ List.replicate (2 - (lg_sl ([.ref (a 0), .int pv])).length) Slot.unset).toArray = ls at hl ⊢
  have hl : lv_has ls 2 [(0, .ref (a 0)), (1, .int pv)] := hl
  refine lv_iload_n hx hb dX6_isSlot_0 rfl (lv_at hl 1 rfl) ?_
  refine lv_iconst (v := 0) hx hb dX6_isSlot_1 (by decide) ?_
  refine lv_aload_n hx hb dX6_isSlot_2 rfl (lv_at hl 0 rfl) ?_
  refine va_get (D := (dC, dI)) (ci := 6) (v := .int (nI (cu_N u 0))) (C := RX6) (T := TX6) (N := 20) hx hb htg inX6 hown hK hP 0 (wR_g0 a k _) rfl 1 (by decide) (htg _ q_582) (fun _ h9 => h9) rfl dX6_isSlot_3 ?_
  refine lv_iconst (v := 1) hx hb dX6_isSlot_6 (by decide) ?_
  refine lv_isub hx hb dX6_isSlot_7 ?_
  refine wtopi (y := iI ((cu_N u 0 : Int) - 1)) (show nI (cu_N u 0) - 1 = iI ((cu_N u 0 : Int) - 1) from by rw [nI_iI]; exact iI_sub _ 1) ?_
  refine vp_callSi (W.runS (As := [.int pv, .int 0, .int (iI ((cu_N u 0 : Int) - 1))]) (rest := []) ⟨hx, hb, hml, hown, hts⟩ (c_X6_in l dC dI a k u pv 0 (iI ((cu_N u 0 : Int) - 1))) (cwS 3 hts (wG_S wG_c q_650 q_651 q_7 q_652) rfl rfl rfl (by decide +kernel) ⟨Nat.le_of_ble_eq_true rfl, Nat.le_of_ble_eq_true rfl⟩) (w_roS hK hP) rfl rfl hl.1 rfl (lv_room (Nat.le_of_ble_eq_true rfl)) dX6_isSlot_8 ⟨Nat.le_of_ble_eq_true rfl, Nat.le_of_ble_eq_true rfl⟩) (fun r_1 hr_1 => ?_)
  subst hr_1
  exact W.zret (v := bI (inR pv 0 (iI ((cu_N u 0 : Int) - 1)))) hx hb hr (bI_narw _) (fun t9 ht9 hW9 => ⟨_, rfl, (congrArg bI (isS_eq (by omega) pv)), ht9⟩) (fun _ h => by cases h) dX6_isSlot_11
set_option maxHeartbeats 4000000 in
set_option maxRecDepth 100000 in
theorem c_X6_with (l : Launch) (dC : Nat → ClassId) (dI : Nat → Nat → Nat) (a : Nat → Nat) (k : c_K) (u : c_St) (s0 b : Int32) : Met l yX6_with wsX6_with ({ frames := 0, cells := 0, slots := 0, locals := 0 }) (va_Pc [.int s0, .int b] (w_ro (dC, dI) vwCl (wR a k u) (tC k))) (vp_Si (fun r => r = c_rot (s0 ^^^ b))) 0 0 (fun _ => False) := by
  refine Met.ofW (cc := cX6_with) (maxL := 3) (ret := (some .int)) (by decide) rfl ?_
  intro p e s m args below meth c s₁ B hml hv
  obtain ⟨rfl, hP, hK⟩ := hv
  have hx := B.exec
  have hb := B.bytes
  have hr := B.returns
  have hts := atoms_spec (ws := wsX6_with) B.pre
  have htg : ∀ w ∈ wG, w.before _ s = true := fun w h => hts w (List.mem_cons_of_mem _ h)
  have hown : s.vm.findClass RX6 = some m.cls := findClass_of_methodNamed B.named
  have hlocks := B.notSynchronized
  have hl := lv_entry ([.int s0, .int b]) (n := 3) (Nat.le_of_ble_eq_true rfl)
  rw [lg_entry_eq]
  generalize (lg_sl ([.int s0, .int b]) ++ List.replicate (3 - (lg_sl ([.int s0, .int b])).length) Slot.unset).toArray = ls at hl ⊢
  have hl : lv_has ls 3 [(0, .int s0), (1, .int b)] := hl
  refine lv_iload_n hx hb dX6_with_0 rfl (lv_at hl 0 rfl) ?_
  refine lv_iload_n hx hb dX6_with_1 rfl (lv_at hl 1 rfl) ?_
  refine lv_ixor hx hb dX6_with_2 ?_
  refine lv_istore_n (lv' := [(2, .int (s0 ^^^ b)), (0, .int s0), (1, .int b)]) hx hb dX6_with_3 rfl hl (by decide) rfl (fun ls hl => ?_)
  refine lv_iload_n hx hb dX6_with_4 rfl (lv_at hl 0 rfl) ?_
  refine lv_iconst (v := 5) hx hb dX6_with_5 (by decide) ?_
  refine lv_ishl hx hb dX6_with_6 ?_
  refine lv_iload_n hx hb dX6_with_7 rfl (lv_at hl 0 rfl) ?_
  refine lv_bipush (v := 27) hx hb dX6_with_8 (by decide) ?_
  refine lv_iushr hx hb dX6_with_10 rfl ?_
  refine lv_ior hx hb dX6_with_11 ?_
  refine lv_ldc (v := (-2048144789)) hx hb hown (htg _ q_665) dX6_with_12 ?_
  refine lv_imul hx hb dX6_with_14 ?_
  exact W.iret (v := (((s0 ^^^ b) <<< (5 &&& 31)) ||| (((s0 ^^^ b).toUInt32 >>> ((27 : Int32).toUInt32 &&& Int32.toUInt32 31)).toInt32)) * (-2048144789)) hx hb hr (fun t9 ht9 hW9 => ⟨_, rfl, rfl, ht9⟩) (fun _ h => by cases h) dX6_with_15
set_option maxHeartbeats 4000000 in
set_option maxRecDepth 100000 in
theorem c_X6_sumOf (l : Launch) (dC : Nat → ClassId) (dI : Nat → Nat → Nat) (a : Nat → Nat) (k : c_K) (u : c_St) (n : Nat) (hn : n < 200) (h8 : cu_F u 2 n ≤ 8) : Met l yX6_sumOf wsX6_sumOf ({ frames := 1, cells := 0, slots := 0, locals := 22 }) (va_Pc [.ref (a 0), .int (nI n)] (w_ro (dC, dI) vwCl (wR a k u) (tC k))) (vp_Si (fun r => r = m_sm (fun i => cu_G u 2 (8 * n + i)) 0 (cu_F u 2 n))) 0 0 (fun _ => False) := by
  refine Met.ofW (cc := cX6_sumOf) (maxL := 4) (ret := (some .int)) (by decide) rfl ?_
  intro p e s m args below meth c s₁ B hml hv
  obtain ⟨rfl, hP, hK⟩ := hv
  have hx := B.exec
  have hb := B.bytes
  have hr := B.returns
  have hts := atoms_spec (ws := wsX6_sumOf) B.pre
  have htg : ∀ w ∈ wG, w.before _ s = true := fun w h => hts w (List.mem_cons_of_mem _ h)
  have hown : s.vm.findClass RX6 = some m.cls := findClass_of_methodNamed B.named
  have hlocks := B.notSynchronized
  have hl := lv_entry ([.ref (a 0), .int (nI n)]) (n := 4) (Nat.le_of_ble_eq_true rfl)
  rw [lg_entry_eq]
  generalize (lg_sl ([.ref (a 0), .int (nI n)]) ++ List.replicate (4 - (lg_sl ([.ref (a 0), .int (nI n)])).length) Slot.unset).toArray = ls at hl ⊢
  have hl : lv_has ls 4 [(0, .ref (a 0)), (1, .int (nI n))] := hl
  refine lv_iconst (v := 0) hx hb dX6_sumOf_0 (by decide) ?_
  refine lv_istore_n (lv' := [(2, .int 0), (0, .ref (a 0)), (1, .int (nI n))]) hx hb dX6_sumOf_1 rfl hl (by decide) rfl (fun ls hl => ?_)
  refine lv_iconst (v := 0) hx hb dX6_sumOf_2 (by decide) ?_
  refine lv_istore_n (lv' := [(3, .int 0), (2, .int 0), (0, .ref (a 0)), (1, .int (nI n))]) hx hb dX6_sumOf_3 rfl hl (by decide) rfl (fun ls hl => ?_)
  refine w_loop (fun j : Nat => cu_F u 2 n - j) (fun j ls => j ≤ cu_F u 2 n ∧ lv_has ls 4 [(0, .ref (a 0)), (1, .int (nI n)), (2, .int (m_sm (fun i => cu_G u 2 (8 * n + i)) 0 j)), (3, .int (nI j))]) ?_ (0) ls ⟨Nat.zero_le _, lv_sub hl [2, 3, 1, 0] rfl⟩
  clear hl
  intro j ls hI ih
  obtain ⟨hI, hl⟩ := hI
  refine lv_iload_n hx hb dX6_sumOf_4 rfl (lv_at hl 3 rfl) ?_
  refine lv_aload_n hx hb dX6_sumOf_5 rfl (lv_at hl 0 rfl) ?_
  refine va_get (D := (dC, dI)) (ci := 6) (v := .ref (a 3)) (C := RX6) (T := TX6) (N := 20) hx hb htg inX6 hown hK hP 0 (wR_g0 a k _) rfl 4 (by decide) (htg _ q_585) (fun _ h9 => h9) rfl dX6_sumOf_6 ?_
  refine lv_iload_n hx hb dX6_sumOf_9 rfl (lv_at hl 1 rfl) ?_
  refine va_iald hx hb hK hP 3 0 (wR_g3 a k _) rfl (vp_in_nI (n := n) (N := 200) (by omega) (by decide)) dX6_sumOf_10 ?_
  refine wtopi (nI (cu_F u 2 n)) (congrArg (fun j9 => nI (cu_F u 2 j9)) (nI_clamp (n := n) (Nat.lt_trans (m := 200) (by omega) (by decide)))) ?_
  refine nb_ge (a := j) (b := (cu_F u 2 n)) (tgt := 36) hx hb (by omega) (by omega) rfl rfl dX6_sumOf_11 (by decide) (fun c_11 => ?_) (fun c_11 => ?_)
  · refine lv_iload_n hx hb dX6_sumOf_36 rfl (lv_at hl 2 rfl) ?_
    exact W.iret (v := m_sm (fun i => cu_G u 2 (8 * n + i)) 0 j) hx hb hr (fun t9 ht9 hW9 => ⟨_, rfl, (by rw [show cu_F u 2 n = j by omega]), ht9⟩) (fun _ h => by cases h) dX6_sumOf_37
  · refine lv_iload_n hx hb dX6_sumOf_14 rfl (lv_at hl 2 rfl) ?_
    refine lv_aload_n hx hb dX6_sumOf_15 rfl (lv_at hl 0 rfl) ?_
    refine va_get (D := (dC, dI)) (ci := 6) (v := .ref (a 14)) (C := RX6) (T := TX6) (N := 20) hx hb htg inX6 hown hK hP 0 (wR_g0 a k _) rfl 5 (by decide) (htg _ q_586) (fun _ h9 => h9) rfl dX6_sumOf_16 ?_
    refine lv_bipush (v := 8) hx hb dX6_sumOf_19 (by decide) ?_
    refine lv_iload_n hx hb dX6_sumOf_21 rfl (lv_at hl 1 rfl) ?_
    refine lv_imul hx hb dX6_sumOf_22 ?_
    refine wtopi (y := nI (8 * n)) (pk_mul 8 n) ?_
    refine lv_iload_n hx hb dX6_sumOf_23 rfl (lv_at hl 3 rfl) ?_
    refine lv_iadd hx hb dX6_sumOf_24 ?_
    refine wtopi (y := nI (8 * n + j)) (nI_add _ _) ?_
    refine va_iald hx hb hK hP 14 0 (wR_g14 a k _) rfl (vp_in_nI (n := (8 * n + j)) (N := 1600) (by omega) (by decide)) dX6_sumOf_25 ?_
    refine wtopi (cu_G u 2 (8 * n + j)) (congrArg (fun j9 => cu_G u 2 j9) (nI_clamp (n := (8 * n + j)) (Nat.lt_trans (m := 1600) (by omega) (by decide)))) ?_
    refine vp_callSi (W.runS (As := [.int (m_sm (fun i => cu_G u 2 (8 * n + i)) 0 j), .int (cu_G u 2 (8 * n + j))]) (rest := []) ⟨hx, hb, hml, hown, hts⟩ (c_X6_with l dC dI a k u (m_sm (fun i => cu_G u 2 (8 * n + i)) 0 j) (cu_G u 2 (8 * n + j))) (cwS 2 hts (wG_S wG_c q_662 q_663 q_7 q_664) rfl rfl rfl (by decide +kernel) ⟨Nat.le_of_ble_eq_true rfl, Nat.le_of_ble_eq_true rfl⟩) (w_roS hK hP) rfl rfl hl.1 rfl (lv_room (Nat.le_of_ble_eq_true rfl)) dX6_sumOf_26 ⟨Nat.le_of_ble_eq_true rfl, Nat.le_of_ble_eq_true rfl⟩) (fun r_1 hr_1 => ?_)
    subst hr_1
    refine lv_istore_n (lv' := [(2, .int (m_sm (fun i => cu_G u 2 (8 * n + i)) 0 (j + 1))), (0, .ref (a 0)), (1, .int (nI n)), (3, .int (nI j))]) hx hb dX6_sumOf_29 rfl hl (by decide) rfl (fun ls hl => ?_)
    refine lv_iinc (v := nI (j + 1)) (lv' := [(3, .int (nI (j + 1))), (2, .int (m_sm (fun i => cu_G u 2 (8 * n + i)) 0 (j + 1))), (0, .ref (a 0)), (1, .int (nI n))]) hx hb dX6_sumOf_30 hl (k := 3) rfl (nI_1 j) (by decide) rfl (fun ls hl => ?_)
    refine lv_goto (tgt := 4) hx hb dX6_sumOf_33 (by decide) ?_
    exact ih (j + 1) ls (by omega) ⟨by omega, lv_sub hl [2, 3, 1, 0] rfl⟩
set_option maxHeartbeats 4000000 in
set_option maxRecDepth 100000 in
theorem c_X6_firstMark (l : Launch) (dC : Nat → ClassId) (dI : Nat → Nat → Nat) (a : Nat → Nat) (k : c_K) (u : c_St) (hM : cu_N u 1 ≤ 60) (sc : Nat) (hs : sc < 10) (hm : ∀ j, j < cu_N u 1 → cu_F u 5 j < 10) : Met l yX6_firstMark wsX6_firstMark ({ frames := 0, cells := 0, slots := 0, locals := 0 }) (va_Pc [.ref (a 0), .int (nI sc)] (w_ro (dC, dI) vwCl (wR a k u) (tC k))) (vp_Si (fun r => r = iI (m_first u sc))) 0 0 (fun _ => False) := by
  refine Met.ofW (cc := cX6_firstMark) (maxL := 3) (ret := (some .int)) (by decide) rfl ?_
  intro p e s m args below meth c s₁ B hml hv
  obtain ⟨rfl, hP, hK⟩ := hv
  have hx := B.exec
  have hb := B.bytes
  have hr := B.returns
  have hts := atoms_spec (ws := wsX6_firstMark) B.pre
  have htg : ∀ w ∈ wG, w.before _ s = true := fun w h => hts w (List.mem_cons_of_mem _ h)
  have hown : s.vm.findClass RX6 = some m.cls := findClass_of_methodNamed B.named
  have hlocks := B.notSynchronized
  have hl := lv_entry ([.ref (a 0), .int (nI sc)]) (n := 3) (Nat.le_of_ble_eq_true rfl)
  rw [lg_entry_eq]
  generalize (lg_sl ([.ref (a 0), .int (nI sc)]) ++ List.replicate (3 - (lg_sl ([.ref (a 0), .int (nI sc)])).length) Slot.unset).toArray = ls at hl ⊢
  have hl : lv_has ls 3 [(0, .ref (a 0)), (1, .int (nI sc))] := hl
  refine lv_iconst (v := 0) hx hb dX6_firstMark_0 (by decide) ?_
  refine lv_istore_n (lv' := [(2, .int 0), (0, .ref (a 0)), (1, .int (nI sc))]) hx hb dX6_firstMark_1 rfl hl (by decide) rfl (fun ls hl => ?_)
  refine w_loop (fun j : Nat => cu_N u 1 - j) (fun j ls => (j ≤ cu_N u 1 ∧ m_scan u sc j = -1) ∧ lv_has ls 3 [(0, .ref (a 0)), (1, .int (nI sc)), (2, .int (nI j))]) ?_ (0) ls ⟨⟨Nat.zero_le _, rfl⟩, lv_sub hl [1, 2, 0] rfl⟩
  clear hl
  intro j ls hI ih
  obtain ⟨hI, hl⟩ := hI
  refine lv_iload_n hx hb dX6_firstMark_2 rfl (lv_at hl 2 rfl) ?_
  refine lv_aload_n hx hb dX6_firstMark_3 rfl (lv_at hl 0 rfl) ?_
  refine va_get (D := (dC, dI)) (ci := 6) (v := .int (nI (cu_N u 1))) (C := RX6) (T := TX6) (N := 20) hx hb htg inX6 hown hK hP 0 (wR_g0 a k _) rfl 10 (by decide) (htg _ q_591) (fun _ h9 => h9) rfl dX6_firstMark_4 ?_
  refine nb_ge (a := j) (b := (cu_N u 1)) (tgt := 28) hx hb (by omega) (by omega) rfl rfl dX6_firstMark_7 (by decide) (fun c_7 => ?_) (fun c_7 => ?_)
  · refine lv_iconst (v := (-1)) hx hb dX6_firstMark_28 (by decide) ?_
    exact W.iret (v := (-1)) hx hb hr (fun t9 ht9 hW9 => ⟨_, rfl, (show (-1 : Int32) = iI (m_first u sc) from by unfold m_first; rw [show cu_N u 1 = j by omega, hI.2]; rfl), ht9⟩) (fun _ h => by cases h) dX6_firstMark_29
  · have hmj := hm j c_7
    refine lv_aload_n hx hb dX6_firstMark_10 rfl (lv_at hl 0 rfl) ?_
    refine va_get (D := (dC, dI)) (ci := 6) (v := .ref (a 6)) (C := RX6) (T := TX6) (N := 20) hx hb htg inX6 hown hK hP 0 (wR_g0 a k _) rfl 11 (by decide) (htg _ q_592) (fun _ h9 => h9) rfl dX6_firstMark_11 ?_
    refine lv_iload_n hx hb dX6_firstMark_14 rfl (lv_at hl 2 rfl) ?_
    refine va_iald hx hb hK hP 6 0 (wR_g6 a k _) rfl (vp_in_nI (n := j) (N := 60) (by omega) (by decide)) dX6_firstMark_15 ?_
    refine wtopi (nI (cu_F u 5 j)) (congrArg (fun j9 => nI (cu_F u 5 j9)) (nI_clamp (n := j) (Nat.lt_trans (m := 60) (by omega) (by decide)))) ?_
    refine lv_iload_n hx hb dX6_firstMark_16 rfl (lv_at hl 1 rfl) ?_
    refine nb_ne (a := (cu_F u 5 j)) (b := sc) (tgt := 22) hx hb (by omega) (by omega) rfl rfl dX6_firstMark_17 (by decide) (fun c_17 => ?_) (fun c_17 => ?_)
    · refine lv_iinc (v := nI (j + 1)) (lv' := [(2, .int (nI (j + 1))), (0, .ref (a 0)), (1, .int (nI sc))]) hx hb dX6_firstMark_22 hl (k := 2) rfl (nI_1 j) (by decide) rfl (fun ls hl => ?_)
      refine lv_goto (tgt := 2) hx hb dX6_firstMark_25 (by decide) ?_
      exact ih (j + 1) ls (by omega) ⟨⟨by omega, m_scan_n hI.2 c_17⟩, lv_sub hl [1, 2, 0] rfl⟩
    · refine lv_iload_n hx hb dX6_firstMark_20 rfl (lv_at hl 2 rfl) ?_
      exact W.iret (v := nI j) hx hb hr (fun t9 ht9 hW9 => ⟨_, rfl, (show nI j = iI (m_first u sc) from by rw [nI_iI, ← m_scan_y hI.2 c_17 (cu_N u 1 - j - 1), show j + 1 + (cu_N u 1 - j - 1) = cu_N u 1 by omega]; rfl), ht9⟩) (fun _ h => by cases h) dX6_firstMark_21
set_option maxHeartbeats 4000000 in
set_option maxRecDepth 100000 in
theorem c_X6_offsetOf (l : Launch) (dC : Nat → ClassId) (dI : Nat → Nat → Nat) (a : Nat → Nat) (k : c_K) (u : c_St) (hM : cu_N u 1 ≤ 60) (sc : Nat) (hs : sc < 10) (hm : ∀ j, j < cu_N u 1 → cu_F u 5 j < 10) : Met l yX6_offsetOf wsX6_offsetOf ({ frames := 1, cells := 0, slots := 0, locals := 22 }) (va_Pc [.ref (a 0), .int (nI sc)] (w_ro (dC, dI) vwCl (wR a k u) (tC k))) (vp_Si (fun r => r = iI (m_off u sc))) 0 0 (fun _ => False) := by
  have hfb := m_first_b u sc
  refine Met.ofW (cc := cX6_offsetOf) (maxL := 3) (ret := (some .int)) (by decide) rfl ?_
  intro p e s m args below meth c s₁ B hml hv
  obtain ⟨rfl, hP, hK⟩ := hv
  have hx := B.exec
  have hb := B.bytes
  have hr := B.returns
  have hts := atoms_spec (ws := wsX6_offsetOf) B.pre
  have htg : ∀ w ∈ wG, w.before _ s = true := fun w h => hts w (List.mem_cons_of_mem _ h)
  have hown : s.vm.findClass RX6 = some m.cls := findClass_of_methodNamed B.named
  have hlocks := B.notSynchronized
  have hl := lv_entry ([.ref (a 0), .int (nI sc)]) (n := 3) (Nat.le_of_ble_eq_true rfl)
  rw [lg_entry_eq]
  generalize (lg_sl ([.ref (a 0), .int (nI sc)]) ++ List.replicate (3 - (lg_sl ([.ref (a 0), .int (nI sc)])).length) Slot.unset).toArray = ls at hl ⊢
  have hl : lv_has ls 3 [(0, .ref (a 0)), (1, .int (nI sc))] := hl
  refine lv_aload_n hx hb dX6_offsetOf_0 rfl (lv_at hl 0 rfl) ?_
  refine lv_iload_n hx hb dX6_offsetOf_1 rfl (lv_at hl 1 rfl) ?_
  refine vp_callSi (W.runV (As := [.int (nI sc)]) (rest := []) ⟨hx, hb, hml, hown, hts⟩ (c_X6_firstMark l dC dI a k u hM sc hs hm) (cwV 1 hts (wG_V wG_c q_678 q_680 p_10 q_7 q_681) rfl rfl rfl (by decide +kernel) ⟨Nat.le_of_ble_eq_true rfl, Nat.le_of_ble_eq_true rfl⟩) (w_roV hK hP (ci := 6) (q0 := 0) rfl (wR_g0 a k _) rfl) rfl rfl hl.1 rfl (lv_room (Nat.le_of_ble_eq_true rfl)) dX6_offsetOf_2 ⟨Nat.le_of_ble_eq_true rfl, Nat.le_of_ble_eq_true rfl⟩) (fun r_1 hr_1 => ?_)
  subst hr_1
  refine lv_istore_n (lv' := [(2, .int (iI (m_first u sc))), (0, .ref (a 0)), (1, .int (nI sc))]) hx hb dX6_offsetOf_5 rfl hl (by decide) rfl (fun ls hl => ?_)
  refine lv_iload_n hx hb dX6_offsetOf_6 rfl (lv_at hl 0 rfl) ?_
  refine iz_ge (a := (m_first u sc)) (tgt := 14) hx hb (by omega) (by omega) rfl dX6_offsetOf_7 (by decide) (fun c_7 => ?_) (fun c_7 => ?_)
  · refine lv_aload_n hx hb dX6_offsetOf_14 rfl (lv_at hl 1 rfl) ?_
    refine va_get (D := (dC, dI)) (ci := 6) (v := .ref (a 15)) (C := RX6) (T := TX6) (N := 20) hx hb htg inX6 hown hK hP 0 (wR_g0 a k _) rfl 12 (by decide) (htg _ q_593) (fun _ h9 => h9) rfl dX6_offsetOf_15 ?_
    refine lv_iload_n hx hb dX6_offsetOf_18 rfl (lv_at hl 0 rfl) ?_
    refine wtopi (y := nI ((m_first u sc).toNat)) (show iI (m_first u sc) = nI (m_first u sc).toNat from by rw [nI_iI, Int.toNat_of_nonneg c_7]) ?_
    refine va_iald hx hb hK hP 15 0 (wR_g15 a k _) rfl (vp_in_nI (n := ((m_first u sc).toNat)) (N := 60) (show (m_first u sc).toNat < 60 by omega) (by decide)) dX6_offsetOf_19 ?_
    refine wtopi (iI (cu_D u 0 ((m_first u sc).toNat))) (congrArg (fun j9 => iI (cu_D u 0 j9)) (nI_clamp (n := ((m_first u sc).toNat)) (Nat.lt_trans (m := 60) (show (m_first u sc).toNat < 60 by omega) (by decide)))) ?_
    exact W.iret (v := iI (cu_D u 0 ((m_first u sc).toNat))) hx hb hr (fun t9 ht9 hW9 => ⟨_, rfl, (by unfold m_off; rw [if_neg (by omega)]), ht9⟩) (fun _ h => by cases h) dX6_offsetOf_20
  · refine lv_iconst (v := 0) hx hb dX6_offsetOf_10 (by decide) ?_
    refine lv_goto (tgt := 20) hx hb dX6_offsetOf_11 (by decide) ?_
    exact W.iret (v := 0) hx hb hr (fun t9 ht9 hW9 => ⟨_, rfl, (show (0 : Int32) = iI (m_off u sc) from by unfold m_off; rw [if_pos c_7]; rfl), ht9⟩) (fun _ h => by cases h) dX6_offsetOf_20
set_option maxHeartbeats 4000000 in
set_option maxRecDepth 100000 in
theorem c_X6_begin (l : Launch) (dC : Nat → ClassId) (dI : Nat → Nat → Nat) (a : Nat → Nat) (k : c_K) (u : c_St) (h : m_ok u) (n : Nat) (hn : n < cu_N u 0) : Met l yX6_begin wsX6_begin ({ frames := 2, cells := 0, slots := 0, locals := 44 }) (va_Pc [.ref (a 0), .int (nI n)] (w_ro (dC, dI) vwCl (wR a k u) (tC k))) (vp_Si (fun r => r = iI (m_beg u n))) 0 0 (fun _ => False) := by
  have h20 := h.1
  have h60 := h.2.1
  have hn2 := h.2.2.1 n hn
  refine Met.ofW (cc := cX6_begin) (maxL := 2) (ret := (some .int)) (by decide) rfl ?_
  intro p e s m args below meth c s₁ B hml hv
  obtain ⟨rfl, hP, hK⟩ := hv
  have hx := B.exec
  have hb := B.bytes
  have hr := B.returns
  have hts := atoms_spec (ws := wsX6_begin) B.pre
  have htg : ∀ w ∈ wG, w.before _ s = true := fun w h => hts w (List.mem_cons_of_mem _ h)
  have hown : s.vm.findClass RX6 = some m.cls := findClass_of_methodNamed B.named
  have hlocks := B.notSynchronized
  have hl := lv_entry ([.ref (a 0), .int (nI n)]) (n := 2) (Nat.le_of_ble_eq_true rfl)
  rw [lg_entry_eq]
  generalize (lg_sl ([.ref (a 0), .int (nI n)]) ++ List.replicate (2 - (lg_sl ([.ref (a 0), .int (nI n)])).length) Slot.unset).toArray = ls at hl ⊢
  have hl : lv_has ls 2 [(0, .ref (a 0)), (1, .int (nI n))] := hl
  refine lv_aload_n hx hb dX6_begin_0 rfl (lv_at hl 0 rfl) ?_
  refine va_get (D := (dC, dI)) (ci := 6) (v := .ref (a 2)) (C := RX6) (T := TX6) (N := 20) hx hb htg inX6 hown hK hP 0 (wR_g0 a k _) rfl 3 (by decide) (htg _ q_584) (fun _ h9 => h9) rfl dX6_begin_1 ?_
  refine lv_iload_n hx hb dX6_begin_4 rfl (lv_at hl 1 rfl) ?_
  refine va_iald hx hb hK hP 2 0 (wR_g2 a k _) rfl (vp_in_nI (n := n) (N := 200) (by omega) (by decide)) dX6_begin_5 ?_
  refine wtopi (nI (cu_F u 1 n)) (congrArg (fun j9 => nI (cu_F u 1 j9)) (nI_clamp (n := n) (Nat.lt_trans (m := 200) (by omega) (by decide)))) ?_
  refine lv_aload_n hx hb dX6_begin_6 rfl (lv_at hl 0 rfl) ?_
  refine lv_aload_n hx hb dX6_begin_7 rfl (lv_at hl 0 rfl) ?_
  refine va_get (D := (dC, dI)) (ci := 6) (v := .ref (a 1)) (C := RX6) (T := TX6) (N := 20) hx hb htg inX6 hown hK hP 0 (wR_g0 a k _) rfl 2 (by decide) (htg _ q_583) (fun _ h9 => h9) rfl dX6_begin_8 ?_
  refine lv_iload_n hx hb dX6_begin_11 rfl (lv_at hl 1 rfl) ?_
  refine va_iald hx hb hK hP 1 0 (wR_g1 a k _) rfl (vp_in_nI (n := n) (N := 200) (by omega) (by decide)) dX6_begin_12 ?_
  refine wtopi (nI (cu_F u 0 n)) (congrArg (fun j9 => nI (cu_F u 0 j9)) (nI_clamp (n := n) (Nat.lt_trans (m := 200) (by omega) (by decide)))) ?_
  refine vp_callSi (W.runV (As := [.int (nI (cu_F u 0 n))]) (rest := [.int (nI (cu_F u 1 n))]) ⟨hx, hb, hml, hown, hts⟩ (c_X6_offsetOf l dC dI a k u h60 (cu_F u 0 n) hn2.1 (fun j hj => (h.2.2.2 j hj).1)) (cwV 1 hts (wG_V wG_c q_674 q_676 p_9 q_7 q_677) rfl rfl rfl (by decide +kernel) ⟨Nat.le_of_ble_eq_true rfl, Nat.le_of_ble_eq_true rfl⟩) (w_roV hK hP (ci := 6) (q0 := 0) rfl (wR_g0 a k _) rfl) rfl rfl hl.1 rfl (lv_room (Nat.le_of_ble_eq_true rfl)) dX6_begin_13 ⟨Nat.le_of_ble_eq_true rfl, Nat.le_of_ble_eq_true rfl⟩) (fun r_1 hr_1 => ?_)
  subst hr_1
  refine lv_iadd hx hb dX6_begin_16 ?_
  refine wtopi (y := iI (m_beg u n)) (nI_addI _ _) ?_
  exact W.iret (v := iI (m_beg u n)) hx hb hr (fun t9 ht9 hW9 => ⟨_, rfl, rfl, ht9⟩) (fun _ h => by cases h) dX6_begin_17
set_option maxHeartbeats 4000000 in
set_option maxRecDepth 100000 in
theorem c_X6_goesAhead (l : Launch) (dC : Nat → ClassId) (dI : Nat → Nat → Nat) (a : Nat → Nat) (k : c_K) (u : c_St) (h : m_ok u) (x y : Nat) (hx9 : x < cu_N u 0) (hy9 : y < cu_N u 0) : Met l yX6_goesAhead wsX6_goesAhead ({ frames := 3, cells := 0, slots := 0, locals := 65 }) (va_Pc [.ref (a 0), .int (nI x), .int (nI y)] (w_ro (dC, dI) vwCl (wR a k u) (tC k))) (vp_Si (fun r => r = bI (m_lt u x y))) 0 0 (fun _ => False) := by
  have h20 := h.1
  have hx2 := h.2.2.1 x hx9
  have hy2 := h.2.2.1 y hy9
  have hbx := m_beg_b h hx9
  have hby := m_beg_b h hy9
  refine Met.ofW (cc := cX6_goesAhead) (maxL := 5) (ret := (some .boolean)) (by decide) rfl ?_
  intro p e s m args below meth c s₁ B hml hv
  obtain ⟨rfl, hP, hK⟩ := hv
  have hx := B.exec
  have hb := B.bytes
  have hr := B.returns
  have hts := atoms_spec (ws := wsX6_goesAhead) B.pre
  have htg : ∀ w ∈ wG, w.before _ s = true := fun w h => hts w (List.mem_cons_of_mem _ h)
  have hown : s.vm.findClass RX6 = some m.cls := findClass_of_methodNamed B.named
  have hlocks := B.notSynchronized
  have hl := lv_entry ([.ref (a 0), .int (nI x), .int (nI y)]) (n := 5) (Nat.le_of_ble_eq_true rfl)
  rw [lg_entry_eq]
  generalize (lg_sl ([.ref (a 0), .int (nI x), .int (nI y)]) ++ List.replicate (5 - (lg_sl ([.ref (a 0), .int (nI x), .int (nI y)])).length) Slot.unset).toArray = ls at hl ⊢
  have hl : lv_has ls 5 [(0, .ref (a 0)), (1, .int (nI x)), (2, .int (nI y))] := hl
  refine lv_aload_n hx hb dX6_goesAhead_0 rfl (lv_at hl 0 rfl) ?_
  refine lv_iload_n hx hb dX6_goesAhead_1 rfl (lv_at hl 1 rfl) ?_
  refine vp_callSi (W.runV (As := [.int (nI x)]) (rest := []) ⟨hx, hb, hml, hown, hts⟩ (c_X6_begin l dC dI a k u h x hx9) (cwV 1 hts (wG_V wG_c q_702 q_704 p_14 q_7 q_705) rfl rfl rfl (by decide +kernel) ⟨Nat.le_of_ble_eq_true rfl, Nat.le_of_ble_eq_true rfl⟩) (w_roV hK hP (ci := 6) (q0 := 0) rfl (wR_g0 a k _) rfl) rfl rfl hl.1 rfl (lv_room (Nat.le_of_ble_eq_true rfl)) dX6_goesAhead_2 ⟨Nat.le_of_ble_eq_true rfl, Nat.le_of_ble_eq_true rfl⟩) (fun r_1 hr_1 => ?_)
  subst hr_1
  refine lv_istore_n (lv' := [(3, .int (iI (m_beg u x))), (0, .ref (a 0)), (1, .int (nI x)), (2, .int (nI y))]) hx hb dX6_goesAhead_5 rfl hl (by decide) rfl (fun ls hl => ?_)
  refine lv_aload_n hx hb dX6_goesAhead_6 rfl (lv_at hl 1 rfl) ?_
  refine lv_iload_n hx hb dX6_goesAhead_7 rfl (lv_at hl 3 rfl) ?_
  refine vp_callSi (W.runV (As := [.int (nI y)]) (rest := []) ⟨hx, hb, hml, hown, hts⟩ (c_X6_begin l dC dI a k u h y hy9) (cwV 1 hts (wG_V wG_c q_702 q_704 p_14 q_7 q_705) rfl rfl rfl (by decide +kernel) ⟨Nat.le_of_ble_eq_true rfl, Nat.le_of_ble_eq_true rfl⟩) (w_roV hK hP (ci := 6) (q0 := 0) rfl (wR_g0 a k _) rfl) rfl rfl hl.1 rfl (lv_room (Nat.le_of_ble_eq_true rfl)) dX6_goesAhead_8 ⟨Nat.le_of_ble_eq_true rfl, Nat.le_of_ble_eq_true rfl⟩) (fun r_2 hr_2 => ?_)
  subst hr_2
  refine lv_istore (lv' := [(4, .int (iI (m_beg u y))), (3, .int (iI (m_beg u x))), (0, .ref (a 0)), (1, .int (nI x)), (2, .int (nI y))]) hx hb dX6_goesAhead_11 hl (by decide) rfl (fun ls hl => ?_)
  refine lv_iload_n hx hb dX6_goesAhead_13 rfl (lv_at hl 1 rfl) ?_
  refine lv_iload hx hb dX6_goesAhead_14 (lv_at hl 0 rfl) ?_
  refine ib_eq (a := (m_beg u x)) (b := (m_beg u y)) (tgt := 31) hx hb (by omega) (by omega) (by omega) (by omega) rfl rfl dX6_goesAhead_16 (by decide) (fun c_16 => ?_) (fun c_16 => ?_)
  · refine lv_aload_n hx hb dX6_goesAhead_31 rfl (lv_at hl 2 rfl) ?_
    refine va_get (D := (dC, dI)) (ci := 6) (v := .ref (a 1)) (C := RX6) (T := TX6) (N := 20) hx hb htg inX6 hown hK hP 0 (wR_g0 a k _) rfl 2 (by decide) (htg _ q_583) (fun _ h9 => h9) rfl dX6_goesAhead_32 ?_
    refine lv_iload_n hx hb dX6_goesAhead_35 rfl (lv_at hl 3 rfl) ?_
    refine va_iald hx hb hK hP 1 0 (wR_g1 a k _) rfl (vp_in_nI (n := x) (N := 200) (by omega) (by decide)) dX6_goesAhead_36 ?_
    refine wtopi (nI (cu_F u 0 x)) (congrArg (fun j9 => nI (cu_F u 0 j9)) (nI_clamp (n := x) (Nat.lt_trans (m := 200) (by omega) (by decide)))) ?_
    refine lv_aload_n hx hb dX6_goesAhead_37 rfl (lv_at hl 2 rfl) ?_
    refine va_get (D := (dC, dI)) (ci := 6) (v := .ref (a 1)) (C := RX6) (T := TX6) (N := 20) hx hb htg inX6 hown hK hP 0 (wR_g0 a k _) rfl 2 (by decide) (htg _ q_583) (fun _ h9 => h9) rfl dX6_goesAhead_38 ?_
    refine lv_iload_n hx hb dX6_goesAhead_41 rfl (lv_at hl 4 rfl) ?_
    refine va_iald hx hb hK hP 1 0 (wR_g1 a k _) rfl (vp_in_nI (n := y) (N := 200) (by omega) (by decide)) dX6_goesAhead_42 ?_
    refine wtopi (nI (cu_F u 0 y)) (congrArg (fun j9 => nI (cu_F u 0 j9)) (nI_clamp (n := y) (Nat.lt_trans (m := 200) (by omega) (by decide)))) ?_
    refine nb_lt (a := (cu_F u 0 x)) (b := (cu_F u 0 y)) (tgt := 66) hx hb (by omega) (by omega) rfl rfl dX6_goesAhead_43 (by decide) (fun c_43 => ?_) (fun c_43 => ?_)
    · refine lv_iconst (v := 1) hx hb dX6_goesAhead_66 (by decide) ?_
      refine lv_goto (tgt := 71) hx hb dX6_goesAhead_67 (by decide) ?_
      exact W.zret (v := bI true) hx hb hr (bI_narw _) (fun t9 ht9 hW9 => ⟨_, rfl, congrArg bI (by unfold m_lt; symm; simp only [decide_eq_true_eq, decide_eq_false_iff_not]; omega), ht9⟩) (fun _ h => by cases h) dX6_goesAhead_71
    · refine lv_aload_n hx hb dX6_goesAhead_46 rfl (lv_at hl 2 rfl) ?_
      refine va_get (D := (dC, dI)) (ci := 6) (v := .ref (a 1)) (C := RX6) (T := TX6) (N := 20) hx hb htg inX6 hown hK hP 0 (wR_g0 a k _) rfl 2 (by decide) (htg _ q_583) (fun _ h9 => h9) rfl dX6_goesAhead_47 ?_
      refine lv_iload_n hx hb dX6_goesAhead_50 rfl (lv_at hl 3 rfl) ?_
      refine va_iald hx hb hK hP 1 0 (wR_g1 a k _) rfl (vp_in_nI (n := x) (N := 200) (by omega) (by decide)) dX6_goesAhead_51 ?_
      refine wtopi (nI (cu_F u 0 x)) (congrArg (fun j9 => nI (cu_F u 0 j9)) (nI_clamp (n := x) (Nat.lt_trans (m := 200) (by omega) (by decide)))) ?_
      refine lv_aload_n hx hb dX6_goesAhead_52 rfl (lv_at hl 2 rfl) ?_
      refine va_get (D := (dC, dI)) (ci := 6) (v := .ref (a 1)) (C := RX6) (T := TX6) (N := 20) hx hb htg inX6 hown hK hP 0 (wR_g0 a k _) rfl 2 (by decide) (htg _ q_583) (fun _ h9 => h9) rfl dX6_goesAhead_53 ?_
      refine lv_iload_n hx hb dX6_goesAhead_56 rfl (lv_at hl 4 rfl) ?_
      refine va_iald hx hb hK hP 1 0 (wR_g1 a k _) rfl (vp_in_nI (n := y) (N := 200) (by omega) (by decide)) dX6_goesAhead_57 ?_
      refine wtopi (nI (cu_F u 0 y)) (congrArg (fun j9 => nI (cu_F u 0 j9)) (nI_clamp (n := y) (Nat.lt_trans (m := 200) (by omega) (by decide)))) ?_
      refine nb_ne (a := (cu_F u 0 x)) (b := (cu_F u 0 y)) (tgt := 70) hx hb (by omega) (by omega) rfl rfl dX6_goesAhead_58 (by decide) (fun c_58 => ?_) (fun c_58 => ?_)
      · refine lv_iconst (v := 0) hx hb dX6_goesAhead_70 (by decide) ?_
        exact W.zret (v := bI false) hx hb hr (bI_narw _) (fun t9 ht9 hW9 => ⟨_, rfl, congrArg bI (by unfold m_lt; symm; simp only [decide_eq_true_eq, decide_eq_false_iff_not]; omega), ht9⟩) (fun _ h => by cases h) dX6_goesAhead_71
      · refine lv_iload_n hx hb dX6_goesAhead_61 rfl (lv_at hl 3 rfl) ?_
        refine lv_iload_n hx hb dX6_goesAhead_62 rfl (lv_at hl 4 rfl) ?_
        refine nb_ge (a := x) (b := y) (tgt := 70) hx hb (by omega) (by omega) rfl rfl dX6_goesAhead_63 (by decide) (fun c_63 => ?_) (fun c_63 => ?_)
        · refine lv_iconst (v := 0) hx hb dX6_goesAhead_70 (by decide) ?_
          exact W.zret (v := bI false) hx hb hr (bI_narw _) (fun t9 ht9 hW9 => ⟨_, rfl, congrArg bI (by unfold m_lt; symm; simp only [decide_eq_true_eq, decide_eq_false_iff_not]; omega), ht9⟩) (fun _ h => by cases h) dX6_goesAhead_71
        · refine lv_iconst (v := 1) hx hb dX6_goesAhead_66 (by decide) ?_
          refine lv_goto (tgt := 71) hx hb dX6_goesAhead_67 (by decide) ?_
          exact W.zret (v := bI true) hx hb hr (bI_narw _) (fun t9 ht9 hW9 => ⟨_, rfl, congrArg bI (by unfold m_lt; symm; simp only [decide_eq_true_eq, decide_eq_false_iff_not]; omega), ht9⟩) (fun _ h => by cases h) dX6_goesAhead_71
  · refine lv_iload_n hx hb dX6_goesAhead_19 rfl (lv_at hl 1 rfl) ?_
    refine lv_iload hx hb dX6_goesAhead_20 (lv_at hl 0 rfl) ?_
    refine ib_ge (a := (m_beg u x)) (b := (m_beg u y)) (tgt := 29) hx hb (by omega) (by omega) (by omega) (by omega) rfl rfl dX6_goesAhead_22 (by decide) (fun c_22 => ?_) (fun c_22 => ?_)
    · refine lv_iconst (v := 0) hx hb dX6_goesAhead_29 (by decide) ?_
      exact W.zret (v := bI false) hx hb hr (bI_narw _) (fun t9 ht9 hW9 => ⟨_, rfl, congrArg bI (by unfold m_lt; symm; simp only [decide_eq_true_eq, decide_eq_false_iff_not]; omega), ht9⟩) (fun _ h => by cases h) dX6_goesAhead_30
    · refine lv_iconst (v := 1) hx hb dX6_goesAhead_25 (by decide) ?_
      refine lv_goto (tgt := 30) hx hb dX6_goesAhead_26 (by decide) ?_
      exact W.zret (v := bI true) hx hb hr (bI_narw _) (fun t9 ht9 hW9 => ⟨_, rfl, congrArg bI (by unfold m_lt; symm; simp only [decide_eq_true_eq, decide_eq_false_iff_not]; omega), ht9⟩) (fun _ h => by cases h) dX6_goesAhead_30
set_option maxHeartbeats 4000000 in
set_option maxRecDepth 100000 in
theorem c_X6_within (l : Launch) (dC : Nat → ClassId) (dI : Nat → Nat → Nat) (a : Nat → Nat) (k : c_K) (u : c_St) (h : m_ok u) (n : Nat) (hn : n < cu_N u 0) (t1 t2 : Int32) : Met l yX6_within wsX6_within ({ frames := 3, cells := 0, slots := 0, locals := 65 }) (va_Pc [.ref (a 0), .int (nI n), .int t1, .int t2] (w_ro (dC, dI) vwCl (wR a k u) (tC k))) (vp_Si (fun r => r = nI (m_wi (m_beg u n) t1 t2 (cu_F u 2 n)))) 0 0 (fun _ => False) := by
  have h20 := h.1
  have h60 := h.2.1
  have hn2 := h.2.2.1 n hn
  have hbb := m_beg_b h hn
  have ht1 := i32_b t1
  have ht2 := i32_b t2
  refine Met.ofW (cc := cX6_within) (maxL := 6) (ret := (some .int)) (by decide) rfl ?_
  intro p e s m args below meth c s₁ B hml hv
  obtain ⟨rfl, hP, hK⟩ := hv
  have hx := B.exec
  have hb := B.bytes
  have hr := B.returns
  have hts := atoms_spec (ws := wsX6_within) B.pre
  have htg : ∀ w ∈ wG, w.before _ s = true := fun w h => hts w (List.mem_cons_of_mem _ h)
  have hown : s.vm.findClass RX6 = some m.cls := findClass_of_methodNamed B.named
  have hlocks := B.notSynchronized
  have hl := lv_entry ([.ref (a 0), .int (nI n), .int t1, .int t2]) (n := 6) (Nat.le_of_ble_eq_true rfl)
  rw [lg_entry_eq]
  generalize (lg_sl ([.ref (a 0), .int (nI n), .int t1, .int t2]) ++ List.replicate (6 - (lg_sl ([.ref (a 0), .int (nI n), .int t1, .int t2])).length) Slot.unset).toArray = ls at hl ⊢
  have hl : lv_has ls 6 [(0, .ref (a 0)), (1, .int (nI n)), (2, .int t1), (3, .int t2)] := hl
  refine lv_iconst (v := 0) hx hb dX6_within_0 (by decide) ?_
  refine lv_istore (lv' := [(4, .int 0), (0, .ref (a 0)), (1, .int (nI n)), (2, .int t1), (3, .int t2)]) hx hb dX6_within_1 hl (by decide) rfl (fun ls hl => ?_)
  refine lv_iconst (v := 0) hx hb dX6_within_3 (by decide) ?_
  refine lv_istore (lv' := [(5, .int 0), (4, .int 0), (0, .ref (a 0)), (1, .int (nI n)), (2, .int t1), (3, .int t2)]) hx hb dX6_within_4 hl (by decide) rfl (fun ls hl => ?_)
  refine w_loop (fun j : Nat => cu_F u 2 n - j) (fun j ls => j ≤ cu_F u 2 n ∧ lv_has ls 6 [(0, .ref (a 0)), (1, .int (nI n)), (2, .int t1), (3, .int t2), (4, .int (nI (m_wi (m_beg u n) t1 t2 j))), (5, .int (nI j))]) ?_ (0) ls ⟨Nat.zero_le _, lv_sub hl [2, 3, 4, 5, 1, 0] rfl⟩
  clear hl
  intro j ls hI ih
  obtain ⟨hI, hl⟩ := hI
  refine lv_iload hx hb dX6_within_6 (lv_at hl 5 rfl) ?_
  refine lv_aload_n hx hb dX6_within_8 rfl (lv_at hl 0 rfl) ?_
  refine va_get (D := (dC, dI)) (ci := 6) (v := .ref (a 3)) (C := RX6) (T := TX6) (N := 20) hx hb htg inX6 hown hK hP 0 (wR_g0 a k _) rfl 4 (by decide) (htg _ q_585) (fun _ h9 => h9) rfl dX6_within_9 ?_
  refine lv_iload_n hx hb dX6_within_12 rfl (lv_at hl 1 rfl) ?_
  refine va_iald hx hb hK hP 3 0 (wR_g3 a k _) rfl (vp_in_nI (n := n) (N := 200) (by omega) (by decide)) dX6_within_13 ?_
  refine wtopi (nI (cu_F u 2 n)) (congrArg (fun j9 => nI (cu_F u 2 j9)) (nI_clamp (n := n) (Nat.lt_trans (m := 200) (by omega) (by decide)))) ?_
  refine nb_ge (a := j) (b := (cu_F u 2 n)) (tgt := 57) hx hb (by omega) (by omega) rfl rfl dX6_within_14 (by decide) (fun c_14 => ?_) (fun c_14 => ?_)
  · refine lv_iload hx hb dX6_within_57 (lv_at hl 4 rfl) ?_
    exact W.iret (v := nI (m_wi (m_beg u n) t1 t2 j)) hx hb hr (fun t9 ht9 hW9 => ⟨_, rfl, (by rw [show cu_F u 2 n = j by omega]), ht9⟩) (fun _ h => by cases h) dX6_within_59
  · refine lv_iload hx hb dX6_within_17 (lv_at hl 4 rfl) ?_
    refine lv_aload_n hx hb dX6_within_19 rfl (lv_at hl 0 rfl) ?_
    refine lv_iload_n hx hb dX6_within_20 rfl (lv_at hl 1 rfl) ?_
    refine vp_callSi (W.runV (As := [.int (nI n)]) (rest := [.int (nI (m_wi (m_beg u n) t1 t2 j))]) ⟨hx, hb, hml, hown, hts⟩ (c_X6_begin l dC dI a k u h n hn) (cwV 1 hts (wG_V wG_c q_702 q_704 p_14 q_7 q_705) rfl rfl rfl (by decide +kernel) ⟨Nat.le_of_ble_eq_true rfl, Nat.le_of_ble_eq_true rfl⟩) (w_roV hK hP (ci := 6) (q0 := 0) rfl (wR_g0 a k _) rfl) rfl rfl hl.1 rfl (lv_room (Nat.le_of_ble_eq_true rfl)) dX6_within_21 ⟨Nat.le_of_ble_eq_true rfl, Nat.le_of_ble_eq_true rfl⟩) (fun r_1 hr_1 => ?_)
    subst hr_1
    refine lv_iload hx hb dX6_within_24 (lv_at hl 5 rfl) ?_
    refine lv_iadd hx hb dX6_within_26 ?_
    refine wtopi (y := iI (m_beg u n + (j : Int))) (by rw [nI_iI, iI_add]) ?_
    refine lv_iload_n hx hb dX6_within_27 rfl (lv_at hl 2 rfl) ?_
    refine wtopi (y := iI t1.toInt) (iI_self t1) ?_
    refine ib_lt (a := (m_beg u n + (j : Int))) (b := t1.toInt) (tgt := 47) hx hb (by omega) (by omega) (by omega) (by omega) rfl rfl dX6_within_28 (by decide) (fun c_28 => ?_) (fun c_28 => ?_)
    · refine lv_iconst (v := 0) hx hb dX6_within_47 (by decide) ?_
      refine lv_iadd hx hb dX6_within_48 ?_
      refine wtopi (y := nI (m_wi (m_beg u n) t1 t2 (j + 1))) (m_wi_f (m_in_f1 c_28)) ?_
      refine lv_istore (lv' := [(4, .int (nI (m_wi (m_beg u n) t1 t2 (j + 1)))), (0, .ref (a 0)), (1, .int (nI n)), (2, .int t1), (3, .int t2), (5, .int (nI j))]) hx hb dX6_within_49 hl (by decide) rfl (fun ls hl => ?_)
      refine lv_iinc (v := nI (j + 1)) (lv' := [(5, .int (nI (j + 1))), (4, .int (nI (m_wi (m_beg u n) t1 t2 (j + 1)))), (0, .ref (a 0)), (1, .int (nI n)), (2, .int t1), (3, .int t2)]) hx hb dX6_within_51 hl (k := 5) rfl (nI_1 j) (by decide) rfl (fun ls hl => ?_)
      refine lv_goto (tgt := 6) hx hb dX6_within_54 (by decide) ?_
      exact ih (j + 1) ls (by omega) ⟨by omega, lv_sub hl [2, 3, 4, 5, 1, 0] rfl⟩
    · refine lv_aload_n hx hb dX6_within_31 rfl (lv_at hl 0 rfl) ?_
      refine lv_iload_n hx hb dX6_within_32 rfl (lv_at hl 1 rfl) ?_
      refine vp_callSi (W.runV (As := [.int (nI n)]) (rest := [.int (nI (m_wi (m_beg u n) t1 t2 j))]) ⟨hx, hb, hml, hown, hts⟩ (c_X6_begin l dC dI a k u h n hn) (cwV 1 hts (wG_V wG_c q_702 q_704 p_14 q_7 q_705) rfl rfl rfl (by decide +kernel) ⟨Nat.le_of_ble_eq_true rfl, Nat.le_of_ble_eq_true rfl⟩) (w_roV hK hP (ci := 6) (q0 := 0) rfl (wR_g0 a k _) rfl) rfl rfl hl.1 rfl (lv_room (Nat.le_of_ble_eq_true rfl)) dX6_within_33 ⟨Nat.le_of_ble_eq_true rfl, Nat.le_of_ble_eq_true rfl⟩) (fun r_2 hr_2 => ?_)
      subst hr_2
      refine lv_iload hx hb dX6_within_36 (lv_at hl 5 rfl) ?_
      refine lv_iadd hx hb dX6_within_38 ?_
      refine wtopi (y := iI (m_beg u n + (j : Int))) (by rw [nI_iI, iI_add]) ?_
      refine lv_iload_n hx hb dX6_within_39 rfl (lv_at hl 3 rfl) ?_
      refine wtopi (y := iI t2.toInt) (iI_self t2) ?_
      refine ib_ge (a := (m_beg u n + (j : Int))) (b := t2.toInt) (tgt := 47) hx hb (by omega) (by omega) (by omega) (by omega) rfl rfl dX6_within_40 (by decide) (fun c_40 => ?_) (fun c_40 => ?_)
      · refine lv_iconst (v := 0) hx hb dX6_within_47 (by decide) ?_
        refine lv_iadd hx hb dX6_within_48 ?_
        refine wtopi (y := nI (m_wi (m_beg u n) t1 t2 (j + 1))) (m_wi_f (m_in_f2 c_40)) ?_
        refine lv_istore (lv' := [(4, .int (nI (m_wi (m_beg u n) t1 t2 (j + 1)))), (0, .ref (a 0)), (1, .int (nI n)), (2, .int t1), (3, .int t2), (5, .int (nI j))]) hx hb dX6_within_49 hl (by decide) rfl (fun ls hl => ?_)
        refine lv_iinc (v := nI (j + 1)) (lv' := [(5, .int (nI (j + 1))), (4, .int (nI (m_wi (m_beg u n) t1 t2 (j + 1)))), (0, .ref (a 0)), (1, .int (nI n)), (2, .int t1), (3, .int t2)]) hx hb dX6_within_51 hl (k := 5) rfl (nI_1 j) (by decide) rfl (fun ls hl => ?_)
        refine lv_goto (tgt := 6) hx hb dX6_within_54 (by decide) ?_
        exact ih (j + 1) ls (by omega) ⟨by omega, lv_sub hl [2, 3, 4, 5, 1, 0] rfl⟩
      · refine lv_iconst (v := 1) hx hb dX6_within_43 (by decide) ?_
        refine lv_goto (tgt := 48) hx hb dX6_within_44 (by decide) ?_
        refine lv_iadd hx hb dX6_within_48 ?_
        refine wtopi (y := nI (m_wi (m_beg u n) t1 t2 (j + 1))) (m_wi_t (m_in_t c_28 c_40)) ?_
        refine lv_istore (lv' := [(4, .int (nI (m_wi (m_beg u n) t1 t2 (j + 1)))), (0, .ref (a 0)), (1, .int (nI n)), (2, .int t1), (3, .int t2), (5, .int (nI j))]) hx hb dX6_within_49 hl (by decide) rfl (fun ls hl => ?_)
        refine lv_iinc (v := nI (j + 1)) (lv' := [(5, .int (nI (j + 1))), (4, .int (nI (m_wi (m_beg u n) t1 t2 (j + 1)))), (0, .ref (a 0)), (1, .int (nI n)), (2, .int t1), (3, .int t2)]) hx hb dX6_within_51 hl (k := 5) rfl (nI_1 j) (by decide) rfl (fun ls hl => ?_)
        refine lv_goto (tgt := 6) hx hb dX6_within_54 (by decide) ?_
        exact ih (j + 1) ls (by omega) ⟨by omega, lv_sub hl [2, 3, 4, 5, 1, 0] rfl⟩
set_option maxHeartbeats 4000000 in
set_option maxRecDepth 100000 in
theorem c_X6_fits (l : Launch) (dC : Nat → ClassId) (dI : Nat → Nat → Nat) (a : Nat → Nat) (k : c_K) (u : c_St) (h : m_ok u) (n : Nat) (hn : n < cu_N u 0) (t1 t2 pu pi : Int32) : Met l yX6_fits wsX6_fits ({ frames := 4, cells := 0, slots := 0, locals := 90 }) (va_Pc [.ref (a 0), .int (nI n), .int t1, .int t2, .int pu, .int pi] (w_ro (dC, dI) vwCl (wR a k u) (tC k))) (vp_Si (fun r => r = bI (m_fit u n t1 t2 pu pi))) 0 0 (fun _ => False) := by
  have h20 := h.1
  have h60 := h.2.1
  have hn2 := h.2.2.1 n hn
  have hwl := m_wi_le (m_beg u n) t1 t2 (cu_F u 2 n)
  refine Met.ofW (cc := cX6_fits) (maxL := 6) (ret := (some .boolean)) (by decide) rfl ?_
  intro p e s m args below meth c s₁ B hml hv
  obtain ⟨rfl, hP, hK⟩ := hv
  have hx := B.exec
  have hb := B.bytes
  have hr := B.returns
  have hts := atoms_spec (ws := wsX6_fits) B.pre
  have htg : ∀ w ∈ wG, w.before _ s = true := fun w h => hts w (List.mem_cons_of_mem _ h)
  have hown : s.vm.findClass RX6 = some m.cls := findClass_of_methodNamed B.named
  have hlocks := B.notSynchronized
  have hl := lv_entry ([.ref (a 0), .int (nI n), .int t1, .int t2, .int pu, .int pi]) (n := 6) (Nat.le_of_ble_eq_true rfl)
  rw [lg_entry_eq]
  generalize (lg_sl ([.ref (a 0), .int (nI n), .int t1, .int t2, .int pu, .int pi]) ++ List.replicate (6 - (lg_sl ([.ref (a 0), .int (nI n), .int t1, .int t2, .int pu, .int pi])).length) Slot.unset).toArray = ls at hl ⊢
  have hl : lv_has ls 6 [(0, .ref (a 0)), (1, .int (nI n)), (2, .int t1), (3, .int t2), (4, .int pu), (5, .int pi)] := hl
  refine lv_aload_n hx hb dX6_fits_0 rfl (lv_at hl 0 rfl) ?_
  refine va_get (D := (dC, dI)) (ci := 6) (v := .ref (a 9)) (C := RX6) (T := TX6) (N := 20) hx hb htg inX6 hown hK hP 0 (wR_g0 a k _) rfl 9 (by decide) (htg _ q_590) (fun _ h9 => h9) rfl dX6_fits_1 ?_
  refine lv_iload_n hx hb dX6_fits_4 rfl (lv_at hl 1 rfl) ?_
  refine va_zald hx hb hK hP 9 2 (wR_g9 a k _) rfl (vp_in_nI (n := n) (N := 200) (by omega) (by decide)) dX6_fits_5 ?_
  refine wtopi (bI (cu_B u 0 n)) (congrArg (fun j9 => bI (cu_B u 0 j9)) (nI_clamp (n := n) (Nat.lt_trans (m := 200) (by omega) (by decide)))) ?_
  refine bz_ne (a := (cu_B u 0 n)) (tgt := 55) hx hb dX6_fits_6 (by decide) (fun c_6 => ?_) (fun c_6 => ?_)
  · refine lv_iconst (v := 0) hx hb dX6_fits_55 (by decide) ?_
    exact W.zret (v := bI false) hx hb hr (bI_narw _) (fun t9 ht9 hW9 => ⟨_, rfl, congrArg bI (by unfold m_fit; symm; simp [*]), ht9⟩) (fun _ h => by cases h) dX6_fits_56
  · refine lv_iload hx hb dX6_fits_9 (lv_at hl 4 rfl) ?_
    refine lv_if_lt (tgt := 25) hx hb dX6_fits_11 (by decide) (fun c_11 => ?_) (fun c_11 => ?_)
    · refine lv_iload hx hb dX6_fits_25 (lv_at hl 5 rfl) ?_
      refine lv_if_lt (tgt := 41) hx hb dX6_fits_27 (by decide) (fun c_27 => ?_) (fun c_27 => ?_)
      · refine lv_aload_n hx hb dX6_fits_41 rfl (lv_at hl 0 rfl) ?_
        refine lv_iload_n hx hb dX6_fits_42 rfl (lv_at hl 1 rfl) ?_
        refine lv_iload_n hx hb dX6_fits_43 rfl (lv_at hl 2 rfl) ?_
        refine lv_iload_n hx hb dX6_fits_44 rfl (lv_at hl 3 rfl) ?_
        refine vp_callSi (W.runV (As := [.int (nI n), .int t1, .int t2]) (rest := []) ⟨hx, hb, hml, hown, hts⟩ (c_X6_within l dC dI a k u h n hn t1 t2) (cwV 3 hts (wG_V wG_c q_698 q_700 p_13 q_7 q_701) rfl rfl rfl (by decide +kernel) ⟨Nat.le_of_ble_eq_true rfl, Nat.le_of_ble_eq_true rfl⟩) (w_roV hK hP (ci := 6) (q0 := 0) rfl (wR_g0 a k _) rfl) rfl rfl hl.1 rfl (lv_room (Nat.le_of_ble_eq_true rfl)) dX6_fits_45 ⟨Nat.le_of_ble_eq_true rfl, Nat.le_of_ble_eq_true rfl⟩) (fun r_1 hr_1 => ?_)
        subst hr_1
        refine iz_le (a := (((m_wi (m_beg u n) t1 t2 (cu_F u 2 n)) : Nat) : Int)) (tgt := 55) hx hb (by omega) (by omega) (nI_iI _) dX6_fits_48 (by decide) (fun c_48 => ?_) (fun c_48 => ?_)
        · have c_48 : ¬ 0 < m_wi (m_beg u n) t1 t2 (cu_F u 2 n) := by omega
          refine lv_iconst (v := 0) hx hb dX6_fits_55 (by decide) ?_
          exact W.zret (v := bI false) hx hb hr (bI_narw _) (fun t9 ht9 hW9 => ⟨_, rfl, congrArg bI (by unfold m_fit; symm; simp [*]), ht9⟩) (fun _ h => by cases h) dX6_fits_56
        · have c_48 : 0 < m_wi (m_beg u n) t1 t2 (cu_F u 2 n) := by omega
          refine lv_iconst (v := 1) hx hb dX6_fits_51 (by decide) ?_
          refine lv_goto (tgt := 56) hx hb dX6_fits_52 (by decide) ?_
          exact W.zret (v := bI true) hx hb hr (bI_narw _) (fun t9 ht9 hW9 => ⟨_, rfl, congrArg bI (by unfold m_fit; symm; simp [*]), ht9⟩) (fun _ h => by cases h) dX6_fits_56
      · refine lv_aload_n hx hb dX6_fits_30 rfl (lv_at hl 0 rfl) ?_
        refine va_get (D := (dC, dI)) (ci := 6) (v := .ref (a 5)) (C := RX6) (T := TX6) (N := 20) hx hb htg inX6 hown hK hP 0 (wR_g0 a k _) rfl 7 (by decide) (htg _ q_588) (fun _ h9 => h9) rfl dX6_fits_31 ?_
        refine lv_iload_n hx hb dX6_fits_34 rfl (lv_at hl 1 rfl) ?_
        refine va_iald hx hb hK hP 5 0 (wR_g5 a k _) rfl (vp_in_nI (n := n) (N := 200) (by omega) (by decide)) dX6_fits_35 ?_
        refine wtopi (nI (cu_F u 4 n)) (congrArg (fun j9 => nI (cu_F u 4 j9)) (nI_clamp (n := n) (Nat.lt_trans (m := 200) (by omega) (by decide)))) ?_
        refine lv_iload hx hb dX6_fits_36 (lv_at hl 5 rfl) ?_
        refine lv_icmp_ne (tgt := 55) hx hb dX6_fits_38 (by decide) (fun c_38 => ?_) (fun c_38 => ?_)
        · refine lv_iconst (v := 0) hx hb dX6_fits_55 (by decide) ?_
          exact W.zret (v := bI false) hx hb hr (bI_narw _) (fun t9 ht9 hW9 => ⟨_, rfl, congrArg bI (by unfold m_fit; symm; simp [*]), ht9⟩) (fun _ h => by cases h) dX6_fits_56
        · refine lv_aload_n hx hb dX6_fits_41 rfl (lv_at hl 0 rfl) ?_
          refine lv_iload_n hx hb dX6_fits_42 rfl (lv_at hl 1 rfl) ?_
          refine lv_iload_n hx hb dX6_fits_43 rfl (lv_at hl 2 rfl) ?_
          refine lv_iload_n hx hb dX6_fits_44 rfl (lv_at hl 3 rfl) ?_
          refine vp_callSi (W.runV (As := [.int (nI n), .int t1, .int t2]) (rest := []) ⟨hx, hb, hml, hown, hts⟩ (c_X6_within l dC dI a k u h n hn t1 t2) (cwV 3 hts (wG_V wG_c q_698 q_700 p_13 q_7 q_701) rfl rfl rfl (by decide +kernel) ⟨Nat.le_of_ble_eq_true rfl, Nat.le_of_ble_eq_true rfl⟩) (w_roV hK hP (ci := 6) (q0 := 0) rfl (wR_g0 a k _) rfl) rfl rfl hl.1 rfl (lv_room (Nat.le_of_ble_eq_true rfl)) dX6_fits_45 ⟨Nat.le_of_ble_eq_true rfl, Nat.le_of_ble_eq_true rfl⟩) (fun r_2 hr_2 => ?_)
          subst hr_2
          refine iz_le (a := (((m_wi (m_beg u n) t1 t2 (cu_F u 2 n)) : Nat) : Int)) (tgt := 55) hx hb (by omega) (by omega) (nI_iI _) dX6_fits_48 (by decide) (fun c_48 => ?_) (fun c_48 => ?_)
          · have c_48 : ¬ 0 < m_wi (m_beg u n) t1 t2 (cu_F u 2 n) := by omega
            refine lv_iconst (v := 0) hx hb dX6_fits_55 (by decide) ?_
            exact W.zret (v := bI false) hx hb hr (bI_narw _) (fun t9 ht9 hW9 => ⟨_, rfl, congrArg bI (by unfold m_fit; symm; simp [*]), ht9⟩) (fun _ h => by cases h) dX6_fits_56
          · have c_48 : 0 < m_wi (m_beg u n) t1 t2 (cu_F u 2 n) := by omega
            refine lv_iconst (v := 1) hx hb dX6_fits_51 (by decide) ?_
            refine lv_goto (tgt := 56) hx hb dX6_fits_52 (by decide) ?_
            exact W.zret (v := bI true) hx hb hr (bI_narw _) (fun t9 ht9 hW9 => ⟨_, rfl, congrArg bI (by unfold m_fit; symm; simp [*]), ht9⟩) (fun _ h => by cases h) dX6_fits_56
    · refine lv_aload_n hx hb dX6_fits_14 rfl (lv_at hl 0 rfl) ?_
      refine va_get (D := (dC, dI)) (ci := 6) (v := .ref (a 4)) (C := RX6) (T := TX6) (N := 20) hx hb htg inX6 hown hK hP 0 (wR_g0 a k _) rfl 6 (by decide) (htg _ q_587) (fun _ h9 => h9) rfl dX6_fits_15 ?_
      refine lv_iload_n hx hb dX6_fits_18 rfl (lv_at hl 1 rfl) ?_
      refine va_iald hx hb hK hP 4 0 (wR_g4 a k _) rfl (vp_in_nI (n := n) (N := 200) (by omega) (by decide)) dX6_fits_19 ?_
      refine wtopi (nI (cu_F u 3 n)) (congrArg (fun j9 => nI (cu_F u 3 j9)) (nI_clamp (n := n) (Nat.lt_trans (m := 200) (by omega) (by decide)))) ?_
      refine lv_iload hx hb dX6_fits_20 (lv_at hl 4 rfl) ?_
      refine lv_icmp_ne (tgt := 55) hx hb dX6_fits_22 (by decide) (fun c_22 => ?_) (fun c_22 => ?_)
      · refine lv_iconst (v := 0) hx hb dX6_fits_55 (by decide) ?_
        exact W.zret (v := bI false) hx hb hr (bI_narw _) (fun t9 ht9 hW9 => ⟨_, rfl, congrArg bI (by unfold m_fit; symm; simp [*]), ht9⟩) (fun _ h => by cases h) dX6_fits_56
      · refine lv_iload hx hb dX6_fits_25 (lv_at hl 5 rfl) ?_
        refine lv_if_lt (tgt := 41) hx hb dX6_fits_27 (by decide) (fun c_27 => ?_) (fun c_27 => ?_)
        · refine lv_aload_n hx hb dX6_fits_41 rfl (lv_at hl 0 rfl) ?_
          refine lv_iload_n hx hb dX6_fits_42 rfl (lv_at hl 1 rfl) ?_
          refine lv_iload_n hx hb dX6_fits_43 rfl (lv_at hl 2 rfl) ?_
          refine lv_iload_n hx hb dX6_fits_44 rfl (lv_at hl 3 rfl) ?_
          refine vp_callSi (W.runV (As := [.int (nI n), .int t1, .int t2]) (rest := []) ⟨hx, hb, hml, hown, hts⟩ (c_X6_within l dC dI a k u h n hn t1 t2) (cwV 3 hts (wG_V wG_c q_698 q_700 p_13 q_7 q_701) rfl rfl rfl (by decide +kernel) ⟨Nat.le_of_ble_eq_true rfl, Nat.le_of_ble_eq_true rfl⟩) (w_roV hK hP (ci := 6) (q0 := 0) rfl (wR_g0 a k _) rfl) rfl rfl hl.1 rfl (lv_room (Nat.le_of_ble_eq_true rfl)) dX6_fits_45 ⟨Nat.le_of_ble_eq_true rfl, Nat.le_of_ble_eq_true rfl⟩) (fun r_3 hr_3 => ?_)
          subst hr_3
          refine iz_le (a := (((m_wi (m_beg u n) t1 t2 (cu_F u 2 n)) : Nat) : Int)) (tgt := 55) hx hb (by omega) (by omega) (nI_iI _) dX6_fits_48 (by decide) (fun c_48 => ?_) (fun c_48 => ?_)
          · have c_48 : ¬ 0 < m_wi (m_beg u n) t1 t2 (cu_F u 2 n) := by omega
            refine lv_iconst (v := 0) hx hb dX6_fits_55 (by decide) ?_
            exact W.zret (v := bI false) hx hb hr (bI_narw _) (fun t9 ht9 hW9 => ⟨_, rfl, congrArg bI (by unfold m_fit; symm; simp [*]), ht9⟩) (fun _ h => by cases h) dX6_fits_56
          · have c_48 : 0 < m_wi (m_beg u n) t1 t2 (cu_F u 2 n) := by omega
            refine lv_iconst (v := 1) hx hb dX6_fits_51 (by decide) ?_
            refine lv_goto (tgt := 56) hx hb dX6_fits_52 (by decide) ?_
            exact W.zret (v := bI true) hx hb hr (bI_narw _) (fun t9 ht9 hW9 => ⟨_, rfl, congrArg bI (by unfold m_fit; symm; simp [*]), ht9⟩) (fun _ h => by cases h) dX6_fits_56
        · refine lv_aload_n hx hb dX6_fits_30 rfl (lv_at hl 0 rfl) ?_
          refine va_get (D := (dC, dI)) (ci := 6) (v := .ref (a 5)) (C := RX6) (T := TX6) (N := 20) hx hb htg inX6 hown hK hP 0 (wR_g0 a k _) rfl 7 (by decide) (htg _ q_588) (fun _ h9 => h9) rfl dX6_fits_31 ?_
          refine lv_iload_n hx hb dX6_fits_34 rfl (lv_at hl 1 rfl) ?_
          refine va_iald hx hb hK hP 5 0 (wR_g5 a k _) rfl (vp_in_nI (n := n) (N := 200) (by omega) (by decide)) dX6_fits_35 ?_
          refine wtopi (nI (cu_F u 4 n)) (congrArg (fun j9 => nI (cu_F u 4 j9)) (nI_clamp (n := n) (Nat.lt_trans (m := 200) (by omega) (by decide)))) ?_
          refine lv_iload hx hb dX6_fits_36 (lv_at hl 5 rfl) ?_
          refine lv_icmp_ne (tgt := 55) hx hb dX6_fits_38 (by decide) (fun c_38 => ?_) (fun c_38 => ?_)
          · refine lv_iconst (v := 0) hx hb dX6_fits_55 (by decide) ?_
            exact W.zret (v := bI false) hx hb hr (bI_narw _) (fun t9 ht9 hW9 => ⟨_, rfl, congrArg bI (by unfold m_fit; symm; simp [*]), ht9⟩) (fun _ h => by cases h) dX6_fits_56
          · refine lv_aload_n hx hb dX6_fits_41 rfl (lv_at hl 0 rfl) ?_
            refine lv_iload_n hx hb dX6_fits_42 rfl (lv_at hl 1 rfl) ?_
            refine lv_iload_n hx hb dX6_fits_43 rfl (lv_at hl 2 rfl) ?_
            refine lv_iload_n hx hb dX6_fits_44 rfl (lv_at hl 3 rfl) ?_
            refine vp_callSi (W.runV (As := [.int (nI n), .int t1, .int t2]) (rest := []) ⟨hx, hb, hml, hown, hts⟩ (c_X6_within l dC dI a k u h n hn t1 t2) (cwV 3 hts (wG_V wG_c q_698 q_700 p_13 q_7 q_701) rfl rfl rfl (by decide +kernel) ⟨Nat.le_of_ble_eq_true rfl, Nat.le_of_ble_eq_true rfl⟩) (w_roV hK hP (ci := 6) (q0 := 0) rfl (wR_g0 a k _) rfl) rfl rfl hl.1 rfl (lv_room (Nat.le_of_ble_eq_true rfl)) dX6_fits_45 ⟨Nat.le_of_ble_eq_true rfl, Nat.le_of_ble_eq_true rfl⟩) (fun r_4 hr_4 => ?_)
            subst hr_4
            refine iz_le (a := (((m_wi (m_beg u n) t1 t2 (cu_F u 2 n)) : Nat) : Int)) (tgt := 55) hx hb (by omega) (by omega) (nI_iI _) dX6_fits_48 (by decide) (fun c_48 => ?_) (fun c_48 => ?_)
            · have c_48 : ¬ 0 < m_wi (m_beg u n) t1 t2 (cu_F u 2 n) := by omega
              refine lv_iconst (v := 0) hx hb dX6_fits_55 (by decide) ?_
              exact W.zret (v := bI false) hx hb hr (bI_narw _) (fun t9 ht9 hW9 => ⟨_, rfl, congrArg bI (by unfold m_fit; symm; simp [*]), ht9⟩) (fun _ h => by cases h) dX6_fits_56
            · have c_48 : 0 < m_wi (m_beg u n) t1 t2 (cu_F u 2 n) := by omega
              refine lv_iconst (v := 1) hx hb dX6_fits_51 (by decide) ?_
              refine lv_goto (tgt := 56) hx hb dX6_fits_52 (by decide) ?_
              exact W.zret (v := bI true) hx hb hr (bI_narw _) (fun t9 ht9 hW9 => ⟨_, rfl, congrArg bI (by unfold m_fit; symm; simp [*]), ht9⟩) (fun _ h => by cases h) dX6_fits_56
set_option maxHeartbeats 4000000 in
set_option maxRecDepth 100000 in
theorem c_X6_found (l : Launch) (dC : Nat → ClassId) (dI : Nat → Nat → Nat) (a : Nat → Nat) (k : c_K) (u : c_St) (h : m_ok u) (t1 t2 pu pi : Int32) (q : Nat) (hq : q < 2147483648) : Met l yX6_found wsX6_found ({ frames := 5, cells := 0, slots := 0, locals := 115 }) (va_Pc [.ref (a 0), .int t1, .int t2, .int pu, .int pi, .int (nI q)] (w_ro (dC, dI) vwCl (wR a k u) (tC k))) (vp_Si (fun r => r = iI (m_fnd u t1 t2 pu pi q (cu_N u 0)))) 0 0 (fun _ => False) := by
  have h20 := h.1
  refine Met.ofW (cc := cX6_found) (maxL := 9) (ret := (some .int)) (by decide) rfl ?_
  intro p e s m args below meth c s₁ B hml hv
  obtain ⟨rfl, hP, hK⟩ := hv
  have hx := B.exec
  have hb := B.bytes
  have hr := B.returns
  have hts := atoms_spec (ws := wsX6_found) B.pre
  have htg : ∀ w ∈ wG, w.before _ s = true := fun w h => hts w (List.mem_cons_of_mem _ h)
  have hown : s.vm.findClass RX6 = some m.cls := findClass_of_methodNamed B.named
  have hlocks := B.notSynchronized
  have hl := lv_entry ([.ref (a 0), .int t1, .int t2, .int pu, .int pi, .int (nI q)]) (n := 9) (Nat.le_of_ble_eq_true rfl)
  rw [lg_entry_eq]
  generalize (lg_sl ([.ref (a 0), .int t1, .int t2, .int pu, .int pi, .int (nI q)]) ++ List.replicate (9 - (lg_sl ([.ref (a 0), .int t1, .int t2, .int pu, .int pi, .int (nI q)])).length) Slot.unset).toArray = ls at hl ⊢
  have hl : lv_has ls 9 [(0, .ref (a 0)), (1, .int t1), (2, .int t2), (3, .int pu), (4, .int pi), (5, .int (nI q))] := hl
  refine lv_iconst (v := 0) hx hb dX6_found_0 (by decide) ?_
  refine lv_istore (lv' := [(6, .int 0), (0, .ref (a 0)), (1, .int t1), (2, .int t2), (3, .int pu), (4, .int pi), (5, .int (nI q))]) hx hb dX6_found_1 hl (by decide) rfl (fun ls hl => ?_)
  refine w_loop (fun n : Nat => cu_N u 0 - n) (fun n ls => (n ≤ cu_N u 0 ∧ m_fnd u t1 t2 pu pi q n = -1) ∧ lv_has ls 9 [(0, .ref (a 0)), (1, .int t1), (2, .int t2), (3, .int pu), (4, .int pi), (5, .int (nI q)), (6, .int (nI n))]) ?_ (0) ls ⟨⟨Nat.zero_le _, rfl⟩, lv_sub hl [1, 2, 3, 4, 5, 6, 0] rfl⟩
  clear hl
  intro n ls hI ih
  obtain ⟨hI, hl⟩ := hI
  refine lv_iload hx hb dX6_found_3 (lv_at hl 6 rfl) ?_
  refine lv_aload_n hx hb dX6_found_5 rfl (lv_at hl 0 rfl) ?_
  refine va_get (D := (dC, dI)) (ci := 6) (v := .int (nI (cu_N u 0))) (C := RX6) (T := TX6) (N := 20) hx hb htg inX6 hown hK hP 0 (wR_g0 a k _) rfl 1 (by decide) (htg _ q_582) (fun _ h9 => h9) rfl dX6_found_6 ?_
  refine nb_ge (a := n) (b := (cu_N u 0)) (tgt := 105) hx hb (by omega) (by omega) rfl rfl dX6_found_9 (by decide) (fun c_9 => ?_) (fun c_9 => ?_)
  · refine lv_iconst (v := (-1)) hx hb dX6_found_105 (by decide) ?_
    exact W.iret (v := (-1)) hx hb hr (fun t9 ht9 hW9 => ⟨_, rfl, (show (-1 : Int32) = iI (m_fnd u t1 t2 pu pi q (cu_N u 0)) from by rw [show cu_N u 0 = n by omega, hI.2]; rfl), ht9⟩) (fun _ h => by cases h) dX6_found_106
  · refine lv_aload_n hx hb dX6_found_12 rfl (lv_at hl 0 rfl) ?_
    refine lv_iload hx hb dX6_found_13 (lv_at hl 6 rfl) ?_
    refine lv_iload_n hx hb dX6_found_15 rfl (lv_at hl 1 rfl) ?_
    refine lv_iload_n hx hb dX6_found_16 rfl (lv_at hl 2 rfl) ?_
    refine lv_iload_n hx hb dX6_found_17 rfl (lv_at hl 3 rfl) ?_
    refine lv_iload hx hb dX6_found_18 (lv_at hl 4 rfl) ?_
    refine vp_callSi (W.runV (As := [.int (nI n), .int t1, .int t2, .int pu, .int pi]) (rest := []) ⟨hx, hb, hml, hown, hts⟩ (c_X6_fits l dC dI a k u h n (by omega) t1 t2 pu pi) (cwV 5 hts (wG_V wG_c q_694 q_696 p_12 q_7 q_697) rfl rfl rfl (by decide +kernel) ⟨Nat.le_of_ble_eq_true rfl, Nat.le_of_ble_eq_true rfl⟩) (w_roV hK hP (ci := 6) (q0 := 0) rfl (wR_g0 a k _) rfl) rfl rfl hl.1 rfl (lv_room (Nat.le_of_ble_eq_true rfl)) dX6_found_20 ⟨Nat.le_of_ble_eq_true rfl, Nat.le_of_ble_eq_true rfl⟩) (fun r_1 hr_1 => ?_)
    subst hr_1
    refine bz_eq (a := (m_fit u n t1 t2 pu pi)) (tgt := 99) hx hb dX6_found_23 (by decide) (fun c_23 => ?_) (fun c_23 => ?_)
    · refine lv_iinc (v := nI (n + 1)) (lv' := [(6, .int (nI (n + 1))), (0, .ref (a 0)), (1, .int t1), (2, .int t2), (3, .int pu), (4, .int pi), (5, .int (nI q))]) hx hb dX6_found_99 hl (k := 6) rfl (nI_1 n) (by decide) rfl (fun ls hl => ?_)
      refine lv_goto (tgt := 3) hx hb dX6_found_102 (by decide) ?_
      exact ih (n + 1) ls (by omega) ⟨⟨by omega, m_fnd_n hI.2 (fun z => by rw [c_23] at z; cases z.1)⟩, lv_sub hl [1, 2, 3, 4, 5, 6, 0] rfl⟩
    · refine lv_iconst (v := 0) hx hb dX6_found_26 (by decide) ?_
      refine lv_istore (lv' := [(7, .int 0), (0, .ref (a 0)), (1, .int t1), (2, .int t2), (3, .int pu), (4, .int pi), (5, .int (nI q)), (6, .int (nI n))]) hx hb dX6_found_27 hl (by decide) rfl (fun ls hl => ?_)
      refine lv_iconst (v := 0) hx hb dX6_found_29 (by decide) ?_
      refine lv_istore (lv' := [(8, .int 0), (7, .int 0), (0, .ref (a 0)), (1, .int t1), (2, .int t2), (3, .int pu), (4, .int pi), (5, .int (nI q)), (6, .int (nI n))]) hx hb dX6_found_30 hl (by decide) rfl (fun ls hl => ?_)
      have hI0 := hI
      have ih0 := ih
      have hah := m_ah_le u t1 t2 pu pi n
      refine w_loop (fun j : Nat => cu_N u 0 - j) (fun j ls => j ≤ cu_N u 0 ∧ lv_has ls 9 [(0, .ref (a 0)), (1, .int t1), (2, .int t2), (3, .int pu), (4, .int pi), (5, .int (nI q)), (6, .int (nI n)), (7, .int (nI (m_ah u t1 t2 pu pi n j))), (8, .int (nI j))]) ?_ (0) ls ⟨Nat.zero_le _, lv_sub hl [2, 3, 4, 5, 6, 7, 8, 1, 0] rfl⟩
      clear hl
      intro j ls hI ih
      obtain ⟨hI, hl⟩ := hI
      have hahj := hah j
      refine lv_iload hx hb dX6_found_32 (lv_at hl 8 rfl) ?_
      refine lv_aload_n hx hb dX6_found_34 rfl (lv_at hl 0 rfl) ?_
      refine va_get (D := (dC, dI)) (ci := 6) (v := .int (nI (cu_N u 0))) (C := RX6) (T := TX6) (N := 20) hx hb htg inX6 hown hK hP 0 (wR_g0 a k _) rfl 1 (by decide) (htg _ q_582) (fun _ h9 => h9) rfl dX6_found_35 ?_
      refine nb_ge (a := j) (b := (cu_N u 0)) (tgt := 89) hx hb (by omega) (by omega) rfl rfl dX6_found_38 (by decide) (fun c_38 => ?_) (fun c_38 => ?_)
      · refine lv_iload hx hb dX6_found_89 (lv_at hl 7 rfl) ?_
        refine lv_iload hx hb dX6_found_91 (lv_at hl 5 rfl) ?_
        refine nb_ne (a := (m_ah u t1 t2 pu pi n j)) (b := q) (tgt := 99) hx hb (by omega) (by omega) rfl rfl dX6_found_93 (by decide) (fun c_93 => ?_) (fun c_93 => ?_)
        · refine lv_iinc (v := nI (n + 1)) (lv' := [(6, .int (nI (n + 1))), (0, .ref (a 0)), (1, .int t1), (2, .int t2), (3, .int pu), (4, .int pi), (5, .int (nI q)), (7, .int (nI (m_ah u t1 t2 pu pi n j))), (8, .int (nI j))]) hx hb dX6_found_99 hl (k := 6) rfl (nI_1 n) (by decide) rfl (fun ls hl => ?_)
          refine lv_goto (tgt := 3) hx hb dX6_found_102 (by decide) ?_
          exact ih0 (n + 1) ls (by omega) ⟨⟨by omega, m_fnd_n hI0.2 (fun z => c_93 (by rw [show j = cu_N u 0 by omega]; exact z.2))⟩, lv_sub hl [1, 2, 3, 4, 5, 6, 0] rfl⟩
        · refine lv_iload hx hb dX6_found_96 (lv_at hl 6 rfl) ?_
          exact W.iret (v := nI n) hx hb hr (fun t9 ht9 hW9 => ⟨_, rfl, (show nI n = iI (m_fnd u t1 t2 pu pi q (cu_N u 0)) from by rw [nI_iI, ← m_fnd_y hI0.2 ⟨c_23, by rw [show cu_N u 0 = j by omega]; exact c_93⟩ (cu_N u 0 - n - 1), show n + 1 + (cu_N u 0 - n - 1) = cu_N u 0 by omega]), ht9⟩) (fun _ h => by cases h) dX6_found_98
      · refine lv_iload hx hb dX6_found_41 (lv_at hl 7 rfl) ?_
        refine lv_iload hx hb dX6_found_43 (lv_at hl 8 rfl) ?_
        refine lv_iload hx hb dX6_found_45 (lv_at hl 6 rfl) ?_
        refine nb_eq (a := j) (b := n) (tgt := 79) hx hb (by omega) (by omega) rfl rfl dX6_found_47 (by decide) (fun c_47 => ?_) (fun c_47 => ?_)
        · refine lv_iconst (v := 0) hx hb dX6_found_79 (by decide) ?_
          refine lv_iadd hx hb dX6_found_80 ?_
          refine wtopi (y := nI (m_ah u t1 t2 pu pi n (j + 1))) (m_ah_f (fun z => z.1.1 c_47)) ?_
          refine lv_istore (lv' := [(7, .int (nI (m_ah u t1 t2 pu pi n (j + 1)))), (0, .ref (a 0)), (1, .int t1), (2, .int t2), (3, .int pu), (4, .int pi), (5, .int (nI q)), (6, .int (nI n)), (8, .int (nI j))]) hx hb dX6_found_81 hl (by decide) rfl (fun ls hl => ?_)
          refine lv_iinc (v := nI (j + 1)) (lv' := [(8, .int (nI (j + 1))), (7, .int (nI (m_ah u t1 t2 pu pi n (j + 1)))), (0, .ref (a 0)), (1, .int t1), (2, .int t2), (3, .int pu), (4, .int pi), (5, .int (nI q)), (6, .int (nI n))]) hx hb dX6_found_83 hl (k := 8) rfl (nI_1 j) (by decide) rfl (fun ls hl => ?_)
          refine lv_goto (tgt := 32) hx hb dX6_found_86 (by decide) ?_
          exact ih (j + 1) ls (by omega) ⟨by omega, lv_sub hl [2, 3, 4, 5, 6, 7, 8, 1, 0] rfl⟩
        · refine lv_aload_n hx hb dX6_found_50 rfl (lv_at hl 0 rfl) ?_
          refine lv_iload hx hb dX6_found_51 (lv_at hl 8 rfl) ?_
          refine lv_iload hx hb dX6_found_53 (lv_at hl 6 rfl) ?_
          refine vp_callSi (W.runV (As := [.int (nI j), .int (nI n)]) (rest := [.int (nI (m_ah u t1 t2 pu pi n j))]) ⟨hx, hb, hml, hown, hts⟩ (c_X6_goesAhead l dC dI a k u h j n (by omega) (by omega)) (cwV 2 hts (wG_V wG_c q_706 q_708 p_15 q_7 q_709) rfl rfl rfl (by decide +kernel) ⟨Nat.le_of_ble_eq_true rfl, Nat.le_of_ble_eq_true rfl⟩) (w_roV hK hP (ci := 6) (q0 := 0) rfl (wR_g0 a k _) rfl) rfl rfl hl.1 rfl (lv_room (Nat.le_of_ble_eq_true rfl)) dX6_found_55 ⟨Nat.le_of_ble_eq_true rfl, Nat.le_of_ble_eq_true rfl⟩) (fun r_2 hr_2 => ?_)
          subst hr_2
          refine bz_eq (a := (m_lt u j n)) (tgt := 79) hx hb dX6_found_58 (by decide) (fun c_58 => ?_) (fun c_58 => ?_)
          · refine lv_iconst (v := 0) hx hb dX6_found_79 (by decide) ?_
            refine lv_iadd hx hb dX6_found_80 ?_
            refine wtopi (y := nI (m_ah u t1 t2 pu pi n (j + 1))) (m_ah_f (fun z => by rw [c_58] at z; cases z.1.2)) ?_
            refine lv_istore (lv' := [(7, .int (nI (m_ah u t1 t2 pu pi n (j + 1)))), (0, .ref (a 0)), (1, .int t1), (2, .int t2), (3, .int pu), (4, .int pi), (5, .int (nI q)), (6, .int (nI n)), (8, .int (nI j))]) hx hb dX6_found_81 hl (by decide) rfl (fun ls hl => ?_)
            refine lv_iinc (v := nI (j + 1)) (lv' := [(8, .int (nI (j + 1))), (7, .int (nI (m_ah u t1 t2 pu pi n (j + 1)))), (0, .ref (a 0)), (1, .int t1), (2, .int t2), (3, .int pu), (4, .int pi), (5, .int (nI q)), (6, .int (nI n))]) hx hb dX6_found_83 hl (k := 8) rfl (nI_1 j) (by decide) rfl (fun ls hl => ?_)
            refine lv_goto (tgt := 32) hx hb dX6_found_86 (by decide) ?_
            exact ih (j + 1) ls (by omega) ⟨by omega, lv_sub hl [2, 3, 4, 5, 6, 7, 8, 1, 0] rfl⟩
          · refine lv_aload_n hx hb dX6_found_61 rfl (lv_at hl 0 rfl) ?_
            refine lv_iload hx hb dX6_found_62 (lv_at hl 8 rfl) ?_
            refine lv_iload_n hx hb dX6_found_64 rfl (lv_at hl 1 rfl) ?_
            refine lv_iload_n hx hb dX6_found_65 rfl (lv_at hl 2 rfl) ?_
            refine lv_iload_n hx hb dX6_found_66 rfl (lv_at hl 3 rfl) ?_
            refine lv_iload hx hb dX6_found_67 (lv_at hl 4 rfl) ?_
            refine vp_callSi (W.runV (As := [.int (nI j), .int t1, .int t2, .int pu, .int pi]) (rest := [.int (nI (m_ah u t1 t2 pu pi n j))]) ⟨hx, hb, hml, hown, hts⟩ (c_X6_fits l dC dI a k u h j (by omega) t1 t2 pu pi) (cwV 5 hts (wG_V wG_c q_694 q_696 p_12 q_7 q_697) rfl rfl rfl (by decide +kernel) ⟨Nat.le_of_ble_eq_true rfl, Nat.le_of_ble_eq_true rfl⟩) (w_roV hK hP (ci := 6) (q0 := 0) rfl (wR_g0 a k _) rfl) rfl rfl hl.1 rfl (lv_room (Nat.le_of_ble_eq_true rfl)) dX6_found_69 ⟨Nat.le_of_ble_eq_true rfl, Nat.le_of_ble_eq_true rfl⟩) (fun r_3 hr_3 => ?_)
            subst hr_3
            refine bz_eq (a := (m_fit u j t1 t2 pu pi)) (tgt := 79) hx hb dX6_found_72 (by decide) (fun c_72 => ?_) (fun c_72 => ?_)
            · refine lv_iconst (v := 0) hx hb dX6_found_79 (by decide) ?_
              refine lv_iadd hx hb dX6_found_80 ?_
              refine wtopi (y := nI (m_ah u t1 t2 pu pi n (j + 1))) (m_ah_f (fun z => by rw [c_72] at z; cases z.2)) ?_
              refine lv_istore (lv' := [(7, .int (nI (m_ah u t1 t2 pu pi n (j + 1)))), (0, .ref (a 0)), (1, .int t1), (2, .int t2), (3, .int pu), (4, .int pi), (5, .int (nI q)), (6, .int (nI n)), (8, .int (nI j))]) hx hb dX6_found_81 hl (by decide) rfl (fun ls hl => ?_)
              refine lv_iinc (v := nI (j + 1)) (lv' := [(8, .int (nI (j + 1))), (7, .int (nI (m_ah u t1 t2 pu pi n (j + 1)))), (0, .ref (a 0)), (1, .int t1), (2, .int t2), (3, .int pu), (4, .int pi), (5, .int (nI q)), (6, .int (nI n))]) hx hb dX6_found_83 hl (k := 8) rfl (nI_1 j) (by decide) rfl (fun ls hl => ?_)
              refine lv_goto (tgt := 32) hx hb dX6_found_86 (by decide) ?_
              exact ih (j + 1) ls (by omega) ⟨by omega, lv_sub hl [2, 3, 4, 5, 6, 7, 8, 1, 0] rfl⟩
            · refine lv_iconst (v := 1) hx hb dX6_found_75 (by decide) ?_
              refine lv_goto (tgt := 80) hx hb dX6_found_76 (by decide) ?_
              refine lv_iadd hx hb dX6_found_80 ?_
              refine wtopi (y := nI (m_ah u t1 t2 pu pi n (j + 1))) (m_ah_t c_47 c_58 c_72) ?_
              refine lv_istore (lv' := [(7, .int (nI (m_ah u t1 t2 pu pi n (j + 1)))), (0, .ref (a 0)), (1, .int t1), (2, .int t2), (3, .int pu), (4, .int pi), (5, .int (nI q)), (6, .int (nI n)), (8, .int (nI j))]) hx hb dX6_found_81 hl (by decide) rfl (fun ls hl => ?_)
              refine lv_iinc (v := nI (j + 1)) (lv' := [(8, .int (nI (j + 1))), (7, .int (nI (m_ah u t1 t2 pu pi n (j + 1)))), (0, .ref (a 0)), (1, .int t1), (2, .int t2), (3, .int pu), (4, .int pi), (5, .int (nI q)), (6, .int (nI n))]) hx hb dX6_found_83 hl (k := 8) rfl (nI_1 j) (by decide) rfl (fun ls hl => ?_)
              refine lv_goto (tgt := 32) hx hb dX6_found_86 (by decide) ?_
              exact ih (j + 1) ls (by omega) ⟨by omega, lv_sub hl [2, 3, 4, 5, 6, 7, 8, 1, 0] rfl⟩
set_option maxHeartbeats 4000000 in
set_option maxRecDepth 100000 in
theorem c_X6_isGone (l : Launch) (dC : Nat → ClassId) (dI : Nat → Nat → Nat) (a : Nat → Nat) (k : c_K) (u : c_St) (hN : cu_N u 0 ≤ 200) (pv : Int32) : Met l yX6_isGone wsX6_isGone ({ frames := 2, cells := 0, slots := 0, locals := 43 }) (va_Pc [.ref (a 0), .int pv] (w_ro (dC, dI) vwCl (wR a k u) (tC k))) (vp_Si (fun r => r = bI (isS (cu_N u 0) pv && cu_B u 0 pv.toInt.toNat))) 0 0 (fun _ => False) := by
  refine Met.ofW (cc := cX6_isGone) (maxL := 2) (ret := (some .boolean)) (by decide) rfl ?_
  intro p e s m args below meth c s₁ B hml hv
  obtain ⟨rfl, hP, hK⟩ := hv
  have hx := B.exec
  have hb := B.bytes
  have hr := B.returns
  have hts := atoms_spec (ws := wsX6_isGone) B.pre
  have htg : ∀ w ∈ wG, w.before _ s = true := fun w h => hts w (List.mem_cons_of_mem _ h)
  have hown : s.vm.findClass RX6 = some m.cls := findClass_of_methodNamed B.named
  have hlocks := B.notSynchronized
  have hl := lv_entry ([.ref (a 0), .int pv]) (n := 2) (Nat.le_of_ble_eq_true rfl)
  rw [lg_entry_eq]
  generalize (lg_sl ([.ref (a 0), .int pv]) ++ List.replicate (2 - (lg_sl ([.ref (a 0), .int pv])).length) Slot.unset).toArray = ls at hl ⊢
  have hl : lv_has ls 2 [(0, .ref (a 0)), (1, .int pv)] := hl
  refine lv_aload_n hx hb dX6_isGone_0 rfl (lv_at hl 0 rfl) ?_
  refine lv_iload_n hx hb dX6_isGone_1 rfl (lv_at hl 1 rfl) ?_
  refine vp_callSi (W.runV (As := [.int pv]) (rest := []) ⟨hx, hb, hml, hown, hts⟩ (c_X6_isSlot l dC dI a k u hN pv) (cwV 1 hts (wG_V wG_c q_714 q_716 p_16 q_7 q_717) rfl rfl rfl (by decide +kernel) ⟨Nat.le_of_ble_eq_true rfl, Nat.le_of_ble_eq_true rfl⟩) (w_roV hK hP (ci := 6) (q0 := 0) rfl (wR_g0 a k _) rfl) rfl rfl hl.1 rfl (lv_room (Nat.le_of_ble_eq_true rfl)) dX6_isGone_2 ⟨Nat.le_of_ble_eq_true rfl, Nat.le_of_ble_eq_true rfl⟩) (fun r_1 hr_1 => ?_)
  subst hr_1
  refine bz_eq (a := (isS (cu_N u 0) pv)) (tgt := 21) hx hb dX6_isGone_5 (by decide) (fun c_5 => ?_) (fun c_5 => ?_)
  · refine lv_iconst (v := 0) hx hb dX6_isGone_21 (by decide) ?_
    exact W.zret (v := bI false) hx hb hr (bI_narw _) (fun t9 ht9 hW9 => ⟨_, rfl, congrArg bI (by rw [c_5]; rfl), ht9⟩) (fun _ h => by cases h) dX6_isGone_22
  · obtain ⟨j, hj, ej⟩ := isS_of (by omega) c_5
    have ejt : pv.toInt.toNat = j := by rw [ej, nI_toInt (by omega)]; rfl
    refine lv_aload_n hx hb dX6_isGone_8 rfl (lv_at hl 0 rfl) ?_
    refine va_get (D := (dC, dI)) (ci := 6) (v := .ref (a 9)) (C := RX6) (T := TX6) (N := 20) hx hb htg inX6 hown hK hP 0 (wR_g0 a k _) rfl 9 (by decide) (htg _ q_590) (fun _ h9 => h9) rfl dX6_isGone_9 ?_
    refine lv_iload_n hx hb dX6_isGone_12 rfl (lv_at hl 1 rfl) ?_
    refine wtopi (y := nI j) ej ?_
    refine va_zald hx hb hK hP 9 2 (wR_g9 a k _) rfl (vp_in_nI (n := j) (N := 200) (show j < 200 by omega) (by decide)) dX6_isGone_13 ?_
    refine wtopi (bI (cu_B u 0 j)) (congrArg (fun j9 => bI (cu_B u 0 j9)) (nI_clamp (n := j) (Nat.lt_trans (m := 200) (show j < 200 by omega) (by decide)))) ?_
    refine bz_eq (a := (cu_B u 0 j)) (tgt := 21) hx hb dX6_isGone_14 (by decide) (fun c_14 => ?_) (fun c_14 => ?_)
    · refine lv_iconst (v := 0) hx hb dX6_isGone_21 (by decide) ?_
      exact W.zret (v := bI false) hx hb hr (bI_narw _) (fun t9 ht9 hW9 => ⟨_, rfl, congrArg bI (by rw [c_5, ejt, c_14]; rfl), ht9⟩) (fun _ h => by cases h) dX6_isGone_22
    · refine lv_iconst (v := 1) hx hb dX6_isGone_17 (by decide) ?_
      refine lv_goto (tgt := 22) hx hb dX6_isGone_18 (by decide) ?_
      exact W.zret (v := bI true) hx hb hr (bI_narw _) (fun t9 ht9 hW9 => ⟨_, rfl, congrArg bI (by rw [c_5, ejt, c_14]; rfl), ht9⟩) (fun _ h => by cases h) dX6_isGone_22
set_option maxHeartbeats 4000000 in
set_option maxRecDepth 100000 in
theorem c_X6_sumWithin (l : Launch) (dC : Nat → ClassId) (dI : Nat → Nat → Nat) (a : Nat → Nat) (k : c_K) (u : c_St) (h : m_ok u) (s0 : Int32) (n : Nat) (hn : n < cu_N u 0) (t1 t2 : Int32) : Met l yX6_sumWithin wsX6_sumWithin ({ frames := 3, cells := 0, slots := 0, locals := 65 }) (va_Pc [.ref (a 0), .int s0, .int (nI n), .int t1, .int t2] (w_ro (dC, dI) vwCl (wR a k u) (tC k))) (vp_Si (fun r => r = m_sw (fun i => cu_G u 2 (8 * n + i)) (m_beg u n) t1 t2 s0 (cu_F u 2 n))) 0 0 (fun _ => False) := by
  have h20 := h.1
  have h60 := h.2.1
  have hn2 := h.2.2.1 n hn
  have hbb := m_beg_b h hn
  have ht1 := i32_b t1
  have ht2 := i32_b t2
  refine Met.ofW (cc := cX6_sumWithin) (maxL := 7) (ret := (some .int)) (by decide) rfl ?_
  intro p e s m args below meth c s₁ B hml hv
  obtain ⟨rfl, hP, hK⟩ := hv
  have hx := B.exec
  have hb := B.bytes
  have hr := B.returns
  have hts := atoms_spec (ws := wsX6_sumWithin) B.pre
  have htg : ∀ w ∈ wG, w.before _ s = true := fun w h => hts w (List.mem_cons_of_mem _ h)
  have hown : s.vm.findClass RX6 = some m.cls := findClass_of_methodNamed B.named
  have hlocks := B.notSynchronized
  have hl := lv_entry ([.ref (a 0), .int s0, .int (nI n), .int t1, .int t2]) (n := 7) (Nat.le_of_ble_eq_true rfl)
  rw [lg_entry_eq]
  generalize (lg_sl ([.ref (a 0), .int s0, .int (nI n), .int t1, .int t2]) ++ List.replicate (7 - (lg_sl ([.ref (a 0), .int s0, .int (nI n), .int t1, .int t2])).length) Slot.unset).toArray = ls at hl ⊢
  have hl : lv_has ls 7 [(0, .ref (a 0)), (1, .int s0), (2, .int (nI n)), (3, .int t1), (4, .int t2)] := hl
  refine lv_iload_n hx hb dX6_sumWithin_0 rfl (lv_at hl 1 rfl) ?_
  refine lv_istore (lv' := [(5, .int s0), (0, .ref (a 0)), (1, .int s0), (2, .int (nI n)), (3, .int t1), (4, .int t2)]) hx hb dX6_sumWithin_1 hl (by decide) rfl (fun ls hl => ?_)
  refine lv_iconst (v := 0) hx hb dX6_sumWithin_3 (by decide) ?_
  refine lv_istore (lv' := [(6, .int 0), (5, .int s0), (0, .ref (a 0)), (1, .int s0), (2, .int (nI n)), (3, .int t1), (4, .int t2)]) hx hb dX6_sumWithin_4 hl (by decide) rfl (fun ls hl => ?_)
  refine w_loop (fun j : Nat => cu_F u 2 n - j) (fun j ls => j ≤ cu_F u 2 n ∧ lv_has ls 7 [(0, .ref (a 0)), (1, .int s0), (2, .int (nI n)), (3, .int t1), (4, .int t2), (5, .int (m_sw (fun i => cu_G u 2 (8 * n + i)) (m_beg u n) t1 t2 s0 j)), (6, .int (nI j))]) ?_ (0) ls ⟨Nat.zero_le _, lv_sub hl [2, 3, 4, 5, 6, 1, 0] rfl⟩
  clear hl
  intro j ls hI ih
  obtain ⟨hI, hl⟩ := hI
  refine lv_iload hx hb dX6_sumWithin_6 (lv_at hl 6 rfl) ?_
  refine lv_aload_n hx hb dX6_sumWithin_8 rfl (lv_at hl 0 rfl) ?_
  refine va_get (D := (dC, dI)) (ci := 6) (v := .ref (a 3)) (C := RX6) (T := TX6) (N := 20) hx hb htg inX6 hown hK hP 0 (wR_g0 a k _) rfl 4 (by decide) (htg _ q_585) (fun _ h9 => h9) rfl dX6_sumWithin_9 ?_
  refine lv_iload_n hx hb dX6_sumWithin_12 rfl (lv_at hl 2 rfl) ?_
  refine va_iald hx hb hK hP 3 0 (wR_g3 a k _) rfl (vp_in_nI (n := n) (N := 200) (by omega) (by decide)) dX6_sumWithin_13 ?_
  refine wtopi (nI (cu_F u 2 n)) (congrArg (fun j9 => nI (cu_F u 2 j9)) (nI_clamp (n := n) (Nat.lt_trans (m := 200) (by omega) (by decide)))) ?_
  refine nb_ge (a := j) (b := (cu_F u 2 n)) (tgt := 67) hx hb (by omega) (by omega) rfl rfl dX6_sumWithin_14 (by decide) (fun c_14 => ?_) (fun c_14 => ?_)
  · refine lv_iload hx hb dX6_sumWithin_67 (lv_at hl 5 rfl) ?_
    exact W.iret (v := m_sw (fun i => cu_G u 2 (8 * n + i)) (m_beg u n) t1 t2 s0 j) hx hb hr (fun t9 ht9 hW9 => ⟨_, rfl, (by rw [show cu_F u 2 n = j by omega]), ht9⟩) (fun _ h => by cases h) dX6_sumWithin_69
  · refine lv_aload_n hx hb dX6_sumWithin_17 rfl (lv_at hl 0 rfl) ?_
    refine lv_iload_n hx hb dX6_sumWithin_18 rfl (lv_at hl 2 rfl) ?_
    refine vp_callSi (W.runV (As := [.int (nI n)]) (rest := []) ⟨hx, hb, hml, hown, hts⟩ (c_X6_begin l dC dI a k u h n hn) (cwV 1 hts (wG_V wG_c q_702 q_704 p_14 q_7 q_705) rfl rfl rfl (by decide +kernel) ⟨Nat.le_of_ble_eq_true rfl, Nat.le_of_ble_eq_true rfl⟩) (w_roV hK hP (ci := 6) (q0 := 0) rfl (wR_g0 a k _) rfl) rfl rfl hl.1 rfl (lv_room (Nat.le_of_ble_eq_true rfl)) dX6_sumWithin_19 ⟨Nat.le_of_ble_eq_true rfl, Nat.le_of_ble_eq_true rfl⟩) (fun r_1 hr_1 => ?_)
    subst hr_1
    refine lv_iload hx hb dX6_sumWithin_22 (lv_at hl 6 rfl) ?_
    refine lv_iadd hx hb dX6_sumWithin_24 ?_
    refine wtopi (y := iI (m_beg u n + (j : Int))) (by rw [nI_iI, iI_add]) ?_
    refine lv_iload_n hx hb dX6_sumWithin_25 rfl (lv_at hl 3 rfl) ?_
    refine wtopi (y := iI t1.toInt) (iI_self t1) ?_
    refine ib_lt (a := (m_beg u n + (j : Int))) (b := t1.toInt) (tgt := 61) hx hb (by omega) (by omega) (by omega) (by omega) rfl rfl dX6_sumWithin_26 (by decide) (fun c_26 => ?_) (fun c_26 => ?_)
    · rw [show m_sw (fun i => cu_G u 2 (8 * n + i)) (m_beg u n) t1 t2 s0 j = m_sw (fun i => cu_G u 2 (8 * n + i)) (m_beg u n) t1 t2 s0 (j + 1) from m_sw_f (m_in_f1 c_26)] at hl
      refine lv_iinc (v := nI (j + 1)) (lv' := [(6, .int (nI (j + 1))), (0, .ref (a 0)), (1, .int s0), (2, .int (nI n)), (3, .int t1), (4, .int t2), (5, .int (m_sw (fun i => cu_G u 2 (8 * n + i)) (m_beg u n) t1 t2 s0 (j + 1)))]) hx hb dX6_sumWithin_61 hl (k := 6) rfl (nI_1 j) (by decide) rfl (fun ls hl => ?_)
      refine lv_goto (tgt := 6) hx hb dX6_sumWithin_64 (by decide) ?_
      exact ih (j + 1) ls (by omega) ⟨by omega, lv_sub hl [1, 2, 3, 4, 5, 6, 0] rfl⟩
    · refine lv_aload_n hx hb dX6_sumWithin_29 rfl (lv_at hl 0 rfl) ?_
      refine lv_iload_n hx hb dX6_sumWithin_30 rfl (lv_at hl 2 rfl) ?_
      refine vp_callSi (W.runV (As := [.int (nI n)]) (rest := []) ⟨hx, hb, hml, hown, hts⟩ (c_X6_begin l dC dI a k u h n hn) (cwV 1 hts (wG_V wG_c q_702 q_704 p_14 q_7 q_705) rfl rfl rfl (by decide +kernel) ⟨Nat.le_of_ble_eq_true rfl, Nat.le_of_ble_eq_true rfl⟩) (w_roV hK hP (ci := 6) (q0 := 0) rfl (wR_g0 a k _) rfl) rfl rfl hl.1 rfl (lv_room (Nat.le_of_ble_eq_true rfl)) dX6_sumWithin_31 ⟨Nat.le_of_ble_eq_true rfl, Nat.le_of_ble_eq_true rfl⟩) (fun r_2 hr_2 => ?_)
      subst hr_2
      refine lv_iload hx hb dX6_sumWithin_34 (lv_at hl 6 rfl) ?_
      refine lv_iadd hx hb dX6_sumWithin_36 ?_
      refine wtopi (y := iI (m_beg u n + (j : Int))) (by rw [nI_iI, iI_add]) ?_
      refine lv_iload hx hb dX6_sumWithin_37 (lv_at hl 4 rfl) ?_
      refine wtopi (y := iI t2.toInt) (iI_self t2) ?_
      refine ib_ge (a := (m_beg u n + (j : Int))) (b := t2.toInt) (tgt := 61) hx hb (by omega) (by omega) (by omega) (by omega) rfl rfl dX6_sumWithin_39 (by decide) (fun c_39 => ?_) (fun c_39 => ?_)
      · rw [show m_sw (fun i => cu_G u 2 (8 * n + i)) (m_beg u n) t1 t2 s0 j = m_sw (fun i => cu_G u 2 (8 * n + i)) (m_beg u n) t1 t2 s0 (j + 1) from m_sw_f (m_in_f2 c_39)] at hl
        refine lv_iinc (v := nI (j + 1)) (lv' := [(6, .int (nI (j + 1))), (0, .ref (a 0)), (1, .int s0), (2, .int (nI n)), (3, .int t1), (4, .int t2), (5, .int (m_sw (fun i => cu_G u 2 (8 * n + i)) (m_beg u n) t1 t2 s0 (j + 1)))]) hx hb dX6_sumWithin_61 hl (k := 6) rfl (nI_1 j) (by decide) rfl (fun ls hl => ?_)
        refine lv_goto (tgt := 6) hx hb dX6_sumWithin_64 (by decide) ?_
        exact ih (j + 1) ls (by omega) ⟨by omega, lv_sub hl [1, 2, 3, 4, 5, 6, 0] rfl⟩
      · refine lv_iload hx hb dX6_sumWithin_42 (lv_at hl 5 rfl) ?_
        refine lv_aload_n hx hb dX6_sumWithin_44 rfl (lv_at hl 0 rfl) ?_
        refine va_get (D := (dC, dI)) (ci := 6) (v := .ref (a 14)) (C := RX6) (T := TX6) (N := 20) hx hb htg inX6 hown hK hP 0 (wR_g0 a k _) rfl 5 (by decide) (htg _ q_586) (fun _ h9 => h9) rfl dX6_sumWithin_45 ?_
        refine lv_bipush (v := 8) hx hb dX6_sumWithin_48 (by decide) ?_
        refine lv_iload_n hx hb dX6_sumWithin_50 rfl (lv_at hl 2 rfl) ?_
        refine lv_imul hx hb dX6_sumWithin_51 ?_
        refine wtopi (y := nI (8 * n)) (pk_mul 8 n) ?_
        refine lv_iload hx hb dX6_sumWithin_52 (lv_at hl 6 rfl) ?_
        refine lv_iadd hx hb dX6_sumWithin_54 ?_
        refine wtopi (y := nI (8 * n + j)) (nI_add _ _) ?_
        refine va_iald hx hb hK hP 14 0 (wR_g14 a k _) rfl (vp_in_nI (n := (8 * n + j)) (N := 1600) (by omega) (by decide)) dX6_sumWithin_55 ?_
        refine wtopi (cu_G u 2 (8 * n + j)) (congrArg (fun j9 => cu_G u 2 j9) (nI_clamp (n := (8 * n + j)) (Nat.lt_trans (m := 1600) (by omega) (by decide)))) ?_
        refine vp_callSi (W.runS (As := [.int (m_sw (fun i => cu_G u 2 (8 * n + i)) (m_beg u n) t1 t2 s0 j), .int (cu_G u 2 (8 * n + j))]) (rest := []) ⟨hx, hb, hml, hown, hts⟩ (c_X6_with l dC dI a k u (m_sw (fun i => cu_G u 2 (8 * n + i)) (m_beg u n) t1 t2 s0 j) (cu_G u 2 (8 * n + j))) (cwS 2 hts (wG_S wG_c q_662 q_663 q_7 q_664) rfl rfl rfl (by decide +kernel) ⟨Nat.le_of_ble_eq_true rfl, Nat.le_of_ble_eq_true rfl⟩) (w_roS hK hP) rfl rfl hl.1 rfl (lv_room (Nat.le_of_ble_eq_true rfl)) dX6_sumWithin_56 ⟨Nat.le_of_ble_eq_true rfl, Nat.le_of_ble_eq_true rfl⟩) (fun r_3 hr_3 => ?_)
        subst hr_3
        refine lv_istore (lv' := [(5, .int (c_rot (m_sw (fun i => cu_G u 2 (8 * n + i)) (m_beg u n) t1 t2 s0 j ^^^ cu_G u 2 (8 * n + j)))), (0, .ref (a 0)), (1, .int s0), (2, .int (nI n)), (3, .int t1), (4, .int t2), (6, .int (nI j))]) hx hb dX6_sumWithin_59 hl (by decide) rfl (fun ls hl => ?_)
        rw [show c_rot (m_sw (fun i => cu_G u 2 (8 * n + i)) (m_beg u n) t1 t2 s0 j ^^^ cu_G u 2 (8 * n + j)) = m_sw (fun i => cu_G u 2 (8 * n + i)) (m_beg u n) t1 t2 s0 (j + 1) from m_sw_t (m_in_t c_26 c_39)] at hl
        refine lv_iinc (v := nI (j + 1)) (lv' := [(6, .int (nI (j + 1))), (5, .int (m_sw (fun i => cu_G u 2 (8 * n + i)) (m_beg u n) t1 t2 s0 (j + 1))), (0, .ref (a 0)), (1, .int s0), (2, .int (nI n)), (3, .int t1), (4, .int t2)]) hx hb dX6_sumWithin_61 hl (k := 6) rfl (nI_1 j) (by decide) rfl (fun ls hl => ?_)
        refine lv_goto (tgt := 6) hx hb dX6_sumWithin_64 (by decide) ?_
        exact ih (j + 1) ls (by omega) ⟨by omega, lv_sub hl [2, 3, 4, 5, 6, 1, 0] rfl⟩
