/-! the law's own methods, each in one row: what it answers is what the reference answers -/
section AGR
variable {u v v1 : c_St} {f g : Nat → Int64} {b : Int32}
def Agree (u : c_St) (r : Int32) (x : c_X) (b : Int32) (v1 : c_St) : Prop := r = nI (cu_N v1 4) ∧ (r = 0 → x.2 0 = b.toInt64) ∧ Rel x.1 v1 ∧ cu_N x.1 4 ≤ cu_N u 4 + 1
def AgreeV (u : c_St) (r : Int32) (x : c_X) (v1 : c_St) : Prop := r = nI (cu_N v1 4) ∧ Rel x.1 v1 ∧ cu_N x.1 4 ≤ cu_N u 4 + 1
theorem ag_x (h : Rel u v) {c : Nat} (hc : 0 < c ∧ c ≤ 3) (e : v1 = cs_N v 4 c) : Agree u (nI c) (u, f) b v1 := by
  subst e
  refine ⟨rfl, fun q => ?_, h.th c, Nat.le_succ _⟩
  have h0 : (0 : Int32) = nI 0 := rfl
  rw [h0] at q
  have := (nI_eq (a := c) (b := 0) (by omega) (by omega)).mp q
  omega
theorem ag_xv (h : Rel u v) {c : Nat} (e : v1 = cs_N v 4 c) : AgreeV u (nI c) (u, f) v1 := by
  subst e
  exact ⟨rfl, h.th c, Nat.le_succ _⟩
theorem ag_xa {Z : Prop} {c0 : Nat} (h : Rel u v) (hP : (c0 ≠ 0 → v1 = cs_N v 4 c0) ∧ Z) (c : Nat) (hc : 0 < c ∧ c ≤ 3) (ec : c0 = c) : Agree u (nI c) (u, f) b v1 := by
  subst ec
  exact ag_x h hc (hP.1 (by omega))
theorem ag_xb {Z : Prop} {c0 : Nat} (h : Rel u v) (hP : v1 = cs_N v 4 c0 ∧ Z) (c : Nat) (hc : 0 < c ∧ c ≤ 3) (ec : c0 = c) : Agree u (nI c) (u, f) b v1 := by
  subst ec
  exact ag_x h hc hP.1
theorem ag_va {Z : Prop} {c0 : Nat} (h : Rel u v) (hP : (c0 ≠ 0 → v1 = cs_N v 4 c0) ∧ Z) (c : Nat) (hc : 0 < c ∧ c ≤ 3) (ec : c0 = c) : AgreeV u (nI c) (u, f) v1 := by
  subst ec
  exact ag_xv h (hP.1 (by omega))
theorem ag_0 {u1 : c_St} (hR : Rel u1 v1) (h4 : cu_N v1 4 = 0) (hb : g 0 = b.toInt64) (hN : cu_N u1 4 ≤ cu_N u 4 + 1) : Agree u 0 (u1, g) b v1 := ⟨by rw [h4]; rfl, fun _ => hb, hR, hN⟩
theorem ag_v {u1 : c_St} (hR : Rel u1 v1) (h4 : cu_N v1 4 = 0) (hN : cu_N u1 4 ≤ cu_N u 4 + 1) : AgreeV u 0 (u1, g) v1 := ⟨by rw [h4]; rfl, hR, hN⟩
theorem nI_inj {a b : Nat} (ha : a < 2147483648) (hb : b < 2147483648) (h : nI a = nI b) : a = b := (nI_eq ha hb).mp h
theorem nn_nat {p : Int32} (h : ¬ p < 0) : ∃ q : Nat, q < 2147483648 ∧ p = nI q := by
  have hb := i32_b p
  rw [Int32.lt_iff_toInt_lt] at h
  have h0 : (0 : Int32).toInt = 0 := by decide
  rw [h0] at h
  refine ⟨p.toInt.toNat, by omega, Int32.toInt_inj.mp ?_⟩
  rw [nI_toInt (by omega)]; omega
theorem m1_int : (-1 : Int32).toInt = -1 := by decide
theorem z0_int : (0 : Int32).toInt = 0 := by decide
theorem fin_f {p : Int32} {n : Nat} (hn : n < 1000) (h : inR p (-1) (nI n) = false) : p ≠ -1 ∧ inR p 0 (nI n) = false := by
  have hb := i32_b p
  unfold inR at h ⊢
  rw [decide_eq_false_iff_not, Int32.le_iff_toInt_le, Int32.le_iff_toInt_le, nI_toInt (by omega)] at h ⊢
  rw [m1_int] at h
  rw [z0_int]
  refine ⟨fun q => ?_, by omega⟩
  rw [q, m1_int] at h; omega
theorem fin_t {p : Int32} {n : Nat} (hn : n < 1000) (h : inR p (-1) (nI n) = true) : c_fok p n := by
  have hb := i32_b p
  unfold inR at h
  rw [decide_eq_true_iff, Int32.le_iff_toInt_le, Int32.le_iff_toInt_le, nI_toInt (by omega), m1_int] at h
  by_cases q : p.toInt = -1
  · exact Or.inl (Int32.toInt_inj.mp (by rw [q, m1_int]))
  · exact Or.inr ⟨p.toInt.toNat, by omega, Int32.toInt_inj.mp (by rw [nI_toInt (by omega)]; omega)⟩
theorem inRn {x : Int32} {lo hi : Int32} {l9 h9 : Nat} (h : inR x lo hi = true) (e1 : lo = nI l9) (e2 : hi = nI h9) (hb : l9 ≤ h9 ∧ h9 < 2147483648) : ∃ j : Nat, l9 ≤ j ∧ j ≤ h9 ∧ x = nI j := inR_nat h e1 e2 hb
end AGR

abbrev P_slot (v : c_St) (p0 : Int32) (p1 : Int32) (p2 : Int32) (bt : Int64) (p4 : Int32) (p5 : Int32) (b : Int32) (v1 : c_St) : Prop := (m_code (!inR p0 0 9 || !inR p4 0 99 || !inR p5 0 49) (!inR p1 0 9999999 || !inR p2 1 8) (decide (cu_N v 0 = 200)) ≠ 0 → v1 = cs_N v 4 (m_code (!inR p0 0 9 || !inR p4 0 99 || !inR p5 0 49) (!inR p1 0 9999999 || !inR p2 1 8) (decide (cu_N v 0 = 200)))) ∧ (m_code (!inR p0 0 9 || !inR p4 0 99 || !inR p5 0 49) (!inR p1 0 9999999 || !inR p2 1 8) (decide (cu_N v 0 = 200)) = 0 → ∃ sc tm n un ic : Nat, p0 = nI sc ∧ p1 = nI tm ∧ p2 = nI n ∧ p4 = nI un ∧ p5 = nI ic ∧ sc ≤ 9 ∧ tm ≤ 9999999 ∧ 1 ≤ n ∧ n ≤ 8 ∧ un ≤ 99 ∧ ic ≤ 49 ∧ cu_N v 0 < 200 ∧ b = nI (cu_N v 0) ∧ v1 = m_add (cs_N v 4 0) sc tm n bt un ic)
set_option maxHeartbeats 2000000 in
theorem u_slot (l : Launch) (dC : Nat → ClassId) (dI : Nat → Nat → Nat) (a : Nat → Nat) (k : c_K) (u : c_St) (o : Nat) (f : Nat → Int64) (sz : Nat) (hst : l.stackTraces = false) (v : c_St) (hR : Rel u v) (h600 : cu_N u 4 ≤ 600) (p0 : Int32) (p1 : Int32) (p2 : Int32) (bt : Int64) (p4 : Int32) (p5 : Int32) : Met l yL_slot wsL_slot ({ frames := 8, cells := 1, slots := 6, locals := 150 }) (va_Pc [.ref (a 0), .int p0, .int p1, .int p2, .long bt, .int p4, .int p5, .ref o] (w_wr (dC, dI) vwCl (wL a o k (u, f)) (tC k) sz)) (va_Qi (fun r x => ∀ (b : Int32) (v1 : c_St), P_slot v p0 p1 p2 bt p4 p5 b v1 → Agree u r x b v1) (w_at (dC, dI) vwCl (wL a o k) (tC k) (va_A (wL a o k (u, f)) sz)) (va_A (wL a o k (u, f)) sz)) 1 6 (va_A (wL a o k (u, f)) sz) := by
  have e0 := hR.2.2.1.1
  cases c0 : inR p0 0 9 with
  | false =>
    refine r_slot_1 l dC dI a k u o f sz hst p0 p1 p2 bt p4 p5 c0 _ ?_
    intro b v1 hP
    exact ag_xa hR hP 1 (by decide) (by simp [m_code, c0])
  | true =>
  obtain ⟨sc, -, g1, rfl⟩ := inRn c0 (l9 := 0) (h9 := 9) rfl rfl (by decide)
  cases c4 : inR p4 0 99 with
  | false =>
    refine r_slot_2 l dC dI a k u o f sz hst sc g1 p1 p2 bt p4 p5 c4 _ ?_
    intro b v1 hP
    exact ag_xa hR hP 1 (by decide) (by simp [m_code, c0, c4])
  | true =>
  obtain ⟨un, -, g5, rfl⟩ := inRn c4 (l9 := 0) (h9 := 99) rfl rfl (by decide)
  cases c5 : inR p5 0 49 with
  | false =>
    refine r_slot_3 l dC dI a k u o f sz hst sc un g1 g5 p1 p2 bt p5 c5 _ ?_
    intro b v1 hP
    exact ag_xa hR hP 1 (by decide) (by simp [m_code, c0, c4, c5])
  | true =>
  obtain ⟨ic, -, g6, rfl⟩ := inRn c5 (l9 := 0) (h9 := 49) rfl rfl (by decide)
  cases c1 : inR p1 0 9999999 with
  | false =>
    refine r_slot_4 l dC dI a k u o f sz hst sc un ic g1 g5 g6 p1 p2 bt c1 _ ?_
    intro b v1 hP
    exact ag_xa hR hP 2 (by decide) (by simp [m_code, c0, c4, c5, c1])
  | true =>
  obtain ⟨tm, -, g2, rfl⟩ := inRn c1 (l9 := 0) (h9 := 9999999) rfl rfl (by decide)
  cases c2 : inR p2 1 8 with
  | false =>
    refine r_slot_5 l dC dI a k u o f sz hst sc tm un ic g1 g2 g5 g6 p2 bt c2 _ ?_
    intro b v1 hP
    exact ag_xa hR hP 2 (by decide) (by simp [m_code, c0, c4, c5, c1, c2])
  | true =>
  obtain ⟨n, g3, g4, rfl⟩ := inRn c2 (l9 := 1) (h9 := 8) rfl rfl (by decide)
  by_cases cN : cu_N u 0 = 200
  · refine r_slot_6 l dC dI a k u o f sz hst sc tm n bt un ic g1 g2 g3 g4 g5 g6 cN _ ?_
    intro b v1 hP
    exact ag_xa hR hP 3 (by decide) (by simp [m_code, c0, c4, c5, c1, c2, e0, cN])
  · have hN : cu_N u 0 < 200 := by have := hR.1.1; omega
    refine r_slot_0 l dC dI a k u o f sz hst hR.1 hN hR.2.1.1 (fun j hj => (hR.2.1.2.1 j hj).1) sc tm n bt un ic g1 g2 g3 g4 g5 g6 _ ?_
    rintro r u1 g ⟨er, t, ht, eu, k1, k2⟩ hg b v1 hP
    obtain ⟨sc', tm', n', un', ic', q0, q1, q2, q4, q5, w0, w1, w2, w3, w4, w5, -, er', ev⟩ := hP.2 (by simp [m_code, c0, c4, c5, c1, c2, e0, cN])
    obtain rfl := nI_inj (by omega) (by omega) q0
    obtain rfl := nI_inj (by omega) (by omega) q1
    obtain rfl := nI_inj (by omega) (by omega) q2
    obtain rfl := nI_inj (by omega) (by omega) q4
    obtain rfl := nI_inj (by omega) (by omega) q5
    subst er er' eu ev
    exact ag_0 (hR.slot hN g1 g2 g3 g4 g5 g6 ht k1 k2) (by show cu_N (m_by _ _ _ _ _) 4 = 0; rw [m_by_N]; rfl) (by rw [hg, e0]) (Nat.le_succ _)
abbrev P_mark (v : c_St) (p0 : Int32) (p1 : Int32) (p2 : Int32) (b : Int32) (v1 : c_St) : Prop := (m_code (!inR p0 0 9) (!inR p1 0 9999999 || !inR p2 0 9999999) (decide (cu_N v 1 = 60)) ≠ 0 → v1 = cs_N v 4 (m_code (!inR p0 0 9) (!inR p1 0 9999999 || !inR p2 0 9999999) (decide (cu_N v 1 = 60)))) ∧ (m_code (!inR p0 0 9) (!inR p1 0 9999999 || !inR p2 0 9999999) (decide (cu_N v 1 = 60)) = 0 → ∃ sc ck tr : Nat, p0 = nI sc ∧ p1 = nI ck ∧ p2 = nI tr ∧ sc ≤ 9 ∧ ck ≤ 9999999 ∧ tr ≤ 9999999 ∧ cu_N v 1 < 60 ∧ b = nI (cu_N v 1) ∧ v1 = cs_N (cs_D (cs_F (cs_N v 4 0) 5 (cu_N v 1) sc) 0 (cu_N v 1) ((tr : Int) - (ck : Int))) 1 (cu_N v 1 + 1))
set_option maxHeartbeats 2000000 in
theorem u_mark (l : Launch) (dC : Nat → ClassId) (dI : Nat → Nat → Nat) (a : Nat → Nat) (k : c_K) (u : c_St) (o : Nat) (f : Nat → Int64) (sz : Nat) (hst : l.stackTraces = false) (v : c_St) (hR : Rel u v) (h600 : cu_N u 4 ≤ 600) (p0 : Int32) (p1 : Int32) (p2 : Int32) : Met l yL_mark wsL_mark ({ frames := 8, cells := 1, slots := 6, locals := 150 }) (va_Pc [.ref (a 0), .int p0, .int p1, .int p2, .ref o] (w_wr (dC, dI) vwCl (wL a o k (u, f)) (tC k) sz)) (va_Qi (fun r x => ∀ (b : Int32) (v1 : c_St), P_mark v p0 p1 p2 b v1 → Agree u r x b v1) (w_at (dC, dI) vwCl (wL a o k) (tC k) (va_A (wL a o k (u, f)) sz)) (va_A (wL a o k (u, f)) sz)) 1 6 (va_A (wL a o k (u, f)) sz) := by
  have e1 := hR.2.2.1.2.1
  cases c0 : inR p0 0 9 with
  | false =>
    refine r_mark_1 l dC dI a k u o f sz hst p0 p1 p2 c0 _ ?_
    intro b v1 hP
    exact ag_xa hR hP 1 (by decide) (by simp [m_code, c0])
  | true =>
  obtain ⟨sc, -, g1, rfl⟩ := inRn c0 (l9 := 0) (h9 := 9) rfl rfl (by decide)
  cases c1 : inR p1 0 9999999 with
  | false =>
    refine r_mark_2 l dC dI a k u o f sz hst sc g1 p1 p2 c1 _ ?_
    intro b v1 hP
    exact ag_xa hR hP 2 (by decide) (by simp [m_code, c0, c1])
  | true =>
  obtain ⟨ck, -, g2, rfl⟩ := inRn c1 (l9 := 0) (h9 := 9999999) rfl rfl (by decide)
  cases c2 : inR p2 0 9999999 with
  | false =>
    refine r_mark_3 l dC dI a k u o f sz hst sc ck g1 g2 p2 c2 _ ?_
    intro b v1 hP
    exact ag_xa hR hP 2 (by decide) (by simp [m_code, c0, c1, c2])
  | true =>
  obtain ⟨tr, -, g3, rfl⟩ := inRn c2 (l9 := 0) (h9 := 9999999) rfl rfl (by decide)
  by_cases cN : cu_N u 1 = 60
  · refine r_mark_4 l dC dI a k u o f sz hst sc ck tr g1 g2 g3 cN _ ?_
    intro b v1 hP
    exact ag_xa hR hP 3 (by decide) (by simp [m_code, c0, c1, c2, e1, cN])
  · have hN : cu_N u 1 < 60 := by have := hR.1.2.1; omega
    refine r_mark_0 l dC dI a k u o f sz hst hR.1 hN (by have := hR.2.1.1; have := hR.1.1; omega) (fun j hj => (hR.2.1.2.1 j hj).1) hR.inj sc ck tr g1 g2 g3 _ ?_
    rintro r u1 g ⟨er, hu⟩ hg b v1 hP
    obtain ⟨sc', ck', tr', q0, q1, q2, w0, w1, w2, -, er', ev⟩ := hP.2 (by simp [m_code, c0, c1, c2, e1, cN])
    obtain rfl := nI_inj (by omega) (by omega) q0
    obtain rfl := nI_inj (by omega) (by omega) q1
    obtain rfl := nI_inj (by omega) (by omega) q2
    subst er er' ev
    rcases hu with ⟨hD, ff, eu, hm⟩ | ⟨hD, eu⟩
    · subst eu
      exact ag_0 (hR.mark2 hN g1 g2 g3 hD hm) rfl (by rw [hg, e1]) (Nat.le_succ _)
    · subst eu
      exact ag_0 (hR.mark1 hN g1 g2 g3 hD) rfl (by rw [hg, e1]) (Nat.le_succ _)
abbrev P_offset (v : c_St) (p0 : Int32) (b : Int32) (v1 : c_St) : Prop := v1 = cs_N v 4 (m_code (!inR p0 0 9) false false) ∧ (m_code (!inR p0 0 9) false false = 0 → ∃ sc : Nat, p0 = nI sc ∧ sc ≤ 9 ∧ b = iI (m_off v1 sc))
set_option maxHeartbeats 2000000 in
theorem u_offset (l : Launch) (dC : Nat → ClassId) (dI : Nat → Nat → Nat) (a : Nat → Nat) (k : c_K) (u : c_St) (o : Nat) (f : Nat → Int64) (sz : Nat) (hst : l.stackTraces = false) (v : c_St) (hR : Rel u v) (h600 : cu_N u 4 ≤ 600) (p0 : Int32) : Met l yL_offset wsL_offset ({ frames := 8, cells := 1, slots := 6, locals := 150 }) (va_Pc [.ref (a 0), .int p0, .ref o] (w_wr (dC, dI) vwCl (wL a o k (u, f)) (tC k) sz)) (va_Qi (fun r x => ∀ (b : Int32) (v1 : c_St), P_offset v p0 b v1 → Agree u r x b v1) (w_at (dC, dI) vwCl (wL a o k) (tC k) (va_A (wL a o k (u, f)) sz)) (va_A (wL a o k (u, f)) sz)) 1 6 (va_A (wL a o k (u, f)) sz) := by
  cases c0 : inR p0 0 9 with
  | false =>
    refine r_offset_1 l dC dI a k u o f sz hst p0 c0 _ ?_
    intro b v1 hP
    exact ag_xb hR hP 1 (by decide) (by simp [m_code, c0])
  | true =>
  obtain ⟨sc, -, g1, rfl⟩ := inRn c0 (l9 := 0) (h9 := 9) rfl rfl (by decide)
  have ec : m_code (!inR (nI sc) 0 9) false false = 0 := by simp [m_code, c0]
  refine r_offset_0 l dC dI a k u o f sz hst hR.1 sc g1 _ ?_
  intro g hg b v1 hP
  obtain ⟨e1, hP⟩ := hP
  obtain ⟨sc', q0, w0, er⟩ := hP ec
  obtain rfl := nI_inj (by omega) (by omega) q0
  rw [ec] at e1
  subst e1 er
  exact ag_0 (hR.th 0) rfl (by rw [hg, (hR.th 0).off (by omega)]) (Nat.le_succ _)
abbrev P_contradiction (v : c_St) (p0 : Int32) (b : Int32) (v1 : c_St) : Prop := v1 = cs_N v 4 (m_code (decide (p0 < 0)) false false) ∧ (m_code (decide (p0 < 0)) false false = 0 → ∃ q : Nat, q < 2147483648 ∧ p0 = nI q ∧ b = iI (m_con v1 q (cu_N v1 1)))
set_option maxHeartbeats 2000000 in
theorem u_contradiction (l : Launch) (dC : Nat → ClassId) (dI : Nat → Nat → Nat) (a : Nat → Nat) (k : c_K) (u : c_St) (o : Nat) (f : Nat → Int64) (sz : Nat) (hst : l.stackTraces = false) (v : c_St) (hR : Rel u v) (h600 : cu_N u 4 ≤ 600) (p0 : Int32) : Met l yL_contradiction wsL_contradiction ({ frames := 8, cells := 1, slots := 6, locals := 150 }) (va_Pc [.ref (a 0), .int p0, .ref o] (w_wr (dC, dI) vwCl (wL a o k (u, f)) (tC k) sz)) (va_Qi (fun r x => ∀ (b : Int32) (v1 : c_St), P_contradiction v p0 b v1 → Agree u r x b v1) (w_at (dC, dI) vwCl (wL a o k) (tC k) (va_A (wL a o k (u, f)) sz)) (va_A (wL a o k (u, f)) sz)) 1 6 (va_A (wL a o k (u, f)) sz) := by
  by_cases c0 : p0 < 0
  · refine r_contradiction_1 l dC dI a k u o f sz hst p0 c0 _ ?_
    intro b v1 hP
    exact ag_xb hR hP 1 (by decide) (by simp [m_code, c0])
  · have ec : m_code (decide (p0 < 0)) false false = 0 := by simp [m_code, c0]
    obtain ⟨q, g1, rfl⟩ := nn_nat c0
    refine r_contradiction_0 l dC dI a k u o f sz hst hR.1 q g1 hR.fst _ ?_
    intro g hg b v1 hP
    obtain ⟨e1, hP⟩ := hP
    obtain ⟨q', w0, q0, er⟩ := hP ec
    obtain rfl := nI_inj (by omega) (by omega) q0
    rw [ec] at e1
    subst e1 er
    refine ag_0 (hR.th 0) rfl ?_ (Nat.le_succ _)
    rw [hg, (hR.th 0).con q (by show cu_N v 1 ≤ cu_N u 1; rw [hR.2.2.1.2.1]; exact Nat.le_refl _), show cu_N (cs_N v 4 0) 1 = cu_N u 1 from hR.2.2.1.2.1]
abbrev P_find (v : c_St) (p0 : Int32) (p1 : Int32) (p2 : Int32) (p3 : Int32) (p4 : Int32) (b : Int32) (v1 : c_St) : Prop := v1 = cs_N v 4 (m_code (!inR p2 (-1) 99 || !inR p3 (-1) 49) (decide (p4 < 0)) false) ∧ (m_code (!inR p2 (-1) 99 || !inR p3 (-1) 49) (decide (p4 < 0)) false = 0 → ∃ q : Nat, q < 2147483648 ∧ p4 = nI q ∧ b = iI (m_fnd v1 p0 p1 p2 p3 q (cu_N v1 0)))
set_option maxHeartbeats 2000000 in
theorem u_find (l : Launch) (dC : Nat → ClassId) (dI : Nat → Nat → Nat) (a : Nat → Nat) (k : c_K) (u : c_St) (o : Nat) (f : Nat → Int64) (sz : Nat) (hst : l.stackTraces = false) (v : c_St) (hR : Rel u v) (h600 : cu_N u 4 ≤ 600) (p0 : Int32) (p1 : Int32) (p2 : Int32) (p3 : Int32) (p4 : Int32) : Met l yL_find wsL_find ({ frames := 8, cells := 1, slots := 6, locals := 150 }) (va_Pc [.ref (a 0), .int p0, .int p1, .int p2, .int p3, .int p4, .ref o] (w_wr (dC, dI) vwCl (wL a o k (u, f)) (tC k) sz)) (va_Qi (fun r x => ∀ (b : Int32) (v1 : c_St), P_find v p0 p1 p2 p3 p4 b v1 → Agree u r x b v1) (w_at (dC, dI) vwCl (wL a o k) (tC k) (va_A (wL a o k (u, f)) sz)) (va_A (wL a o k (u, f)) sz)) 1 6 (va_A (wL a o k (u, f)) sz) := by
  cases c2 : inR p2 (-1) 99 with
  | false =>
    obtain ⟨n1, n2⟩ := fin_f (n := 99) (by decide) c2
    refine r_find_1 l dC dI a k u o f sz hst p0 p1 p2 p3 p4 n1 n2 _ ?_
    intro b v1 hP
    exact ag_xb hR hP 1 (by decide) (by simp [m_code, c2])
  | true =>
  have f2 := fin_t (n := 99) (by decide) c2
  cases c3 : inR p3 (-1) 49 with
  | false =>
    obtain ⟨n1, n2⟩ := fin_f (n := 49) (by decide) c3
    refine r_find_2 l dC dI a k u o f sz hst p0 p1 p2 p3 p4 f2 n1 n2 _ ?_
    intro b v1 hP
    exact ag_xb hR hP 1 (by decide) (by simp [m_code, c2, c3])
  | true =>
  have f3 := fin_t (n := 49) (by decide) c3
  by_cases c4 : p4 < 0
  · refine r_find_3 l dC dI a k u o f sz hst p0 p1 p2 p3 p4 f2 f3 c4 _ ?_
    intro b v1 hP
    exact ag_xb hR hP 2 (by decide) (by simp [m_code, c2, c3, c4])
  · have ec : m_code (!inR p2 (-1) 99 || !inR p3 (-1) 49) (decide (p4 < 0)) false = 0 := by simp [m_code, c2, c3, c4]
    obtain ⟨q, g1, rfl⟩ := nn_nat c4
    refine r_find_0 l dC dI a k u o f sz hst hR.1 (by have := hR.2.1.1; have := hR.1.1; omega) (fun j hj => (hR.2.1.2.1 j hj).1) p0 p1 p2 p3 q g1 f2 f3 _ ?_
    intro g hg b v1 hP
    obtain ⟨e1, hP⟩ := hP
    obtain ⟨q', w0, q0, er⟩ := hP ec
    obtain rfl := nI_inj (by omega) (by omega) q0
    rw [ec] at e1
    subst e1 er
    refine ag_0 (hR.th 0) rfl ?_ (Nat.le_succ _)
    rw [hg, (hR.th 0).fd p0 p1 q f2 f3]
abbrev P_time (v : c_St) (p0 : Int32) (b : Int32) (v1 : c_St) : Prop := v1 = cs_N v 4 (m_code (!isS (cu_N v 0) p0) (isS (cu_N v 0) p0 && cu_B v 0 p0.toInt.toNat) false) ∧ (m_code (!isS (cu_N v 0) p0) (isS (cu_N v 0) p0 && cu_B v 0 p0.toInt.toNat) false = 0 → ∃ n : Nat, n < cu_N v 0 ∧ p0 = nI n ∧ cu_B v 0 n = false ∧ b = iI (m_beg v1 n))
set_option maxHeartbeats 2000000 in
theorem u_time (l : Launch) (dC : Nat → ClassId) (dI : Nat → Nat → Nat) (a : Nat → Nat) (k : c_K) (u : c_St) (o : Nat) (f : Nat → Int64) (sz : Nat) (hst : l.stackTraces = false) (v : c_St) (hR : Rel u v) (h600 : cu_N u 4 ≤ 600) (p0 : Int32) : Met l yL_time wsL_time ({ frames := 8, cells := 1, slots := 6, locals := 150 }) (va_Pc [.ref (a 0), .int p0, .ref o] (w_wr (dC, dI) vwCl (wL a o k (u, f)) (tC k) sz)) (va_Qi (fun r x => ∀ (b : Int32) (v1 : c_St), P_time v p0 b v1 → Agree u r x b v1) (w_at (dC, dI) vwCl (wL a o k) (tC k) (va_A (wL a o k (u, f)) sz)) (va_A (wL a o k (u, f)) sz)) 1 6 (va_A (wL a o k (u, f)) sz) := by
  have e0 := hR.2.2.1.1
  cases c0 : isS (cu_N u 0) p0 with
  | false =>
    refine r_time_1 l dC dI a k u o f sz hst hR.1.1 p0 c0 _ ?_
    intro b v1 hP
    exact ag_xb hR hP 1 (by decide) (by simp [m_code, e0, c0])
  | true =>
  obtain ⟨n, hn, rfl⟩ := isS_of (by have := hR.1.1; omega) c0
  have hn2 := hR.1.1
  have et := tnI (i := n) (by omega)
  have eg := hR.gone hn
  cases cb : cu_B u 0 n with
  | false =>
    refine r_time_2 l dC dI a k u o f sz hst hR.1.1 n hn cb _ ?_
    intro b v1 hP
    exact ag_xb hR hP 2 (by decide) (by simp [m_code, e0, c0, et, eg, cb])
  | true =>
  have ec : m_code (!isS (cu_N v 0) (nI n)) (isS (cu_N v 0) (nI n) && cu_B v 0 (nI n).toInt.toNat) false = 0 := by simp [m_code, e0, c0, et, eg, cb]
  refine r_time_0 l dC dI a k u o f sz hst hR.1 n hn cb _ ?_
  intro g hg b v1 hP
  obtain ⟨e1, hP⟩ := hP
  obtain ⟨n', w0, q0, -, er⟩ := hP ec
  obtain rfl := nI_inj (by omega) (by omega) q0
  rw [ec] at e1
  subst e1 er
  exact ag_0 (hR.th 0) rfl (by rw [hg, (hR.th 0).beg hn]) (Nat.le_succ _)
abbrev P_sum (v : c_St) (p0 : Int32) (b : Int32) (v1 : c_St) : Prop := v1 = cs_N v 4 (m_code (!isS (cu_N v 0) p0) (isS (cu_N v 0) p0 && cu_B v 0 p0.toInt.toNat) false) ∧ (m_code (!isS (cu_N v 0) p0) (isS (cu_N v 0) p0 && cu_B v 0 p0.toInt.toNat) false = 0 → ∃ n : Nat, n < cu_N v 0 ∧ p0 = nI n ∧ cu_B v 0 n = false ∧ b = m_sm (fun i => cu_G v1 2 (8 * n + i)) 0 (cu_F v1 2 n))
set_option maxHeartbeats 2000000 in
theorem u_sum (l : Launch) (dC : Nat → ClassId) (dI : Nat → Nat → Nat) (a : Nat → Nat) (k : c_K) (u : c_St) (o : Nat) (f : Nat → Int64) (sz : Nat) (hst : l.stackTraces = false) (v : c_St) (hR : Rel u v) (h600 : cu_N u 4 ≤ 600) (p0 : Int32) : Met l yL_sum wsL_sum ({ frames := 8, cells := 1, slots := 6, locals := 150 }) (va_Pc [.ref (a 0), .int p0, .ref o] (w_wr (dC, dI) vwCl (wL a o k (u, f)) (tC k) sz)) (va_Qi (fun r x => ∀ (b : Int32) (v1 : c_St), P_sum v p0 b v1 → Agree u r x b v1) (w_at (dC, dI) vwCl (wL a o k) (tC k) (va_A (wL a o k (u, f)) sz)) (va_A (wL a o k (u, f)) sz)) 1 6 (va_A (wL a o k (u, f)) sz) := by
  have e0 := hR.2.2.1.1
  cases c0 : isS (cu_N u 0) p0 with
  | false =>
    refine r_sum_1 l dC dI a k u o f sz hst hR.1.1 p0 c0 _ ?_
    intro b v1 hP
    exact ag_xb hR hP 1 (by decide) (by simp [m_code, e0, c0])
  | true =>
  obtain ⟨n, hn, rfl⟩ := isS_of (by have := hR.1.1; omega) c0
  have hn2 := hR.1.1
  have et := tnI (i := n) (by omega)
  have eg := hR.gone hn
  cases cb : cu_B u 0 n with
  | false =>
    refine r_sum_2 l dC dI a k u o f sz hst hR.1.1 n hn cb _ ?_
    intro b v1 hP
    exact ag_xb hR hP 2 (by decide) (by simp [m_code, e0, c0, et, eg, cb])
  | true =>
  have ec : m_code (!isS (cu_N v 0) (nI n)) (isS (cu_N v 0) (nI n) && cu_B v 0 (nI n).toInt.toNat) false = 0 := by simp [m_code, e0, c0, et, eg, cb]
  refine r_sum_0 l dC dI a k u o f sz hst hR.1 n hn cb _ ?_
  intro g hg b v1 hP
  obtain ⟨e1, hP⟩ := hP
  obtain ⟨n', w0, q0, -, er⟩ := hP ec
  obtain rfl := nI_inj (by omega) (by omega) q0
  rw [ec] at e1
  subst e1 er
  exact ag_0 (hR.th 0) rfl (by rw [hg, (hR.th 0).now hn]) (Nat.le_succ _)
abbrev P_part (v : c_St) (p0 : Int32) (p1 : Int32) (p2 : Int32) (b : Int32) (v1 : c_St) : Prop := v1 = cs_N v 4 (m_code (!isS (cu_N v 0) p0) (isS (cu_N v 0) p0 && cu_B v 0 p0.toInt.toNat) false) ∧ (m_code (!isS (cu_N v 0) p0) (isS (cu_N v 0) p0 && cu_B v 0 p0.toInt.toNat) false = 0 → ∃ n : Nat, n < cu_N v 0 ∧ p0 = nI n ∧ cu_B v 0 n = false ∧ b = m_sw (fun i => cu_G v1 2 (8 * n + i)) (m_beg v1 n) p1 p2 0 (cu_F v1 2 n))
set_option maxHeartbeats 2000000 in
theorem u_part (l : Launch) (dC : Nat → ClassId) (dI : Nat → Nat → Nat) (a : Nat → Nat) (k : c_K) (u : c_St) (o : Nat) (f : Nat → Int64) (sz : Nat) (hst : l.stackTraces = false) (v : c_St) (hR : Rel u v) (h600 : cu_N u 4 ≤ 600) (p0 : Int32) (p1 : Int32) (p2 : Int32) : Met l yL_part wsL_part ({ frames := 8, cells := 1, slots := 6, locals := 150 }) (va_Pc [.ref (a 0), .int p0, .int p1, .int p2, .ref o] (w_wr (dC, dI) vwCl (wL a o k (u, f)) (tC k) sz)) (va_Qi (fun r x => ∀ (b : Int32) (v1 : c_St), P_part v p0 p1 p2 b v1 → Agree u r x b v1) (w_at (dC, dI) vwCl (wL a o k) (tC k) (va_A (wL a o k (u, f)) sz)) (va_A (wL a o k (u, f)) sz)) 1 6 (va_A (wL a o k (u, f)) sz) := by
  have e0 := hR.2.2.1.1
  cases c0 : isS (cu_N u 0) p0 with
  | false =>
    refine r_part_1 l dC dI a k u o f sz hst hR.1.1 p0 c0 p1 p2 _ ?_
    intro b v1 hP
    exact ag_xb hR hP 1 (by decide) (by simp [m_code, e0, c0])
  | true =>
  obtain ⟨n, hn, rfl⟩ := isS_of (by have := hR.1.1; omega) c0
  have hn2 := hR.1.1
  have et := tnI (i := n) (by omega)
  have eg := hR.gone hn
  cases cb : cu_B u 0 n with
  | false =>
    refine r_part_2 l dC dI a k u o f sz hst hR.1.1 n hn cb p1 p2 _ ?_
    intro b v1 hP
    exact ag_xb hR hP 2 (by decide) (by simp [m_code, e0, c0, et, eg, cb])
  | true =>
  have ec : m_code (!isS (cu_N v 0) (nI n)) (isS (cu_N v 0) (nI n) && cu_B v 0 (nI n).toInt.toNat) false = 0 := by simp [m_code, e0, c0, et, eg, cb]
  refine r_part_0 l dC dI a k u o f sz hst hR.1 n hn cb p1 p2 _ ?_
  intro g hg b v1 hP
  obtain ⟨e1, hP⟩ := hP
  obtain ⟨n', w0, q0, -, er⟩ := hP ec
  obtain rfl := nI_inj (by omega) (by omega) q0
  rw [ec] at e1
  subst e1 er
  exact ag_0 (hR.th 0) rfl (by rw [hg, (hR.th 0).sw hn]) (Nat.le_succ _)
abbrev P_hold (v : c_St) (p0 : Int32) (on : Bool) (v1 : c_St) : Prop := (m_code (!inR p0 0 49) (inR p0 0 49 && (cu_B v 1 p0.toInt.toNat == on)) false ≠ 0 → v1 = cs_N v 4 (m_code (!inR p0 0 49) (inR p0 0 49 && (cu_B v 1 p0.toInt.toNat == on)) false)) ∧ (m_code (!inR p0 0 49) (inR p0 0 49 && (cu_B v 1 p0.toInt.toNat == on)) false = 0 → ∃ i : Nat, p0 = nI i ∧ i ≤ 49 ∧ v1 = cs_B (cs_N v 4 0) 1 i on)
set_option maxHeartbeats 2000000 in
theorem u_hold (l : Launch) (dC : Nat → ClassId) (dI : Nat → Nat → Nat) (a : Nat → Nat) (k : c_K) (u : c_St) (o : Nat) (f : Nat → Int64) (sz : Nat) (hst : l.stackTraces = false) (v : c_St) (hR : Rel u v) (h600 : cu_N u 4 ≤ 600) (p0 : Int32) (on : Bool) : Met l yL_hold wsL_hold ({ frames := 8, cells := 1, slots := 6, locals := 150 }) (va_Pc [.ref (a 0), .int p0, .int (bI on)] (w_wr (dC, dI) vwCl (wL a o k (u, f)) (tC k) sz)) (va_Qi (fun r x => ∀ v1 : c_St, P_hold v p0 on v1 → AgreeV u r x v1) (w_at (dC, dI) vwCl (wL a o k) (tC k) (va_A (wL a o k (u, f)) sz)) (va_A (wL a o k (u, f)) sz)) 1 6 (va_A (wL a o k (u, f)) sz) := by
  cases c0 : inR p0 0 49 with
  | false =>
    refine r_hold_1 l dC dI a k u o f sz hst p0 on c0 _ ?_
    intro v1 hP
    exact ag_va hR hP 1 (by decide) (by simp [m_code, c0])
  | true =>
  obtain ⟨i, -, g1, rfl⟩ := inRn c0 (l9 := 0) (h9 := 49) rfl rfl (by decide)
  have et := tnI (i := i) (by omega)
  have eh := hR.2.2.2.2.2.2.2.2.1 i (by omega)
  by_cases cb : cu_B u 3 i = on
  · refine r_hold_2 l dC dI a k u o f sz hst i g1 on cb _ ?_
    intro v1 hP
    exact ag_va hR hP 2 (by decide) (by simp [m_code, c0, et, eh, cb])
  · refine r_hold_0 l dC dI a k u o f sz hst i g1 on cb _ ?_
    intro u1 eu v1 hP
    obtain ⟨i', q0, w0, ev⟩ := hP.2 (by simp [m_code, c0, et, eh, cb])
    obtain rfl := nI_inj (by omega) (by omega) q0
    subst eu ev
    exact ag_v (hR.hold on) rfl (Nat.le_succ _)
abbrev P_drop (v : c_St) (p0 : Int32) (b : Int32) (v1 : c_St) : Prop := (m_code (!isS (cu_N v 0) p0) (isS (cu_N v 0) p0 && (cu_B v 0 p0.toInt.toNat || cu_B v 1 (cu_F v 4 p0.toInt.toNat))) false ≠ 0 → v1 = cs_N v 4 (m_code (!isS (cu_N v 0) p0) (isS (cu_N v 0) p0 && (cu_B v 0 p0.toInt.toNat || cu_B v 1 (cu_F v 4 p0.toInt.toNat))) false)) ∧ (m_code (!isS (cu_N v 0) p0) (isS (cu_N v 0) p0 && (cu_B v 0 p0.toInt.toNat || cu_B v 1 (cu_F v 4 p0.toInt.toNat))) false = 0 → ∃ n : Nat, n < cu_N v 0 ∧ p0 = nI n ∧ cu_B v 0 n = false ∧ cu_B v 1 (cu_F v 4 n) = false ∧ b = nI (cu_N v 2) ∧ v1 = cs_N (cs_G (cs_F (cs_B (cs_N v 4 0) 0 n true) 6 (cu_N v 2) n) 1 (cu_N v 2) (m_sm (fun i => cu_G v 2 (8 * n + i)) 0 (cu_F v 2 n))) 2 (cu_N v 2 + 1))
set_option maxHeartbeats 2000000 in
theorem u_drop (l : Launch) (dC : Nat → ClassId) (dI : Nat → Nat → Nat) (a : Nat → Nat) (k : c_K) (u : c_St) (o : Nat) (f : Nat → Int64) (sz : Nat) (hst : l.stackTraces = false) (v : c_St) (hR : Rel u v) (h600 : cu_N u 4 ≤ 600) (p0 : Int32) : Met l yL_drop wsL_drop ({ frames := 8, cells := 1, slots := 6, locals := 150 }) (va_Pc [.ref (a 0), .int p0, .ref o] (w_wr (dC, dI) vwCl (wL a o k (u, f)) (tC k) sz)) (va_Qi (fun r x => ∀ (b : Int32) (v1 : c_St), P_drop v p0 b v1 → Agree u r x b v1) (w_at (dC, dI) vwCl (wL a o k) (tC k) (va_A (wL a o k (u, f)) sz)) (va_A (wL a o k (u, f)) sz)) 1 6 (va_A (wL a o k (u, f)) sz) := by
  have e0 := hR.2.2.1.1
  cases c0 : isS (cu_N u 0) p0 with
  | false =>
    refine r_drop_1 l dC dI a k u o f sz hst hR.1.1 p0 c0 _ ?_
    intro b v1 hP
    exact ag_xa hR hP 1 (by decide) (by simp [m_code, e0, c0])
  | true =>
  obtain ⟨n, hn, rfl⟩ := isS_of (by have := hR.1.1; omega) c0
  have hn2 := hR.1.1
  have et := tnI (i := n) (by omega)
  have eg := hR.gone hn
  have e4 := (hR.2.2.2.1 n hn).1.2.2.2.2
  have hic := (hR.1.2.2.1 n hn).2.2.2.2.2
  have eh := hR.2.2.2.2.2.2.2.2.1 (cu_F u 4 n) hic
  cases cb : cu_B u 0 n with
  | false =>
    refine r_drop_2 l dC dI a k u o f sz hst hR.1.1 n hn cb _ ?_
    intro b v1 hP
    exact ag_xa hR hP 2 (by decide) (by simp [m_code, e0, c0, et, eg, cb])
  | true =>
  cases ch : cu_B u 3 (cu_F u 4 n) with
  | true =>
    refine r_drop_3 l dC dI a k u o f sz hst hR.1 n hn cb ch _ ?_
    intro b v1 hP
    exact ag_xa hR hP 2 (by decide) (by simp [m_code, e0, c0, et, eg, cb, e4, eh, ch])
  | false =>
  obtain ⟨t, ht, he⟩ := hR.2.1.2.2.1 n hn cb
  have hs := hR.2.2.1.2.2.2.2
  refine r_drop_0 l dC dI a k u o f sz hst hR.1 (by omega) n t hn cb ch (by omega) (fun j hj => by have := (hR.2.1.2.1 j hj).1; omega) ht he (fun j hj ne q => ne (hR.inj j t hj ht (by rw [q, he]))) _ ?_
  rintro r u1 g ⟨er, eu⟩ hg b v1 hP
  obtain ⟨n', w0, q0, -, -, er', ev⟩ := hP.2 (by simp [m_code, e0, c0, et, eg, cb, e4, eh, ch])
  obtain rfl := nI_inj (by omega) (by omega) q0
  subst er er' eu ev
  exact ag_0 (hR.drop hn ht he) rfl (by rw [hg, hR.2.2.1.2.2.1]) (Nat.le_succ _)
abbrev P_certificate (v : c_St) (p0 : Int32) (p1 : Int32) (b : Int32) (v1 : c_St) : Prop := v1 = cs_N v 4 (m_code (!isS (cu_N v 2) p0 || !inR p1 0 2) false false) ∧ (m_code (!isS (cu_N v 2) p0 || !inR p1 0 2) false false = 0 → ∃ c9 w9 : Nat, c9 < cu_N v 2 ∧ w9 ≤ 2 ∧ p0 = nI c9 ∧ p1 = nI w9 ∧ b = (if w9 = 0 then nI (cu_F v 6 c9) else if w9 = 1 then cu_G v 0 (cu_F v 6 c9) else cu_G v 1 c9))
set_option maxHeartbeats 2000000 in
theorem u_certificate (l : Launch) (dC : Nat → ClassId) (dI : Nat → Nat → Nat) (a : Nat → Nat) (k : c_K) (u : c_St) (o : Nat) (f : Nat → Int64) (sz : Nat) (hst : l.stackTraces = false) (v : c_St) (hR : Rel u v) (h600 : cu_N u 4 ≤ 600) (p0 : Int32) (p1 : Int32) : Met l yL_certificate wsL_certificate ({ frames := 8, cells := 1, slots := 6, locals := 150 }) (va_Pc [.ref (a 0), .int p0, .int p1, .ref o] (w_wr (dC, dI) vwCl (wL a o k (u, f)) (tC k) sz)) (va_Qi (fun r x => ∀ (b : Int32) (v1 : c_St), P_certificate v p0 p1 b v1 → Agree u r x b v1) (w_at (dC, dI) vwCl (wL a o k) (tC k) (va_A (wL a o k (u, f)) sz)) (va_A (wL a o k (u, f)) sz)) 1 6 (va_A (wL a o k (u, f)) sz) := by
  have e2 := hR.2.2.1.2.2.1
  have hs := hR.2.2.1.2.2.2.2
  have hn2 := hR.1.1
  cases c0 : isS (cu_N u 3) p0 with
  | false =>
    refine r_certificate_1 l dC dI a k u o f sz hst (by omega) p0 p1 c0 _ ?_
    intro b v1 hP
    exact ag_xb hR hP 1 (by decide) (by simp [m_code, e2, c0])
  | true =>
  obtain ⟨c9, hc, rfl⟩ := isS_of (by omega) c0
  cases c1 : inR p1 0 2 with
  | false =>
    refine r_certificate_2 l dC dI a k u o f sz hst (by omega) c9 hc p1 c1 _ ?_
    intro b v1 hP
    exact ag_xb hR hP 1 (by decide) (by simp [m_code, e2, c0, c1])
  | true =>
  obtain ⟨w9, -, hw, rfl⟩ := inRn c1 (l9 := 0) (h9 := 2) rfl rfl (by decide)
  have ec : m_code (!isS (cu_N v 2) (nI c9) || !inR (nI w9) 0 2) false false = 0 := by simp [m_code, e2, c0, c1]
  refine r_certificate_0 l dC dI a k u o f sz hst (by omega) c9 w9 hc hw _ ?_
  intro g hg b v1 hP
  obtain ⟨e1, hP⟩ := hP
  obtain ⟨c', w', h1, h2, q0, q1, er⟩ := hP ec
  obtain rfl := nI_inj (by omega) (by omega) q0
  obtain rfl := nI_inj (by omega) (by omega) q1
  rw [ec] at e1
  subst e1 er
  refine ag_0 (hR.th 0) rfl ?_ (Nat.le_succ _)
  obtain ⟨a1, a2, a3, a4⟩ := hR.2.2.2.2.2.1 c9 hc
  rw [hg, a1, a3, a4, (hR.2.2.2.1 _ a2).2.2.1]
abbrev P_right (v : c_St) (p0 : Int32) (p1 : Int32) (on : Bool) (v1 : c_St) : Prop := (m_code (!inR p0 0 19 || !inR p1 0 49) false false ≠ 0 → v1 = cs_N v 4 (m_code (!inR p0 0 19 || !inR p1 0 49) false false)) ∧ (m_code (!inR p0 0 19 || !inR p1 0 49) false false = 0 → ∃ ps ic : Nat, p0 = nI ps ∧ p1 = nI ic ∧ ps ≤ 19 ∧ ic ≤ 49 ∧ v1 = cs_B (cs_N v 4 0) 2 (50 * ps + ic) on)
set_option maxHeartbeats 2000000 in
theorem u_right (l : Launch) (dC : Nat → ClassId) (dI : Nat → Nat → Nat) (a : Nat → Nat) (k : c_K) (u : c_St) (o : Nat) (f : Nat → Int64) (sz : Nat) (hst : l.stackTraces = false) (v : c_St) (hR : Rel u v) (h600 : cu_N u 4 ≤ 600) (p0 : Int32) (p1 : Int32) (on : Bool) : Met l yL_right wsL_right ({ frames := 8, cells := 1, slots := 6, locals := 150 }) (va_Pc [.ref (a 0), .int p0, .int p1, .int (bI on)] (w_wr (dC, dI) vwCl (wL a o k (u, f)) (tC k) sz)) (va_Qi (fun r x => ∀ v1 : c_St, P_right v p0 p1 on v1 → AgreeV u r x v1) (w_at (dC, dI) vwCl (wL a o k) (tC k) (va_A (wL a o k (u, f)) sz)) (va_A (wL a o k (u, f)) sz)) 1 6 (va_A (wL a o k (u, f)) sz) := by
  cases c0 : inR p0 0 19 with
  | false =>
    refine r_right_1 l dC dI a k u o f sz hst p0 p1 on c0 _ ?_
    intro v1 hP
    exact ag_va hR hP 1 (by decide) (by simp [m_code, c0])
  | true =>
  obtain ⟨ps, -, g1, rfl⟩ := inRn c0 (l9 := 0) (h9 := 19) rfl rfl (by decide)
  cases c1 : inR p1 0 49 with
  | false =>
    refine r_right_2 l dC dI a k u o f sz hst ps g1 p1 on c1 _ ?_
    intro v1 hP
    exact ag_va hR hP 1 (by decide) (by simp [m_code, c0, c1])
  | true =>
  obtain ⟨ic, -, g2, rfl⟩ := inRn c1 (l9 := 0) (h9 := 49) rfl rfl (by decide)
  refine r_right_0 l dC dI a k u o f sz hst ps ic g1 g2 on _ ?_
  intro u1 eu v1 hP
  obtain ⟨ps', ic', q0, q1, w0, w1, ev⟩ := hP.2 (by simp [m_code, c0, c1])
  obtain rfl := nI_inj (by omega) (by omega) q0
  obtain rfl := nI_inj (by omega) (by omega) q1
  subst eu ev
  exact ag_v (hR.right on) rfl (Nat.le_succ _)
abbrev P_listen (v : c_St) (p0 : Int32) (p1 : Int32) (b : Int32) (v1 : c_St) : Prop := ((!inR p0 0 19 || !isS (cu_N v 0) p1) = true → v1 = cs_N v 4 1) ∧ ((!inR p0 0 19 || !isS (cu_N v 0) p1) = false → ∃ ps n : Nat, ps ≤ 19 ∧ n < cu_N v 0 ∧ p0 = nI ps ∧ p1 = nI n ∧ ∃ may : Bool, may = (!cu_B v 0 n && cu_B v 2 (50 * ps + cu_F v 4 n)) ∧ v1 = cs_N (m_told v ps n may) 4 (if may = true then 0 else 2) ∧ (may = true → b = m_sm (fun i => cu_G v 2 (8 * n + i)) 0 (cu_F v 2 n)))
set_option maxHeartbeats 2000000 in
theorem u_listen (l : Launch) (dC : Nat → ClassId) (dI : Nat → Nat → Nat) (a : Nat → Nat) (k : c_K) (u : c_St) (o : Nat) (f : Nat → Int64) (sz : Nat) (hst : l.stackTraces = false) (v : c_St) (hR : Rel u v) (h600 : cu_N u 4 ≤ 600) (p0 : Int32) (p1 : Int32) : Met l yL_listen wsL_listen ({ frames := 8, cells := 1, slots := 6, locals := 150 }) (va_Pc [.ref (a 0), .int p0, .int p1, .ref o] (w_wr (dC, dI) vwCl (wL a o k (u, f)) (tC k) sz)) (va_Qi (fun r x => ∀ (b : Int32) (v1 : c_St), P_listen v p0 p1 b v1 → Agree u r x b v1) (w_at (dC, dI) vwCl (wL a o k) (tC k) (va_A (wL a o k (u, f)) sz)) (va_A (wL a o k (u, f)) sz)) 1 6 (va_A (wL a o k (u, f)) sz) := by
  have e0 := hR.2.2.1.1
  cases c0 : inR p0 0 19 with
  | false =>
    refine r_listen_1 l dC dI a k u o f sz hst p0 p1 c0 _ ?_
    intro b v1 hP
    exact ag_x (c := 1) hR (by decide) (hP.1 (by simp [c0]))
  | true =>
  obtain ⟨ps, -, g1, rfl⟩ := inRn c0 (l9 := 0) (h9 := 19) rfl rfl (by decide)
  cases c1 : isS (cu_N u 0) p1 with
  | false =>
    refine r_listen_2 l dC dI a k u o f sz hst hR.1.1 ps g1 p1 c1 _ ?_
    intro b v1 hP
    exact ag_x (c := 1) hR (by decide) (hP.1 (by simp [c0, c1, e0]))
  | true =>
  obtain ⟨n, hn, rfl⟩ := isS_of (by have := hR.1.1; omega) c1
  have hn2 := hR.1.1
  have eg := hR.gone hn
  have e4 := (hR.2.2.2.1 n hn).1.2.2.2.2
  have hic := (hR.1.2.2.1 n hn).2.2.2.2.2
  have er9 := hR.2.2.2.2.2.2.2.1 (50 * ps + cu_F u 4 n) (by omega)
  cases cm : (cu_B u 0 n && cu_B u 2 (ps * 50 + cu_F u 4 n)) with
  | false =>
    refine r_listen_3 l dC dI a k u o f sz hst hR.1 h600 ps n g1 hn cm _ ?_
    intro u1 eu b v1 hP
    obtain ⟨ps', n', w0, w1, q0, q1, may, em, ev, -⟩ := hP.2 (by simp [c0, c1, e0])
    obtain rfl := nI_inj (by omega) (by omega) q0
    obtain rfl := nI_inj (by omega) (by omega) q1
    rw [eg, Bool.not_not, e4, er9, show 50 * ps = ps * 50 by omega, cm] at em
    subst em eu ev
    exact ⟨rfl, fun q => absurd q (by decide), hR.told false, Nat.le_refl _⟩
  | true =>
    have cm2 := cm
    rw [Bool.and_eq_true] at cm2
    refine r_listen_0 l dC dI a k u o f sz hst hR.1 h600 ps n g1 hn cm2.1 cm2.2 _ ?_
    rintro r u1 g ⟨er, eu⟩ hg b v1 hP
    obtain ⟨ps', n', w0, w1, q0, q1, may, em, ev, eb⟩ := hP.2 (by simp [c0, c1, e0])
    obtain rfl := nI_inj (by omega) (by omega) q0
    obtain rfl := nI_inj (by omega) (by omega) q1
    rw [eg, Bool.not_not, e4, er9, show 50 * ps = ps * 50 by omega, cm] at em
    subst em
    have eb := eb rfl
    subst er eu ev eb
    exact ag_0 (hR.told true) rfl (by rw [hg, hR.now hn]) (Nat.le_refl _)
abbrev P_row (v : c_St) (p0 : Int32) (p1 : Int32) (b : Int32) (v1 : c_St) : Prop := v1 = cs_N v 4 (m_code (!(isS (cu_N v 3) p0 && decide ((cu_N v 3 : Int) - 200 ≤ p0.toInt)) || !inR p1 0 2) false false) ∧ (m_code (!(isS (cu_N v 3) p0 && decide ((cu_N v 3 : Int) - 200 ≤ p0.toInt)) || !inR p1 0 2) false false = 0 → ∃ i w9 : Nat, i < cu_N v 3 ∧ cu_N v 3 ≤ i + 200 ∧ w9 ≤ 2 ∧ p0 = nI i ∧ p1 = nI w9 ∧ b = nI (cu_F v 7 (3 * (i % 200) + w9)))
set_option maxHeartbeats 2000000 in
theorem u_row (l : Launch) (dC : Nat → ClassId) (dI : Nat → Nat → Nat) (a : Nat → Nat) (k : c_K) (u : c_St) (o : Nat) (f : Nat → Int64) (sz : Nat) (hst : l.stackTraces = false) (v : c_St) (hR : Rel u v) (h600 : cu_N u 4 ≤ 600) (p0 : Int32) (p1 : Int32) : Met l yL_row wsL_row ({ frames := 8, cells := 1, slots := 6, locals := 150 }) (va_Pc [.ref (a 0), .int p0, .int p1, .ref o] (w_wr (dC, dI) vwCl (wL a o k (u, f)) (tC k) sz)) (va_Qi (fun r x => ∀ (b : Int32) (v1 : c_St), P_row v p0 p1 b v1 → Agree u r x b v1) (w_at (dC, dI) vwCl (wL a o k) (tC k) (va_A (wL a o k (u, f)) sz)) (va_A (wL a o k (u, f)) sz)) 1 6 (va_A (wL a o k (u, f)) sz) := by
  have e3 := hR.2.2.1.2.2.2.1
  cases c0 : c_kept u p0 with
  | false =>
    refine r_row_1 l dC dI a k u o f sz hst h600 p0 p1 c0 _ ?_
    intro b v1 hP
    unfold c_kept at c0
    exact ag_xb hR hP 1 (by decide) (by rw [e3, c0]; rfl)
  | true =>
  have c2 := c0
  unfold c_kept at c2
  have c3 := c2
  rw [Bool.and_eq_true, decide_eq_true_eq] at c3
  obtain ⟨i, hi, rfl⟩ := isS_of (by omega) c3.1
  have hk : cu_N u 4 ≤ i + 200 := by have := c3.2; rw [nI_toInt (by omega)] at this; omega
  cases c1 : inR p1 0 2 with
  | false =>
    refine r_row_2 l dC dI a k u o f sz hst h600 i hi p1 c0 c1 _ ?_
    intro b v1 hP
    exact ag_xb hR hP 1 (by decide) (by rw [e3, c2, c1]; rfl)
  | true =>
  obtain ⟨w9, -, hw, rfl⟩ := inRn c1 (l9 := 0) (h9 := 2) rfl rfl (by decide)
  have ec : m_code (!(isS (cu_N v 3) (nI i) && decide ((cu_N v 3 : Int) - 200 ≤ (nI i).toInt)) || !inR (nI w9) 0 2) false false = 0 := by rw [e3, c2, c1]; rfl
  refine r_row_0 l dC dI a k u o f sz hst h600 i w9 hi hk hw _ ?_
  intro g hg b v1 hP
  obtain ⟨e1, hP⟩ := hP
  obtain ⟨i', w', h1, h2, h3, q0, q1, er⟩ := hP ec
  obtain rfl := nI_inj (by omega) (by omega) q0
  obtain rfl := nI_inj (by omega) (by omega) q1
  rw [ec] at e1
  subst e1 er
  refine ag_0 (hR.th 0) rfl ?_ (Nat.le_succ _)
  obtain ⟨a1, a2, a3⟩ := hR.2.2.2.2.2.2.1 (i % 200) (Nat.mod_lt _ (by decide))
  rw [hg]
  by_cases z0 : w9 = 0
  · subst z0; rw [if_pos rfl, Nat.add_zero, a1]
  · by_cases z1 : w9 = 1
    · subst z1; rw [if_neg (by decide), if_pos rfl, a2]
    · have z2 : w9 = 2 := by omega
      subst z2
      rw [if_neg (by decide), if_neg (by decide), a3]
      cases cu_B u 1 (i % 200) <;> rfl
abbrev P_poke (v : c_St) (p0 : Int32) (p1 : Int32) (p2 : Int32) (v1 : c_St) : Prop := (m_code (!isS (cu_N v 0) p0) (!isS (cu_N v 0) p0 || !isS (cu_F v 2 p0.toInt.toNat) p1 || !inR p2 1 255) (isS (cu_N v 0) p0 && cu_B v 0 p0.toInt.toNat) ≠ 0 → v1 = cs_N v 4 (m_code (!isS (cu_N v 0) p0) (!isS (cu_N v 0) p0 || !isS (cu_F v 2 p0.toInt.toNat) p1 || !inR p2 1 255) (isS (cu_N v 0) p0 && cu_B v 0 p0.toInt.toNat))) ∧ (m_code (!isS (cu_N v 0) p0) (!isS (cu_N v 0) p0 || !isS (cu_F v 2 p0.toInt.toNat) p1 || !inR p2 1 255) (isS (cu_N v 0) p0 && cu_B v 0 p0.toInt.toNat) = 0 → ∃ n i : Nat, n < cu_N v 0 ∧ i < cu_F v 2 n ∧ p0 = nI n ∧ p1 = nI i ∧ inR p2 1 255 = true ∧ cu_B v 0 n = false ∧ v1 = cs_G (cs_N v 4 0) 2 (8 * n + i) (cu_G v 2 (8 * n + i) ^^^ p2))
set_option maxHeartbeats 2000000 in
theorem u_poke (l : Launch) (dC : Nat → ClassId) (dI : Nat → Nat → Nat) (a : Nat → Nat) (k : c_K) (u : c_St) (o : Nat) (f : Nat → Int64) (sz : Nat) (hst : l.stackTraces = false) (v : c_St) (hR : Rel u v) (h600 : cu_N u 4 ≤ 600) (p0 : Int32) (p1 : Int32) (p2 : Int32) : Met l yL_poke wsL_poke ({ frames := 8, cells := 1, slots := 6, locals := 150 }) (va_Pc [.ref (a 0), .int p0, .int p1, .int p2] (w_wr (dC, dI) vwCl (wL a o k (u, f)) (tC k) sz)) (va_Qi (fun r x => ∀ v1 : c_St, P_poke v p0 p1 p2 v1 → AgreeV u r x v1) (w_at (dC, dI) vwCl (wL a o k) (tC k) (va_A (wL a o k (u, f)) sz)) (va_A (wL a o k (u, f)) sz)) 1 6 (va_A (wL a o k (u, f)) sz) := by
  have e0 := hR.2.2.1.1
  cases c0 : isS (cu_N u 0) p0 with
  | false =>
    refine r_poke_1 l dC dI a k u o f sz hst hR.1.1 p0 p1 p2 c0 _ ?_
    intro v1 hP
    exact ag_va hR hP 1 (by decide) (by simp [m_code, e0, c0])
  | true =>
  obtain ⟨n, hn, rfl⟩ := isS_of (by have := hR.1.1; omega) c0
  have hn2 := hR.1.1
  have et := tnI (i := n) (by omega)
  have eg := hR.gone hn
  have el := hR.len hn
  have hl8 := (hR.1.2.2.1 n hn).2.2.2.1
  cases c1 : isS (cu_F u 2 n) p1 with
  | false =>
    refine r_poke_2 l dC dI a k u o f sz hst hR.1 n hn p1 p2 c1 _ ?_
    intro v1 hP
    exact ag_va hR hP 2 (by decide) (by simp [m_code, e0, c0, et, el, c1])
  | true =>
  obtain ⟨i, hi, rfl⟩ := isS_of (by omega) c1
  cases c2 : inR p2 1 255 with
  | false =>
    refine r_poke_3 l dC dI a k u o f sz hst hR.1 n i hn hi p2 c2 _ ?_
    intro v1 hP
    exact ag_va hR hP 2 (by decide) (by simp [m_code, e0, c0, et, el, c1, c2])
  | true =>
  obtain ⟨mk, m1, m2, rfl⟩ := inRn c2 (l9 := 1) (h9 := 255) rfl rfl (by decide)
  cases cb : cu_B u 0 n with
  | false =>
    refine r_poke_4 l dC dI a k u o f sz hst hR.1 n i mk hn hi m1 m2 cb _ ?_
    intro v1 hP
    exact ag_va hR hP 3 (by decide) (by simp [m_code, e0, c0, et, el, c1, c2, eg, cb])
  | true =>
  refine r_poke_0 l dC dI a k u o f sz hst hR.1 n i mk hn hi m1 m2 cb _ ?_
  intro u1 eu v1 hP
  obtain ⟨n', i', w0, w1, q0, q1, -, -, ev⟩ := hP.2 (by simp [m_code, e0, c0, et, el, c1, c2, eg, cb])
  obtain rfl := nI_inj (by omega) (by omega) q0
  have hlv := hR.mok.2.2.1 n w0
  obtain rfl := nI_inj (by omega) (by omega) q1
  subst eu ev
  exact ag_v (hR.poke hn hi m2) rfl (Nat.le_succ _)
abbrev P_count (v : c_St) (p0 : Int32) (b : Int32) (v1 : c_St) : Prop := v1 = cs_N v 4 (m_code (!inR p0 0 4) false false) ∧ (m_code (!inR p0 0 4) false false = 0 → ∃ w9 : Nat, w9 ≤ 4 ∧ p0 = nI w9 ∧ b = (if w9 = 0 then nI (cu_N v1 0) else if w9 = 1 then nI (m_th v1 (cu_N v1 0)) else if w9 = 2 then nI (cu_N v1 1) else if w9 = 3 then nI (cu_N v1 2) else nI (cu_N v1 3)))
set_option maxHeartbeats 2000000 in
theorem u_count (l : Launch) (dC : Nat → ClassId) (dI : Nat → Nat → Nat) (a : Nat → Nat) (k : c_K) (u : c_St) (o : Nat) (f : Nat → Int64) (sz : Nat) (hst : l.stackTraces = false) (v : c_St) (hR : Rel u v) (h600 : cu_N u 4 ≤ 600) (p0 : Int32) : Met l yL_count wsL_count ({ frames := 8, cells := 1, slots := 6, locals := 150 }) (va_Pc [.ref (a 0), .int p0, .ref o] (w_wr (dC, dI) vwCl (wL a o k (u, f)) (tC k) sz)) (va_Qi (fun r x => ∀ (b : Int32) (v1 : c_St), P_count v p0 b v1 → Agree u r x b v1) (w_at (dC, dI) vwCl (wL a o k) (tC k) (va_A (wL a o k (u, f)) sz)) (va_A (wL a o k (u, f)) sz)) 1 6 (va_A (wL a o k (u, f)) sz) := by
  cases c0 : inR p0 0 4 with
  | false =>
    refine r_count_1 l dC dI a k u o f sz hst p0 c0 _ ?_
    intro b v1 hP
    exact ag_xb hR hP 1 (by decide) (by simp [m_code, c0])
  | true =>
  obtain ⟨w9, -, hw, rfl⟩ := inRn c0 (l9 := 0) (h9 := 4) rfl rfl (by decide)
  have ec : m_code (!inR (nI w9) 0 4) false false = 0 := by simp [m_code, c0]
  refine r_count_0 l dC dI a k u o f sz hst w9 hw _ ?_
  intro g hg b v1 hP
  obtain ⟨e1, hP⟩ := hP
  obtain ⟨w', h1, q0, er⟩ := hP ec
  obtain rfl := nI_inj (by omega) (by omega) q0
  rw [ec] at e1
  subst e1 er
  refine ag_0 (hR.th 0) rfl ?_ (Nat.le_succ _)
  rw [hg, (hR.th 0).there]
  obtain ⟨n0, n1, n2, n3, -⟩ := hR.2.2.1
  show _ = (if w9 = 0 then nI (cu_N v 0) else if w9 = 1 then nI (cu_N u 2) else if w9 = 2 then nI (cu_N v 1) else if w9 = 3 then nI (cu_N v 2) else nI (cu_N v 3)).toInt64
  rw [n0, n1, n2, n3]
