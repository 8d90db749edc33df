/-! what a call changes on both sides keeps the relation -/
section UPD
variable {u v : c_St}
theorem m_first_same {v w : c_St} {s : Nat} (hN : cu_N w 1 = cu_N v 1) (hF : ∀ j, j < cu_N v 1 → cu_F w 5 j = cu_F v 5 j) : m_first w s = m_first v s := by
  unfold m_first
  rw [hN]; exact m_scan_congr hF
theorem Rel.hold (h : Rel u v) {i : Nat} (on : Bool) : Rel (cs_B u 3 i on) (cs_B (cs_N v 4 0) 1 i on) := by
  obtain ⟨h1, h2, h3, h4, h5, h6, h7, h8⟩ := h
  refine ⟨h1, h2, h3, h4, ⟨h5.1, fun s hs => ?_⟩, h6, h7, h8.1, fun j hj => ?_, h8.2.2⟩
  · refine (h5.2 s hs).trans (Eq.symm ?_)
    exact m_first_same (v := v) (by rfl) (fun _ _ => by rfl)
  · rw [cx_BB, cx_BB, if_pos rfl, if_pos rfl]
    by_cases e : j = i
    · rw [if_pos e, if_pos e]
    · rw [if_neg e, if_neg e]; exact h8.2.1 j hj
theorem Rel.right (h : Rel u v) {ps ic : Nat} (on : Bool) : Rel (cs_B u 2 (ps * 50 + ic) on) (cs_B (cs_N v 4 0) 2 (50 * ps + ic) on) := by
  obtain ⟨h1, h2, h3, h4, h5, h6, h7, h8⟩ := h
  refine ⟨h1, h2, h3, h4, ⟨h5.1, fun s hs => ?_⟩, h6, h7, fun j hj => ?_, h8.2.1, h8.2.2⟩
  · refine (h5.2 s hs).trans (Eq.symm ?_)
    exact m_first_same (v := v) (by rfl) (fun _ _ => by rfl)
  · rw [cx_BB, cx_BB, if_pos rfl, if_pos rfl, show ps * 50 = 50 * ps by omega]
    by_cases e : j = 50 * ps + ic
    · rw [if_pos e, if_pos e]
    · rw [if_neg e, if_neg e]; exact h8.1 j hj
theorem Rel.poke (h : Rel u v) {n i m : Nat} (hn : n < cu_N u 0) (hi : i < cu_F u 2 n) (hm : m ≤ 255) : Rel (cs_L u n (cu_L u n ^^^ ((nI m).toInt64 <<< ((nI (8 * (cu_F u 2 n - 1 - i))).toInt64 &&& 63)))) (cs_G (cs_N v 4 0) 2 (8 * n + i) (cu_G v 2 (8 * n + i) ^^^ nI m)) := by
  obtain ⟨h1, h2, h3, h4, h5, h6, h7, h8⟩ := h
  refine ⟨h1, h2, h3, fun x hx => ?_, ⟨h5.1, fun s hs => ?_⟩, fun c hc => ?_, h7, h8⟩
  · obtain ⟨a1, a2, a3, a4⟩ := h4 x hx
    refine ⟨a1, a2, a3, fun j hj => ?_⟩
    have hj : j < cu_F u 2 x := hj
    have b8 := (h1.2.2.1 x hx).2.2.2.1
    have b9 := (h1.2.2.1 n hn).2.2.2.1
    show cu_G (cs_G (cs_N v 4 0) 2 (8 * n + i) (cu_G v 2 (8 * n + i) ^^^ nI m)) 2 (8 * x + j) = c_byte (cu_L (cs_L u n _) x) (nI (8 * (cu_F u 2 x - 1 - j)))
    rw [cx_GG, cx_LL, if_pos rfl]
    by_cases e : x = n
    · subst e
      rw [if_pos rfl, c_poke_b hm (by omega) (by omega)]
      by_cases e2 : j = i
      · subst e2
        rw [if_pos rfl, if_pos rfl, a4 j hj]
      · rw [if_neg (by omega), if_neg (by omega)]
        exact a4 j hj
    · rw [if_neg (by omega), if_neg e]
      exact a4 j hj
  · refine (h5.2 s hs).trans (Eq.symm ?_)
    exact m_first_same (v := v) (by rfl) (fun _ _ => by rfl)
  · exact h6 c hc
theorem Rel.told (h : Rel u v) {ps n c : Nat} (may : Bool) : Rel (cs_N (cs_B (cs_F (cs_F u 8 (cu_N u 4 % 200) ps) 9 (cu_N u 4 % 200) n) 1 (cu_N u 4 % 200) may) 4 (cu_N u 4 + 1)) (cs_N (m_told v ps n may) 4 c) := by
  obtain ⟨h1, h2, h3, h4, h5, h6, h7, h8⟩ := h
  obtain ⟨e0, e1, e2, e3, e4⟩ := h3
  refine ⟨h1, h2, ⟨e0, e1, e2, ?_, e4⟩, h4, ⟨h5.1, fun s hs => ?_⟩, h6, fun i hi => ?_, h8⟩
  · show cu_N v 3 + 1 = cu_N u 4 + 1
    rw [e3]
  · refine (h5.2 s hs).trans (Eq.symm ?_)
    exact m_first_same (v := v) (by rfl) (fun _ _ => by rfl)
  · obtain ⟨a1, a2, a3⟩ := h7 i hi
    have hb : cu_N v 3 % 200 < 200 := Nat.mod_lt _ (by decide)
    unfold m_told
    rw [← e3]
    simp only [cx_FN, cx_FF, cx_BN, cx_BB, cx_FB, if_true, if_false, show (8 : Nat) = 9 ↔ False by decide, show (9 : Nat) = 8 ↔ False by decide]
    by_cases e : i = cu_N v 3 % 200
    · subst e
      simp only [if_true, show ¬ (3 * (cu_N v 3 % 200) = 3 * (cu_N v 3 % 200) + 2) by omega, show ¬ (3 * (cu_N v 3 % 200) = 3 * (cu_N v 3 % 200) + 1) by omega, show ¬ (3 * (cu_N v 3 % 200) + 1 = 3 * (cu_N v 3 % 200) + 2) by omega, if_false, and_self]
    · simp only [e, if_false, show ¬ (3 * i = 3 * (cu_N v 3 % 200) + 2) by omega, show ¬ (3 * i = 3 * (cu_N v 3 % 200) + 1) by omega, show ¬ (3 * i = 3 * (cu_N v 3 % 200)) by omega, show ¬ (3 * i + 1 = 3 * (cu_N v 3 % 200) + 2) by omega, show ¬ (3 * i + 1 = 3 * (cu_N v 3 % 200) + 1) by omega, show ¬ (3 * i + 1 = 3 * (cu_N v 3 % 200)) by omega, show ¬ (3 * i + 2 = 3 * (cu_N v 3 % 200) + 2) by omega, show ¬ (3 * i + 2 = 3 * (cu_N v 3 % 200) + 1) by omega, show ¬ (3 * i + 2 = 3 * (cu_N v 3 % 200)) by omega]
      exact ⟨a1, a2, a3⟩
theorem c_lt_same {u w : c_St} {x y : Nat} (hx : c_beg w x = c_beg u x) (hy : c_beg w y = c_beg u y) (fx : cu_F w 0 x = cu_F u 0 x) (fy : cu_F w 0 y = cu_F u 0 y) : c_lt w x y = c_lt u x y := by
  unfold c_lt
  rw [hx, hy, fx, fy]
theorem Rel.drop (h : Rel u v) {n t : Nat} (hn : n < cu_N u 0) (ht : t < cu_N u 2) (he : cu_F u 6 t = n) :
    Rel (cs_N (cs_G (cs_G (cs_F (cs_N (c_cut (cs_B u 0 n false) t (cu_N u 2)) 2 (cu_N u 2 - 1)) 7 (cu_N u 3) n) 1 (cu_N u 3) (cu_G u 0 n)) 2 (cu_N u 3) (c_now u n)) 3 (cu_N u 3 + 1))
      (cs_N (cs_G (cs_F (cs_B (cs_N v 4 0) 0 n true) 6 (cu_N v 2) n) 1 (cu_N v 2) (m_sm (fun i => cu_G v 2 (8 * n + i)) 0 (cu_F v 2 n))) 2 (cu_N v 2 + 1)) := by
  have h0 := h
  obtain ⟨h1, h2, h3, h4, h5, h6, h7, h8⟩ := h
  obtain ⟨e0, e1, e2, e3, e4⟩ := h3
  obtain ⟨l1, l2, l3, l4⟩ := h2
  rw [h0.now hn]
  refine ⟨h1, ⟨?_, fun j hj => ?_, fun m hm hb => ?_, ?_⟩, ⟨e0, e1, ?_, e3, ?_⟩, fun m hm => ?_, ⟨h5.1, fun s hs => ?_⟩, fun c hc => ?_, h7, h8.1, h8.2.1, fun m hm => ?_⟩
  · show cu_N u 2 - 1 ≤ cu_N u 0
    omega
  · have hj : j < cu_N u 2 - 1 := hj
    show c_del (cu_F u 6) t (cu_N u 2) j < cu_N u 0 ∧ (if c_del (cu_F u 6) t (cu_N u 2) j = n then false else cu_B u 0 (c_del (cu_F u 6) t (cu_N u 2) j)) = true
    obtain ⟨i, hi, ne, e⟩ : ∃ i, i < cu_N u 2 ∧ i ≠ t ∧ c_del (cu_F u 6) t (cu_N u 2) j = cu_F u 6 i := by
      by_cases q : j < t
      · exact ⟨j, by omega, by omega, c_del_lo q⟩
      · exact ⟨j + 1, by omega, by omega, c_del_hi (by omega) (by omega)⟩
    rw [e]
    refine ⟨(l2 i hi).1, ?_⟩
    rw [if_neg (fun q => ne (h0.inj i t hi ht (by rw [q, he])))]
    exact (l2 i hi).2
  · have hb : (if m = n then false else cu_B u 0 m) = true := hb
    by_cases q : m = n
    · rw [if_pos q] at hb; cases hb
    · rw [if_neg q] at hb
      obtain ⟨j, hj, ej⟩ := l3 m hm hb
      have ne : j ≠ t := fun z => q (by rw [← ej, z, he])
      by_cases z : j < t
      · exact ⟨j, by show j < cu_N u 2 - 1; omega, by show c_del (cu_F u 6) t (cu_N u 2) j = m; rw [c_del_lo z]; exact ej⟩
      · refine ⟨j - 1, by show j - 1 < cu_N u 2 - 1; omega, ?_⟩
        show c_del (cu_F u 6) t (cu_N u 2) (j - 1) = m
        rw [c_del_hi (by omega) (by omega), show j - 1 + 1 = j by omega]; exact ej
  · exact c_del_srt (u := u) l4
  · show cu_N v 2 + 1 = cu_N u 3 + 1
    rw [e2]
  · show cu_N u 3 + 1 + (cu_N u 2 - 1) = cu_N u 0
    omega
  · obtain ⟨a1, a2, a3, a4⟩ := h4 m hm
    refine ⟨a1, ?_, a3, a4⟩
    show (if m = n then true else cu_B v 0 m) = (!(if m = n then false else cu_B u 0 m))
    by_cases q : m = n
    · rw [if_pos q, if_pos q]; rfl
    · rw [if_neg q, if_neg q]; exact a2
  · refine (h5.2 s hs).trans (Eq.symm ?_)
    exact m_first_same (v := v) (by rfl) (fun _ _ => by rfl)
  · have hc : c < cu_N u 3 + 1 := hc
    show (if c = cu_N v 2 then n else cu_F v 6 c) = (if c = cu_N u 3 then n else cu_F u 7 c) ∧ (if c = cu_N u 3 then n else cu_F u 7 c) < cu_N u 0 ∧ (if c = cu_N u 3 then cu_G u 0 n else cu_G u 1 c) = cu_G u 0 (if c = cu_N u 3 then n else cu_F u 7 c) ∧ (if c = cu_N u 3 then c_now u n else cu_G u 2 c) = (if c = cu_N v 2 then c_now u n else cu_G v 1 c)
    rw [e2]
    by_cases q : c = cu_N u 3
    · simp only [q, if_true]
      exact ⟨trivial, hn, trivial, trivial⟩
    · simp only [q, if_false]
      exact h6 c (by omega)
  · show (if m = n then true else cu_B v 0 m) = false
    have hm : cu_N u 0 ≤ m := hm
    rw [if_neg (by omega)]; exact h8.2.2 m hm
theorem c_ok_mk1 {u : c_St} (h : c_ok u) (hN : cu_N u 1 < 60) {sc ck tr : Nat} (h1 : sc ≤ 9) (h2 : ck ≤ 9999999) (h3 : tr ≤ 9999999) : c_ok (c_mk1 u sc ck tr) := by
  have e1 : cu_N (c_mk1 u sc ck tr) 1 = cu_N u 1 + 1 := rfl
  refine ⟨h.1, by rw [e1]; omega, h.2.2.1, fun m hm => ?_, fun s hs => ?_⟩
  · rw [e1] at hm
    show (if m = cu_N u 1 then sc else cu_F u 5 m) < 10 ∧ -9999999 ≤ (if m = cu_N u 1 then ((tr : Int) - (ck : Int)) else cu_D u 0 m) ∧ (if m = cu_N u 1 then ((tr : Int) - (ck : Int)) else cu_D u 0 m) ≤ 9999999
    by_cases hk : m = cu_N u 1
    · simp only [hk, if_true]; omega
    · simp only [hk, if_false]
      exact h.2.2.2.1 m (by omega)
  · rcases h.2.2.2.2 s hs with q | ⟨j, q1, q2⟩
    · exact Or.inl q
    · exact Or.inr ⟨j, by rw [e1]; omega, q2⟩
theorem m_first_mk (v : c_St) (sc ck tr s : Nat) : m_first (cs_N (cs_D (cs_F (cs_N v 4 0) 5 (cu_N v 1) sc) 0 (cu_N v 1) ((tr : Int) - (ck : Int))) 1 (cu_N v 1 + 1)) s = if m_first v s = -1 then (if sc = s then (cu_N v 1 : Int) else -1) else m_first v s := by
  have e : m_scan (cs_N (cs_D (cs_F (cs_N v 4 0) 5 (cu_N v 1) sc) 0 (cu_N v 1) ((tr : Int) - (ck : Int))) 1 (cu_N v 1 + 1)) s (cu_N v 1) = m_scan v s (cu_N v 1) := m_scan_congr (fun j hj => by
    show (if j = cu_N v 1 then sc else cu_F v 5 j) = cu_F v 5 j
    rw [if_neg (by omega)])
  show m_scan _ s (cu_N v 1 + 1) = _
  unfold m_scan
  rw [e]
  show (if m_first v s = -1 then (if (if cu_N v 1 = cu_N v 1 then sc else cu_F v 5 (cu_N v 1)) = s then (cu_N v 1 : Int) else -1) else m_first v s) = _
  rw [if_pos rfl]
theorem Rel.mark1 (h : Rel u v) (hN : cu_N u 1 < 60) {sc ck tr : Nat} (h1 : sc ≤ 9) (h2 : ck ≤ 9999999) (h3 : tr ≤ 9999999) (hD : cu_D u 1 sc ≠ -1) : Rel (c_mk1 u sc ck tr) (cs_N (cs_D (cs_F (cs_N v 4 0) 5 (cu_N v 1) sc) 0 (cu_N v 1) ((tr : Int) - (ck : Int))) 1 (cu_N v 1 + 1)) := by
  obtain ⟨o, l, n, s4, m5, c6, r7, r8⟩ := h
  obtain ⟨e0, e1, e2, e3, e4⟩ := n
  obtain ⟨l1, l2, l3, l4⟩ := l
  have hoff : ∀ s, s < 10 → c_off (c_mk1 u sc ck tr) s = c_off u s := by
    intro s hs
    show (if cu_D u 1 s = -1 then 0 else (if (cu_D u 1 s).toNat = cu_N u 1 then ((tr : Int) - (ck : Int)) else cu_D u 0 (cu_D u 1 s).toNat)) = (if cu_D u 1 s = -1 then 0 else cu_D u 0 (cu_D u 1 s).toNat)
    rcases o.2.2.2.2 s hs with q | ⟨j, q1, q2⟩
    · rw [if_pos q, if_pos q]
    · rw [if_neg (by omega), if_neg (by omega), if_neg (by omega)]
  have hbeg : ∀ x, x < cu_N u 0 → c_beg (c_mk1 u sc ck tr) x = c_beg u x := fun x hx => by
    show (cu_F u 1 x : Int) + c_off (c_mk1 u sc ck tr) (cu_F u 0 x) = _
    rw [hoff _ (o.2.2.1 x hx).1]; rfl
  refine ⟨c_ok_mk1 o hN h1 h2 h3, ⟨l1, l2, l3, fun i j hij hj => ?_⟩, ⟨e0, ?_, e2, e3, e4⟩, s4, ⟨fun j hj => ?_, fun s hs => ?_⟩, c6, r7, r8⟩
  · have hj : j < cu_N u 2 := hj
    have := l4 i j hij hj
    rw [← c_lt_same (w := c_mk1 u sc ck tr) (hbeg _ (l2 i (by omega)).1) (hbeg _ (l2 j hj).1) rfl rfl] at this
    exact this
  · show cu_N v 1 + 1 = cu_N u 1 + 1
    rw [e1]
  · have hj : j < cu_N u 1 + 1 := hj
    show (if j = cu_N v 1 then sc else cu_F v 5 j) = (if j = cu_N u 1 then sc else cu_F u 5 j) ∧ (if j = cu_N v 1 then ((tr : Int) - (ck : Int)) else cu_D v 0 j) = (if j = cu_N u 1 then ((tr : Int) - (ck : Int)) else cu_D u 0 j)
    rw [e1]
    by_cases q : j = cu_N u 1
    · simp only [q, if_true, and_self]
    · simp only [q, if_false]
      exact m5.1 j (by omega)
  · rw [m_first_mk]
    show cu_D u 1 s = _
    rw [← m5.2 s hs]
    by_cases q : cu_D u 1 s = -1
    · rw [if_pos q, if_neg (fun z => hD (by rw [z]; exact q))]; exact q
    · rw [if_neg q]
theorem Rel.mark2 (h : Rel u v) (hN : cu_N u 1 < 60) {sc ck tr : Nat} (h1 : sc ≤ 9) (h2 : ck ≤ 9999999) (h3 : tr ≤ 9999999) (hD : cu_D u 1 sc = -1) {f : Nat → Nat} (hf : c_mix (c_mk2 u sc ck tr) f (cu_N u 2) (cu_N u 2)) : Rel (cs_O (c_mk2 u sc ck tr) f) (cs_N (cs_D (cs_F (cs_N v 4 0) 5 (cu_N v 1) sc) 0 (cu_N v 1) ((tr : Int) - (ck : Int))) 1 (cu_N v 1 + 1)) := by
  obtain ⟨o, l, n, s4, m5, c6, r7, r8⟩ := h
  obtain ⟨e0, e1, e2, e3, e4⟩ := n
  obtain ⟨l1, l2, l3, l4⟩ := l
  obtain ⟨f1, f2, f3, f4⟩ := hf
  refine ⟨c_ok_mk2 o hN h1 h2 h3, ⟨l1, fun j hj => ?_, fun m hm hb => ?_, f1⟩, ⟨e0, ?_, e2, e3, e4⟩, s4, ⟨fun j hj => ?_, fun s hs => ?_⟩, c6, r7, r8⟩
  · obtain ⟨i, hi, e⟩ := f2 j hj
    show f j < cu_N u 0 ∧ cu_B u 0 (f j) = true
    rw [e]; exact l2 i hi
  · obtain ⟨i, hi, e⟩ := l3 m hm hb
    obtain ⟨j, hj, ej⟩ := f3 i hi
    exact ⟨j, hj, ej.trans e⟩
  · show cu_N v 1 + 1 = cu_N u 1 + 1
    rw [e1]
  · have hj : j < cu_N u 1 + 1 := hj
    show (if j = cu_N v 1 then sc else cu_F v 5 j) = (if j = cu_N u 1 then sc else cu_F u 5 j) ∧ (if j = cu_N v 1 then ((tr : Int) - (ck : Int)) else cu_D v 0 j) = (if j = cu_N u 1 then ((tr : Int) - (ck : Int)) else cu_D u 0 j)
    rw [e1]
    by_cases q : j = cu_N u 1
    · simp only [q, if_true, and_self]
    · simp only [q, if_false]
      exact m5.1 j (by omega)
  · rw [m_first_mk]
    show (if s = sc then (cu_N u 1 : Int) else cu_D u 1 s) = _
    rw [← m5.2 s hs, e1]
    by_cases q : s = sc
    · rw [if_pos q, q, if_pos hD, if_pos rfl]
    · rw [if_neg q, if_neg (fun z : sc = s => q z.symm)]
      by_cases z : cu_D u 1 s = -1
      · rw [if_pos z]; exact z
      · rw [if_neg z]
theorem m_by_B (u : c_St) (s : Nat) (b : Int64) (n : Nat) : ∀ k, cu_B (m_by u s b n k) = cu_B u
  | 0 => rfl
  | k + 1 => m_by_B u s b n k
theorem m_by_D (u : c_St) (s : Nat) (b : Int64) (n : Nat) : ∀ k, cu_D (m_by u s b n k) = cu_D u
  | 0 => rfl
  | k + 1 => m_by_D u s b n k
theorem m_by_G (u : c_St) (s : Nat) (b : Int64) (n : Nat) {q : Nat} (hq : q ≠ 2) (i : Nat) : ∀ k, cu_G (m_by u s b n k) q i = cu_G u q i
  | 0 => rfl
  | k + 1 => by
    show (if q = 2 then _ else cu_G (m_by u s b n k) q i) = _
    rw [if_neg hq]; exact m_by_G u s b n hq i k
theorem m_by_new (u : c_St) (s : Nat) (b : Int64) (n : Nat) {j : Nat} : ∀ {k : Nat}, j < k → cu_G (m_by u s b n k) 2 (8 * s + j) = m_byte b (nI (8 * (n - 1 - j)))
  | 0, h => absurd h (Nat.not_lt_zero _)
  | k + 1, h => by
    show (if 8 * s + j = 8 * s + k then m_byte b (nI (8 * (n - 1 - k))) else cu_G (m_by u s b n k) 2 (8 * s + j)) = _
    by_cases e : j = k
    · subst e; rw [if_pos rfl]
    · rw [if_neg (by omega)]; exact m_by_new u s b n (by omega)
theorem m_by_old (u : c_St) (s : Nat) (b : Int64) (n : Nat) {i : Nat} (hi : i < 8 * s) : ∀ k, cu_G (m_by u s b n k) 2 i = cu_G u 2 i
  | 0 => rfl
  | k + 1 => by
    show (if i = 8 * s + k then m_byte b (nI (8 * (n - 1 - k))) else cu_G (m_by u s b n k) 2 i) = _
    rw [if_neg (by omega)]; exact m_by_old u s b n hi k
theorem m_add_F (v : c_St) (sc tm n : Nat) (bt : Int64) (un ic q i : Nat) : cu_F (m_add v sc tm n bt un ic) q i = cu_F (m_put v sc tm n un ic) q i := by
  show cu_F (m_by _ _ _ _ _) q i = _
  rw [m_by_F]
theorem m_add_G2 (v : c_St) (sc tm n : Nat) (bt : Int64) (un ic i : Nat) : cu_G (m_add v sc tm n bt un ic) 2 i = cu_G (m_by (m_put v sc tm n un ic) (cu_N v 0) bt n n) 2 i := rfl
theorem Rel.slot (h : Rel u v) (hN : cu_N u 0 < 200) {sc tm n : Nat} {bt : Int64} {un ic : Nat} (g1 : sc ≤ 9) (g2 : tm ≤ 9999999) (g3 : 1 ≤ n) (g4 : n ≤ 8) (g5 : un ≤ 99) (g6 : ic ≤ 49) {t : Nat} (ht : t ≤ cu_N u 2)
    (k1 : t = 0 ∨ c_lt (c_add u sc tm n bt un ic) (cu_N u 0) (cu_F u 6 (t - 1)) = false) (k2 : ∀ j, t ≤ j → j < cu_N u 2 → c_lt (c_add u sc tm n bt un ic) (cu_N u 0) (cu_F u 6 j) = true) :
    Rel (cs_N (cs_F (c_shift (cs_F (c_add u sc tm n bt un ic) 6 (cu_N u 2) (cu_N u 0)) t (cu_N u 2)) 6 t (cu_N u 0)) 2 (cu_N u 2 + 1)) (m_add (cs_N v 4 0) sc tm n bt un ic) := by
  have h0 := h
  obtain ⟨o, l, nn, s4, m5, c6, r7, r8⟩ := h
  obtain ⟨e0, e1, e2, e3, e4⟩ := nn
  obtain ⟨l1, l2, l3, l4⟩ := l
  have hF6 : ∀ j, j < cu_N u 2 → (if j = cu_N u 2 then cu_N u 0 else cu_F u 6 j) = cu_F u 6 j := fun j hj => by rw [if_neg (by omega)]
  have old : ∀ x, x < cu_N u 0 → x ≠ cu_N u 0 := fun x hx => by omega
  have hbeg : ∀ x, x < cu_N u 0 → c_beg (c_add u sc tm n bt un ic) x = c_beg u x := fun x hx => by
    show ((if x = cu_N u 0 then tm else cu_F u 1 x : Nat) : Int) + c_off u (if x = cu_N u 0 then sc else cu_F u 0 x) = _
    rw [if_neg (old x hx), if_neg (old x hx)]; rfl
  have hsc : ∀ x, x < cu_N u 0 → cu_F (c_add u sc tm n bt un ic) 0 x = cu_F u 0 x := fun x hx => by
    show (if x = cu_N u 0 then sc else cu_F u 0 x) = _
    rw [if_neg (old x hx)]
  have hs : c_srt (c_add u sc tm n bt un ic) (fun j => if j = cu_N u 2 then cu_N u 0 else cu_F u 6 j) (cu_N u 2) := by
    intro i j hij hj
    show c_lt _ (if i = cu_N u 2 then cu_N u 0 else cu_F u 6 i) (if j = cu_N u 2 then cu_N u 0 else cu_F u 6 j) = true
    rw [hF6 i (by omega), hF6 j hj, c_lt_same (hbeg _ (l2 i (by omega)).1) (hbeg _ (l2 j hj).1) (hsc _ (l2 i (by omega)).1) (hsc _ (l2 j hj).1)]
    exact l4 i j hij hj
  have hp := c_put_srt (num := cu_N u 0) hs ht (fun j hj => by
    show (if j = cu_N u 2 then cu_N u 0 else cu_F u 6 j) ≠ cu_N u 0
    rw [hF6 j hj]; have := (l2 j hj).1; omega) (by
    rcases k1 with k1 | k1
    · exact Or.inl k1
    · by_cases z : t = 0
      · exact Or.inl z
      · refine Or.inr ?_
        show c_lt _ (cu_N u 0) (if t - 1 = cu_N u 2 then cu_N u 0 else cu_F u 6 (t - 1)) = false
        rw [hF6 _ (by omega)]; exact k1) (fun j h1 h2 => by
    show c_lt _ (cu_N u 0) (if j = cu_N u 2 then cu_N u 0 else cu_F u 6 j) = true
    rw [hF6 j h2]; exact k2 j h1 h2)
  have hN0 : cu_N (cs_N v 4 0) 0 = cu_N u 0 := e0
  refine ⟨c_ok_add o hN g1 g2 g3 g4 g5 g6, ⟨?_, fun j hj => ?_, fun m hm hb => ?_, hp⟩, ⟨?_, ?_, ?_, ?_, ?_⟩, fun m hm => ?_, ⟨fun j hj => ?_, fun s hs => ?_⟩, fun c hc => ?_, fun i hi => ?_, fun j hj => ?_, fun i hi => ?_, fun m hm => ?_⟩
  · show cu_N u 2 + 1 ≤ cu_N u 0 + 1
    omega
  · show c_put (fun j => if j = cu_N u 2 then cu_N u 0 else cu_F u 6 j) t (cu_N u 2) (cu_N u 0) j < cu_N u 0 + 1 ∧ (if c_put (fun j => if j = cu_N u 2 then cu_N u 0 else cu_F u 6 j) t (cu_N u 2) (cu_N u 0) j = cu_N u 0 then true else cu_B u 0 (c_put (fun j => if j = cu_N u 2 then cu_N u 0 else cu_F u 6 j) t (cu_N u 2) (cu_N u 0) j)) = true
    rcases c_put_from (f := fun j => if j = cu_N u 2 then cu_N u 0 else cu_F u 6 j) (num := cu_N u 0) ht (show j < cu_N u 2 + 1 from hj) with q | ⟨i, hi, q⟩
    · rw [q, if_pos rfl]; exact ⟨by omega, rfl⟩
    · have q2 : c_put (fun j => if j = cu_N u 2 then cu_N u 0 else cu_F u 6 j) t (cu_N u 2) (cu_N u 0) j = cu_F u 6 i := q.trans (hF6 i hi)
      obtain ⟨b1, b2⟩ := l2 i hi
      rw [q2, if_neg (old _ b1)]
      exact ⟨by omega, b2⟩
  · have hm : m < cu_N u 0 + 1 := hm
    have hb : (if m = cu_N u 0 then true else cu_B u 0 m) = true := hb
    by_cases q : m = cu_N u 0
    · refine ⟨t, by show t < cu_N u 2 + 1; omega, ?_⟩
      show c_put (fun j => if j = cu_N u 2 then cu_N u 0 else cu_F u 6 j) t (cu_N u 2) (cu_N u 0) t = m
      rw [c_put_at, q]
    · rw [if_neg q] at hb
      obtain ⟨i, hi, ei⟩ := l3 m (by omega) hb
      obtain ⟨j, hj, ej⟩ := c_put_old (f := fun j => if j = cu_N u 2 then cu_N u 0 else cu_F u 6 j) (num := cu_N u 0) ht hi
      exact ⟨j, hj, ej.trans ((hF6 i hi).trans ei)⟩
  · show cu_N v 0 + 1 = cu_N u 0 + 1
    rw [e0]
  · show cu_N (m_by (m_put (cs_N v 4 0) sc tm n un ic) (cu_N (cs_N v 4 0) 0) bt n n) 1 = cu_N u 1
    rw [m_by_N]; exact e1
  · show cu_N (m_by (m_put (cs_N v 4 0) sc tm n un ic) (cu_N (cs_N v 4 0) 0) bt n n) 2 = cu_N u 3
    rw [m_by_N]; exact e2
  · show cu_N (m_by (m_put (cs_N v 4 0) sc tm n un ic) (cu_N (cs_N v 4 0) 0) bt n n) 3 = cu_N u 4
    rw [m_by_N]; exact e3
  · show cu_N u 3 + (cu_N u 2 + 1) = cu_N u 0 + 1
    omega
  · have hm : m < cu_N u 0 + 1 := hm
    rw [m_add_F, m_add_F, m_add_F, m_add_F, m_add_F]
    have eB : cu_B (m_add (cs_N v 4 0) sc tm n bt un ic) 0 m = cu_B v 0 m := by
      show cu_B (m_by _ _ _ _ _) 0 m = _
      rw [m_by_B]; rfl
    rw [eB]
    show ((if m = cu_N v 0 then sc else cu_F v 0 m) = (if m = cu_N u 0 then sc else cu_F u 0 m) ∧ (if m = cu_N v 0 then tm else cu_F v 1 m) = (if m = cu_N u 0 then tm else cu_F u 1 m) ∧ (if m = cu_N v 0 then n else cu_F v 2 m) = (if m = cu_N u 0 then n else cu_F u 2 m) ∧ (if m = cu_N v 0 then un else cu_F v 3 m) = (if m = cu_N u 0 then un else cu_F u 3 m) ∧ (if m = cu_N v 0 then ic else cu_F v 4 m) = (if m = cu_N u 0 then ic else cu_F u 4 m)) ∧ cu_B v 0 m = (!(if m = cu_N u 0 then true else cu_B u 0 m)) ∧
      (if m = cu_N v 0 then m_sm (fun i => cu_G (m_by (m_put (cs_N v 4 0) sc tm n un ic) (cu_N (cs_N v 4 0) 0) bt n n) 2 (8 * cu_N (cs_N v 4 0) 0 + i)) 0 n else cu_G (m_by (m_put (cs_N v 4 0) sc tm n un ic) (cu_N (cs_N v 4 0) 0) bt n n) 0 m) = (if m = cu_N u 0 then c_sm bt n 0 0 n else cu_G u 0 m) ∧
      ∀ i, i < (if m = cu_N u 0 then n else cu_F u 2 m) → cu_G (m_by (m_put (cs_N v 4 0) sc tm n un ic) (cu_N (cs_N v 4 0) 0) bt n n) 2 (8 * m + i) = c_byte (if m = cu_N u 0 then bt else cu_L u m) (nI (8 * ((if m = cu_N u 0 then n else cu_F u 2 m) - 1 - i)))
    rw [hN0, e0]
    by_cases q : m = cu_N u 0
    · simp only [q, if_true, and_self, true_and, Bool.not_true]
      refine ⟨r8.2.2 _ (Nat.le_refl _), sm_eq (fun j hj => ?_), fun i hi => ?_⟩
      · rw [m_by_new _ _ _ _ hj, m_byte_c (by omega)]
      · rw [m_by_new _ _ _ _ hi, m_byte_c (by omega)]
    · simp only [q, if_false]
      obtain ⟨a1, a2, a3, a4⟩ := s4 m (by omega)
      refine ⟨a1, a2, ?_, fun i hi => ?_⟩
      · rw [m_by_G _ _ _ _ (by decide)]; exact a3
      · have := (o.2.2.1 m (by omega)).2.2.2.1
        rw [m_by_old _ _ _ _ (by omega)]; exact a4 i hi
  · rw [m_add_F]
    have eD : cu_D (m_add (cs_N v 4 0) sc tm n bt un ic) 0 j = cu_D v 0 j := by
      show cu_D (m_by _ _ _ _ _) 0 j = _
      rw [m_by_D]; rfl
    rw [eD]; exact m5.1 j hj
  · exact (m5.2 s hs).trans (m_first_same (v := v) (w := m_add (cs_N v 4 0) sc tm n bt un ic) (by show cu_N (m_by _ _ _ _ _) 1 = _; rw [m_by_N]; rfl) (fun j _ => by rw [m_add_F]; rfl)).symm
  · rw [m_add_F]
    have eG : cu_G (m_add (cs_N v 4 0) sc tm n bt un ic) 1 c = cu_G v 1 c := by
      show cu_G (m_by _ _ _ _ _) 1 c = _
      rw [m_by_G _ _ _ _ (by decide)]; rfl
    rw [eG]
    obtain ⟨a1, a2, a3, a4⟩ := c6 c hc
    refine ⟨a1, by show cu_F u 7 c < cu_N u 0 + 1; omega, ?_, a4⟩
    show cu_G u 1 c = (if cu_F u 7 c = cu_N u 0 then c_sm bt n 0 0 n else cu_G u 0 (cu_F u 7 c))
    rw [if_neg (old _ a2)]; exact a3
  · rw [m_add_F, m_add_F, m_add_F]; exact r7 i hi
  · show cu_B (m_by _ _ _ _ _) 2 j = _
    rw [m_by_B]; exact r8.1 j hj
  · show cu_B (m_by _ _ _ _ _) 1 i = _
    rw [m_by_B]; exact r8.2.1 i hi
  · show cu_B (m_by _ _ _ _ _) 0 m = _
    rw [m_by_B]; exact r8.2.2 m (by have : cu_N u 0 + 1 ≤ m := hm; omega)
end UPD
