/-! the class beside the reference, in numbers: sums, the relation, what both answer -/
section REL
def psum (φ : Nat → Nat) : Nat → Nat
  | 0 => 0
  | n + 1 => psum φ n + φ n
theorem psum_congr {φ ψ : Nat → Nat} : ∀ {n : Nat}, (∀ j, j < n → φ j = ψ j) → psum φ n = psum ψ n
  | 0, _ => rfl
  | n + 1, h => by
    show psum φ n + φ n = psum ψ n + ψ n
    rw [psum_congr (fun j hj => h j (by omega)), h n (by omega)]
theorem psum_0 {φ : Nat → Nat} : ∀ {n : Nat}, (∀ j, j < n → φ j = 0) → psum φ n = 0
  | 0, _ => rfl
  | n + 1, h => by
    show psum φ n + φ n = 0
    rw [psum_0 (fun j hj => h j (by omega)), h n (by omega)]
theorem psum_out {φ : Nat → Nat} {x : Nat} : ∀ {n : Nat}, x < n → psum φ n = psum (fun j => if j = x then 0 else φ j) n + φ x
  | 0, h => absurd h (Nat.not_lt_zero _)
  | n + 1, h => by
    show psum φ n + φ n = (psum (fun j => if j = x then 0 else φ j) n + (if n = x then 0 else φ n)) + φ x
    by_cases e : n = x
    · rw [if_pos e, e]
      have : psum φ x = psum (fun j => if j = x then 0 else φ j) x := psum_congr (fun j hj => by rw [if_neg (by omega)])
      omega
    · rw [if_neg e]
      have := psum_out (φ := φ) (x := x) (n := n) (by omega)
      omega
theorem psum_cut {ψ : Nat → Nat} {k : Nat} : ∀ {n : Nat}, k ≤ n → psum (fun j => if j < k then ψ j else 0) n = psum ψ k
  | 0, h => by
    have : k = 0 := by omega
    subst this; rfl
  | n + 1, h => by
    show psum (fun j => if j < k then ψ j else 0) n + (if n < k then ψ n else 0) = psum ψ k
    by_cases e : k = n + 1
    · subst e
      rw [if_pos (by omega)]
      show _ = psum ψ n + ψ n
      rw [psum_congr (φ := fun j => if j < n + 1 then ψ j else 0) (ψ := ψ) (fun j hj => by rw [if_pos (by omega)])]
    · rw [if_neg (by omega), psum_cut (by omega)]; omega
theorem psum_bij {f : Nat → Nat} {N : Nat} : ∀ {n : Nat} {φ : Nat → Nat}, (∀ j, j < n → f j < N) → (∀ i j, i < n → j < n → f i = f j → i = j) → (∀ x, x < N → φ x ≠ 0 → ∃ j, j < n ∧ f j = x) → psum φ N = psum (fun j => φ (f j)) n
  | 0, φ, _, _, h => psum_0 (fun x hx => by
      by_cases e : φ x = 0
      · exact e
      · obtain ⟨j, hj, -⟩ := h x hx e
        omega)
  | n + 1, φ, h1, h2, h3 => by
    rw [psum_out (φ := φ) (x := f n) (h1 n (by omega))]
    show _ = psum (fun j => φ (f j)) n + φ (f n)
    rw [psum_bij (n := n) (φ := fun j => if j = f n then 0 else φ j) (fun j hj => h1 j (by omega)) (fun i j hi hj => h2 i j (by omega) (by omega)) (fun x hx e => ?_)]
    · rw [psum_congr (φ := fun j => if f j = f n then 0 else φ (f j)) (ψ := fun j => φ (f j)) (fun j hj => by
        rw [if_neg (fun q => by have := h2 j n (by omega) (by omega) q; omega)])]
    · by_cases e2 : x = f n
      · exact absurd (if_pos e2) e
      · rw [if_neg e2] at e
        obtain ⟨j, hj, ej⟩ := h3 x hx e
        by_cases e3 : j = n
        · subst e3; exact absurd ej.symm e2
        · exact ⟨j, by omega, ej⟩
/-! the relation -/
def r_num (u v : c_St) : Prop := cu_N v 0 = cu_N u 0 ∧ cu_N v 1 = cu_N u 1 ∧ cu_N v 2 = cu_N u 3 ∧ cu_N v 3 = cu_N u 4 ∧ cu_N u 3 + cu_N u 2 = cu_N u 0
def r_slot (u v : c_St) : Prop := ∀ n, n < cu_N u 0 → (cu_F v 0 n = cu_F u 0 n ∧ cu_F v 1 n = cu_F u 1 n ∧ cu_F v 2 n = cu_F u 2 n ∧ cu_F v 3 n = cu_F u 3 n ∧ cu_F v 4 n = cu_F u 4 n) ∧ cu_B v 0 n = (!cu_B u 0 n) ∧ cu_G v 0 n = cu_G u 0 n ∧ ∀ i, i < cu_F u 2 n → cu_G v 2 (8 * n + i) = c_byte (cu_L u n) (nI (8 * (cu_F u 2 n - 1 - i)))
def r_mark (u v : c_St) : Prop := (∀ j, j < cu_N u 1 → cu_F v 5 j = cu_F u 5 j ∧ cu_D v 0 j = cu_D u 0 j) ∧ ∀ s, s < 10 → cu_D u 1 s = m_first v s
def r_cert (u v : c_St) : Prop := ∀ c, c < cu_N u 3 → cu_F v 6 c = cu_F u 7 c ∧ cu_F u 7 c < cu_N u 0 ∧ cu_G u 1 c = cu_G u 0 (cu_F u 7 c) ∧ cu_G u 2 c = cu_G v 1 c
def r_row (u v : c_St) : Prop := ∀ i, i < 200 → cu_F v 7 (3 * i) = cu_F u 8 i ∧ cu_F v 7 (3 * i + 1) = cu_F u 9 i ∧ cu_F v 7 (3 * i + 2) = (if cu_B u 1 i = true then 1 else 0)
def r_rest (u v : c_St) : Prop := (∀ j, j < 1000 → cu_B v 2 j = cu_B u 2 j) ∧ (∀ i, i < 50 → cu_B v 1 i = cu_B u 3 i) ∧ ∀ n, cu_N u 0 ≤ n → cu_B v 0 n = false
def Rel (u v : c_St) : Prop := c_ok u ∧ c_line u ∧ r_num u v ∧ r_slot u v ∧ r_mark u v ∧ r_cert u v ∧ r_row u v ∧ r_rest u v
theorem m_scan_congr {v w : c_St} {s : Nat} : ∀ {k : Nat}, (∀ j, j < k → cu_F v 5 j = cu_F w 5 j) → m_scan v s k = m_scan w s k
  | 0, _ => rfl
  | k + 1, h => by
    show (if m_scan v s k = -1 then (if cu_F v 5 k = s then (k : Int) else -1) else m_scan v s k) = (if m_scan w s k = -1 then (if cu_F w 5 k = s then (k : Int) else -1) else m_scan w s k)
    rw [m_scan_congr (fun j hj => h j (by omega)), h k (by omega)]
theorem m_first_th (v : c_St) (c s : Nat) : m_first (cs_N v 4 c) s = m_first v s := m_scan_congr (v := cs_N v 4 c) (w := v) (k := cu_N v 1) (fun _ _ => rfl)
variable {u v : c_St}
theorem Rel.th (h : Rel u v) (c : Nat) : Rel u (cs_N v 4 c) := by
  obtain ⟨h1, h2, h3, h4, h5, h6, h7, h8⟩ := h
  exact ⟨h1, h2, h3, h4, ⟨h5.1, fun s hs => by rw [m_first_th]; exact h5.2 s hs⟩, h6, h7, h8⟩
theorem Rel.mok (h : Rel u v) : m_ok v := by
  obtain ⟨⟨o1, o2, o3, o4, o5⟩, -, ⟨n0, n1, -⟩, h4, ⟨h5, -⟩, -⟩ := h
  refine ⟨by rw [n0]; exact o1, by rw [n1]; exact o2, fun n hn => ?_, fun j hj => ?_⟩
  · rw [n0] at hn
    obtain ⟨⟨a0, a1, a2, a3, a4⟩, -⟩ := h4 n hn
    rw [a0, a1, a2, a3, a4]; exact o3 n hn
  · rw [n1] at hj
    rw [(h5 j hj).1, (h5 j hj).2]; exact o4 j hj
theorem Rel.off (h : Rel u v) {s : Nat} (hs : s < 10) : m_off v s = c_off u s := by
  obtain ⟨-, -, ⟨-, n1, -⟩, -, ⟨h5, h6⟩, -⟩ := h
  have e := h6 s hs
  have b := m_first_b v s
  rw [n1] at b
  unfold m_off c_off
  rw [e]
  by_cases q : m_first v s = -1
  · rw [if_pos q, if_pos (by omega)]
  · rw [if_neg q, if_neg (by omega)]
    exact (h5 _ (by omega)).2
theorem Rel.beg (h : Rel u v) {n : Nat} (hn : n < cu_N u 0) : m_beg v n = c_beg u n := by
  have h9 := h
  obtain ⟨⟨-, -, o3, -⟩, -, -, h4, -⟩ := h
  obtain ⟨⟨a0, a1, -⟩, -⟩ := h4 n hn
  unfold m_beg c_beg
  rw [a0, a1, h9.off (o3 n hn).1]
theorem Rel.lt (h : Rel u v) {x y : Nat} (hx : x < cu_N u 0) (hy : y < cu_N u 0) : m_lt v x y = c_lt u x y := by
  unfold m_lt c_lt
  rw [h.beg hx, h.beg hy, (h.2.2.2.1 x hx).1.1, (h.2.2.2.1 y hy).1.1]
def bbZ (b t : Int) (L : Nat) : Nat := (min (max (t - b) 0) (L : Int)).toNat
theorem bbZ_s (b t : Int) (L : Nat) : bbZ b t (L + 1) = bbZ b t L + (if b + (L : Int) < t then 1 else 0) := by
  unfold bbZ
  split <;> omega
theorem bbZ_f {b t : Int} {L : Nat} (h : b + (L : Int) ≤ t) : bbZ b t L = L := by
  unfold bbZ
  omega
theorem bbZ_le (b t : Int) (L : Nat) : bbZ b t L ≤ L := by
  unfold bbZ
  omega
theorem bbZ_ge {b t t2 : Int} {L : Nat} (h : t ≤ t2) : bbZ b t L ≤ bbZ b t2 L := by
  unfold bbZ
  omega
theorem wi_eq (b : Int) (t1 t2 : Int32) : ∀ L : Nat, m_wi b t1 t2 L = bbZ b t2.toInt L - bbZ b t1.toInt L
  | 0 => by
    show 0 = _
    have := bbZ_le b t2.toInt 0
    omega
  | L + 1 => by
    show m_wi b t1 t2 L + (if m_in b t1 t2 L = true then 1 else 0) = _
    rw [wi_eq b t1 t2 L, bbZ_s, bbZ_s]
    have l1 := bbZ_le b t1.toInt L
    have l2 := bbZ_le b t2.toInt L
    by_cases c1 : b + (L : Int) < t1.toInt
    · have e1 := bbZ_f (b := b) (t := t1.toInt) (L := L) (by omega)
      rw [m_in_f1 c1, if_neg (by decide), if_pos c1]
      split <;> omega
    · rw [if_neg c1]
      by_cases c2 : b + (L : Int) < t2.toInt
      · have e2 := bbZ_f (b := b) (t := t2.toInt) (L := L) (by omega)
        rw [m_in_t (by omega) c2, if_pos rfl, if_pos c2]
        omega
      · rw [m_in_f2 (by omega), if_neg (by decide), if_neg c2]
        omega
theorem sm_eq {g : Nat → Int32} {b : Int64} {L : Nat} {s : Int32} : ∀ {k : Nat}, (∀ j, j < k → g j = c_byte b (nI (8 * (L - 1 - j)))) → m_sm g s k = c_sm b L s 0 k
  | 0, _ => rfl
  | k + 1, h => by
    show c_rot (m_sm g s k ^^^ g k) = c_rot (c_sm b L s 0 k ^^^ c_byte b (nI (8 * (L - 1 - (0 + k)))))
    rw [sm_eq (fun j hj => h j (by omega)), h k (by omega), Nat.zero_add]
theorem sw_eq {g : Nat → Int32} {b : Int64} {L : Nat} {s : Int32} {z : Int} {t1 t2 : Int32} : ∀ {K : Nat}, (∀ j, j < K → g j = c_byte b (nI (8 * (L - 1 - j)))) → m_sw g z t1 t2 s K = c_sm b L s (bbZ z t1.toInt K) (bbZ z t2.toInt K - bbZ z t1.toInt K)
  | 0, _ => by
    have l1 := bbZ_le z t1.toInt 0
    have l2 := bbZ_le z t2.toInt 0
    rw [show bbZ z t2.toInt 0 - bbZ z t1.toInt 0 = 0 by omega]
    rfl
  | K + 1, h => by
    have ih := sw_eq (g := g) (b := b) (L := L) (s := s) (z := z) (t1 := t1) (t2 := t2) (K := K) (fun j hj => h j (by omega))
    have l1 := bbZ_le z t1.toInt K
    have l2 := bbZ_le z t2.toInt K
    show (if m_in z t1 t2 K = true then c_rot (m_sw g z t1 t2 s K ^^^ g K) else m_sw g z t1 t2 s K) = _
    by_cases c1 : z + (K : Int) < t1.toInt
    · have e1 := bbZ_f (b := z) (t := t1.toInt) (L := K) (by omega)
      rw [m_in_f1 c1, if_neg (by decide), ih]
      have e3 : bbZ z t1.toInt (K + 1) = K + 1 := by rw [bbZ_s, if_pos c1, e1]
      have e4 := bbZ_le z t2.toInt (K + 1)
      rw [show bbZ z t2.toInt K - bbZ z t1.toInt K = 0 by omega, show bbZ z t2.toInt (K + 1) - bbZ z t1.toInt (K + 1) = 0 by omega]
      rfl
    · have e3 : bbZ z t1.toInt (K + 1) = bbZ z t1.toInt K := by rw [bbZ_s, if_neg c1]; rfl
      by_cases c2 : z + (K : Int) < t2.toInt
      · have e2 := bbZ_f (b := z) (t := t2.toInt) (L := K) (by omega)
        have e4 : bbZ z t2.toInt (K + 1) = K + 1 := by rw [bbZ_s, if_pos c2, e2]
        rw [m_in_t (by omega) c2, if_pos rfl, ih, e3, e4, e2, show K + 1 - bbZ z t1.toInt K = (K - bbZ z t1.toInt K) + 1 by omega]
        show _ = c_rot (c_sm b L s (bbZ z t1.toInt K) (K - bbZ z t1.toInt K) ^^^ c_byte b (nI (8 * (L - 1 - (bbZ z t1.toInt K + (K - bbZ z t1.toInt K))))))
        rw [show bbZ z t1.toInt K + (K - bbZ z t1.toInt K) = K by omega, h K (by omega)]
      · have e4 : bbZ z t2.toInt (K + 1) = bbZ z t2.toInt K := by rw [bbZ_s, if_neg c2]; rfl
        rw [m_in_f2 (by omega), if_neg (by decide), ih, e3, e4]
theorem Rel.by (h : Rel u v) {n : Nat} (hn : n < cu_N u 0) : ∀ j, j < cu_F u 2 n → cu_G v 2 (8 * n + j) = c_byte (cu_L u n) (nI (8 * (cu_F u 2 n - 1 - j))) := (h.2.2.2.1 n hn).2.2.2
theorem Rel.len (h : Rel u v) {n : Nat} (hn : n < cu_N u 0) : cu_F v 2 n = cu_F u 2 n := (h.2.2.2.1 n hn).1.2.2.1
theorem Rel.gone (h : Rel u v) {n : Nat} (hn : n < cu_N u 0) : cu_B v 0 n = (!cu_B u 0 n) := (h.2.2.2.1 n hn).2.1
theorem Rel.now (h : Rel u v) {n : Nat} (hn : n < cu_N u 0) : m_sm (fun i => cu_G v 2 (8 * n + i)) 0 (cu_F v 2 n) = c_now u n := by
  rw [h.len hn]; exact sm_eq (fun j hj => h.by hn j hj)
theorem Rel.wi (h : Rel u v) {n : Nat} (hn : n < cu_N u 0) (t1 t2 : Int32) : m_wi (m_beg v n) t1 t2 (cu_F v 2 n) = c_bb u n t2 - c_bb u n t1 := by
  rw [wi_eq, h.beg hn, h.len hn]; rfl
theorem Rel.sw (h : Rel u v) {n : Nat} (hn : n < cu_N u 0) (t1 t2 s0 : Int32) : m_sw (fun i => cu_G v 2 (8 * n + i)) (m_beg v n) t1 t2 s0 (cu_F v 2 n) = c_sm (cu_L u n) (cu_F u 2 n) s0 (c_bb u n t1) (c_bb u n t2 - c_bb u n t1) := by
  rw [h.len hn, sw_eq (b := cu_L u n) (L := cu_F u 2 n) (fun j hj => h.by hn j hj), h.beg hn]; rfl
/-! the line's sums -/
theorem Rel.inj (h : Rel u v) : ∀ i j, i < cu_N u 2 → j < cu_N u 2 → cu_F u 6 i = cu_F u 6 j → i = j := fun i j hi hj e => c_srt_inj h.2.1.2.2.2 hi hj e
theorem Rel.lin (h : Rel u v) {φ : Nat → Nat} (hz : ∀ x, x < cu_N u 0 → cu_B u 0 x = false → φ x = 0) : psum φ (cu_N u 0) = psum (fun j => φ (cu_F u 6 j)) (cu_N u 2) :=
  psum_bij (fun j hj => (h.2.1.2.1 j hj).1) h.inj (fun x hx e => by
    cases hb : cu_B u 0 x with
    | false => exact absurd (hz x hx hb) e
    | true => exact h.2.1.2.2.1 x hx hb)
theorem m_sz_p (w : c_St) (t1 t2 : Int32) : ∀ n, m_sz w t1 t2 n = psum (fun s => if cu_B w 0 s = true then 0 else m_wi (m_beg w s) t1 t2 (cu_F w 2 s)) n
  | 0 => rfl
  | n + 1 => by
    show m_sz w t1 t2 n + _ = psum _ n + _
    rw [m_sz_p w t1 t2 n]
theorem c_sz_p (w : c_St) (t1 t2 : Int32) : ∀ n, c_sz w t1 t2 n = psum (fun k => c_bb w (cu_F w 6 k) t2 - c_bb w (cu_F w 6 k) t1) n
  | 0 => rfl
  | n + 1 => by
    show c_sz w t1 t2 n + _ = psum _ n + _
    rw [c_sz_p w t1 t2 n]
theorem Rel.sz (h : Rel u v) (t1 t2 : Int32) : m_sz v t1 t2 (cu_N v 0) = c_sz u t1 t2 (cu_N u 2) := by
  rw [m_sz_p, c_sz_p, h.2.2.1.1, h.lin (fun x hx hb => by rw [if_pos (by rw [h.gone hx, hb]; rfl)])]
  refine psum_congr (fun j hj => ?_)
  obtain ⟨a1, a2⟩ := h.2.1.2.1 j hj
  show (if cu_B v 0 (cu_F u 6 j) = true then 0 else _) = _
  rw [if_neg (by rw [h.gone a1, a2]; decide), h.wi a1]
theorem m_th_p (w : c_St) : ∀ n, m_th w n = psum (fun s => if cu_B w 0 s = true then 0 else 1) n
  | 0 => rfl
  | n + 1 => by
    show m_th w n + _ = psum _ n + _
    rw [m_th_p w n]
theorem psum_1 : ∀ n, psum (fun _ => 1) n = n
  | 0 => rfl
  | n + 1 => by
    show psum (fun _ => 1) n + 1 = n + 1
    rw [psum_1 n]
theorem Rel.there (h : Rel u v) : m_th v (cu_N v 0) = cu_N u 2 := by
  rw [m_th_p, h.2.2.1.1, h.lin (fun x hx hb => by rw [if_pos (by rw [h.gone hx, hb]; rfl)])]
  rw [psum_congr (ψ := fun _ => 1) (fun j hj => ?_), psum_1]
  obtain ⟨a1, a2⟩ := h.2.1.2.1 j hj
  show (if cu_B v 0 (cu_F u 6 j) = true then 0 else 1) = 1
  rw [if_neg (by rw [h.gone a1, a2]; decide)]
/-! find -/
theorem r_lt_as {x y : Nat} (h : c_lt u x y = true) : c_lt u y x = false := by
  cases q : c_lt u y x with
  | false => rfl
  | true => exact absurd rfl (c_lt_ne (c_lt_tr h q))
theorem nI_neg {j : Nat} (h : j < 2147483648) : ¬ nI j < 0 := by
  rw [Int32.lt_iff_toInt_lt, nI_toInt (by omega)]
  have h0 : (0 : Int32).toInt = 0 := by decide
  rw [h0]; omega
def c_fok (p : Int32) (n : Nat) : Prop := p = -1 ∨ ∃ j : Nat, j ≤ n ∧ p = nI j
theorem c_fok_neg {p : Int32} {n : Nat} (hn : n < 1000) (h : c_fok p n) : (p < 0) ↔ p = -1 := by
  rcases h with h | ⟨j, hj, h⟩
  · subst h; decide
  · subst h
    exact ⟨fun q => absurd q (nI_neg (by omega)), fun q => absurd q (nI_m1 (by omega))⟩
theorem Rel.fit (h : Rel u v) {s : Nat} (hs : s < cu_N u 0) (t1 t2 : Int32) {pu pi : Int32} (hpu : c_fok pu 99) (hpi : c_fok pi 49) : m_fit v s t1 t2 pu pi = (cu_B u 0 s && (c_of u s pu pi && decide (0 < c_bb u s t2 - c_bb u s t1))) := by
  unfold m_fit c_of
  rw [h.gone hs, h.wi hs, (h.2.2.2.1 s hs).1.2.2.2.1, (h.2.2.2.1 s hs).1.2.2.2.2, Bool.not_not]
  have e1 := c_fok_neg (by decide) hpu
  have e2 := c_fok_neg (by decide) hpi
  rw [Bool.eq_iff_iff]
  simp only [Bool.and_eq_true, Bool.or_eq_true, decide_eq_true_eq, e1, e2, eq_comm (a := nI (cu_F u 3 s)), eq_comm (a := nI (cu_F u 4 s)), and_assoc]
theorem Rel.mt (h : Rel u v) {k : Nat} (hk : k < cu_N u 2) (t1 t2 : Int32) {pu pi : Int32} (hpu : c_fok pu 99) (hpi : c_fok pi 49) : m_fit v (cu_F u 6 k) t1 t2 pu pi = c_mt u t1 t2 pu pi k := by
  obtain ⟨a1, a2⟩ := h.2.1.2.1 k hk
  rw [h.fit a1 t1 t2 hpu hpi, a2]; rfl
theorem m_ah_p (w : c_St) (t1 t2 pu pi : Int32) (s : Nat) : ∀ n, m_ah w t1 t2 pu pi s n = psum (fun x => if (x ≠ s ∧ m_lt w x s = true) ∧ m_fit w x t1 t2 pu pi = true then 1 else 0) n
  | 0 => rfl
  | n + 1 => by
    show m_ah w t1 t2 pu pi s n + _ = psum _ n + _
    rw [m_ah_p w t1 t2 pu pi s n]
theorem c_fc_p (w : c_St) (t1 t2 pu pi : Int32) : ∀ n, c_fc w t1 t2 pu pi n = psum (fun k => if c_mt w t1 t2 pu pi k = true then 1 else 0) n
  | 0 => rfl
  | n + 1 => by
    show c_fc w t1 t2 pu pi n + _ = psum _ n + _
    rw [c_fc_p w t1 t2 pu pi n]
theorem Rel.ah (h : Rel u v) {k : Nat} (hk : k < cu_N u 2) (t1 t2 : Int32) {pu pi : Int32} (hpu : c_fok pu 99) (hpi : c_fok pi 49) : m_ah v t1 t2 pu pi (cu_F u 6 k) (cu_N v 0) = c_fc u t1 t2 pu pi k := by
  have hs := h.2.1.2.2.2
  obtain ⟨k1, k2⟩ := h.2.1.2.1 k hk
  rw [m_ah_p, c_fc_p, h.2.2.1.1, h.lin (fun x hx hb => by rw [if_neg (fun q => by have q2 := q.2; rw [h.fit hx t1 t2 hpu hpi, hb] at q2; cases q2)]), ← psum_cut (Nat.le_of_lt hk)]
  refine psum_congr (fun j hj => ?_)
  obtain ⟨a1, a2⟩ := h.2.1.2.1 j hj
  show (if (cu_F u 6 j ≠ cu_F u 6 k ∧ m_lt v (cu_F u 6 j) (cu_F u 6 k) = true) ∧ m_fit v (cu_F u 6 j) t1 t2 pu pi = true then 1 else 0) = _
  rw [h.lt a1 k1, h.mt hj t1 t2 hpu hpi]
  by_cases c : j < k
  · rw [if_pos c]
    have e := hs j k c hk
    have ne : cu_F u 6 j ≠ cu_F u 6 k := c_lt_ne e
    simp only [e, ne, ne_eq, not_false_eq_true, and_true, true_and]
  · rw [if_neg c, if_neg]
    rintro ⟨⟨n1, n2⟩, -⟩
    by_cases c2 : j = k
    · subst c2; exact n1 rfl
    · have e := hs k j (by omega) hj
      rw [r_lt_as e] at n2
      cases n2
theorem c_fc_mono (w : c_St) (t1 t2 pu pi : Int32) {k : Nat} : ∀ {d : Nat}, c_fc w t1 t2 pu pi k ≤ c_fc w t1 t2 pu pi (k + d)
  | 0 => Nat.le_refl _
  | d + 1 => by
    show _ ≤ c_fc w t1 t2 pu pi (k + d) + _
    have := c_fc_mono w t1 t2 pu pi (k := k) (d := d)
    omega
theorem c_fc_lt {w : c_St} {t1 t2 pu pi : Int32} {k j : Nat} (h : c_mt w t1 t2 pu pi k = true) (hj : k < j) : c_fc w t1 t2 pu pi k < c_fc w t1 t2 pu pi j := by
  have h1 := c_fc_t h
  have h2 := c_fc_mono w t1 t2 pu pi (k := k + 1) (d := j - (k + 1))
  rw [show k + 1 + (j - (k + 1)) = j by omega] at h2
  omega
theorem c_fd_sp (w : c_St) (t1 t2 pu pi : Int32) (q : Nat) : ∀ n, (c_fd w t1 t2 pu pi q n = -1 ∧ ∀ k, k < n → ¬ (c_mt w t1 t2 pu pi k = true ∧ c_fc w t1 t2 pu pi k = q)) ∨ ∃ k, k < n ∧ (c_mt w t1 t2 pu pi k = true ∧ c_fc w t1 t2 pu pi k = q) ∧ c_fd w t1 t2 pu pi q n = (cu_F w 6 k : Int)
  | 0 => Or.inl ⟨rfl, fun k hk => by omega⟩
  | n + 1 => by
    have e : c_fd w t1 t2 pu pi q (n + 1) = (if c_fd w t1 t2 pu pi q n = -1 then (if c_mt w t1 t2 pu pi n = true ∧ c_fc w t1 t2 pu pi n = q then (cu_F w 6 n : Int) else -1) else c_fd w t1 t2 pu pi q n) := rfl
    rcases c_fd_sp w t1 t2 pu pi q n with ⟨h1, h2⟩ | ⟨k, h1, h2, h3⟩
    · rw [if_pos h1] at e
      by_cases c : c_mt w t1 t2 pu pi n = true ∧ c_fc w t1 t2 pu pi n = q
      · rw [if_pos c] at e
        exact Or.inr ⟨n, by omega, c, e⟩
      · rw [if_neg c] at e
        refine Or.inl ⟨e, fun k hk => ?_⟩
        by_cases e2 : k = n
        · subst e2; exact c
        · exact h2 k (by omega)
    · rw [if_neg (by rw [h3]; omega), h3] at e
      exact Or.inr ⟨k, by omega, h2, e⟩
theorem m_fnd_sp (w : c_St) (t1 t2 pu pi : Int32) (q : Nat) : ∀ n, (m_fnd w t1 t2 pu pi q n = -1 ∧ ∀ s, s < n → ¬ (m_fit w s t1 t2 pu pi = true ∧ m_ah w t1 t2 pu pi s (cu_N w 0) = q)) ∨ ∃ s, s < n ∧ (m_fit w s t1 t2 pu pi = true ∧ m_ah w t1 t2 pu pi s (cu_N w 0) = q) ∧ m_fnd w t1 t2 pu pi q n = (s : Int)
  | 0 => Or.inl ⟨rfl, fun k hk => by omega⟩
  | n + 1 => by
    have e : m_fnd w t1 t2 pu pi q (n + 1) = (if m_fnd w t1 t2 pu pi q n = -1 then (if m_fit w n t1 t2 pu pi = true ∧ m_ah w t1 t2 pu pi n (cu_N w 0) = q then (n : Int) else -1) else m_fnd w t1 t2 pu pi q n) := rfl
    rcases m_fnd_sp w t1 t2 pu pi q n with ⟨h1, h2⟩ | ⟨k, h1, h2, h3⟩
    · rw [if_pos h1] at e
      by_cases c : m_fit w n t1 t2 pu pi = true ∧ m_ah w t1 t2 pu pi n (cu_N w 0) = q
      · rw [if_pos c] at e
        exact Or.inr ⟨n, by omega, c, e⟩
      · rw [if_neg c] at e
        refine Or.inl ⟨e, fun k hk => ?_⟩
        by_cases e2 : k = n
        · subst e2; exact c
        · exact h2 k (by omega)
    · rw [if_neg (by rw [h3]; omega), h3] at e
      exact Or.inr ⟨k, by omega, h2, e⟩
/-- what fits is in the line -/
theorem Rel.pos (h : Rel u v) {s : Nat} (hs : s < cu_N u 0) {t1 t2 pu pi : Int32} {q : Nat} (hpu : c_fok pu 99) (hpi : c_fok pi 49) (hf : m_fit v s t1 t2 pu pi = true ∧ m_ah v t1 t2 pu pi s (cu_N v 0) = q) : ∃ k, k < cu_N u 2 ∧ cu_F u 6 k = s ∧ c_mt u t1 t2 pu pi k = true ∧ c_fc u t1 t2 pu pi k = q := by
  have h1 := hf.1
  rw [h.fit hs t1 t2 hpu hpi, Bool.and_eq_true] at h1
  obtain ⟨k, hk, e⟩ := h.2.1.2.2.1 s hs h1.1
  subst e
  exact ⟨k, hk, rfl, by rw [← h.mt hk t1 t2 hpu hpi]; exact hf.1, by rw [← h.ah hk t1 t2 hpu hpi]; exact hf.2⟩
theorem Rel.fd (h : Rel u v) (t1 t2 : Int32) {pu pi : Int32} (q : Nat) (hpu : c_fok pu 99) (hpi : c_fok pi 49) : m_fnd v t1 t2 pu pi q (cu_N v 0) = c_fd u t1 t2 pu pi q (cu_N u 2) := by
  have n0 := h.2.2.1.1
  rcases c_fd_sp u t1 t2 pu pi q (cu_N u 2) with ⟨h1, h2⟩ | ⟨k, h1, h2, h3⟩ <;> rcases m_fnd_sp v t1 t2 pu pi q (cu_N v 0) with ⟨g1, g2⟩ | ⟨s, g1, g2, g3⟩
  · rw [h1, g1]
  · obtain ⟨k, k1, k2, k3⟩ := h.pos (by omega) hpu hpi g2
    exact absurd k3 (h2 k k1)
  · obtain ⟨a1, a2⟩ := h.2.1.2.1 k h1
    exact absurd ⟨by rw [h.mt h1 t1 t2 hpu hpi]; exact h2.1, by rw [h.ah h1 t1 t2 hpu hpi]; exact h2.2⟩ (g2 (cu_F u 6 k) (by omega))
  · obtain ⟨k', k1, k2, k3, k4⟩ := h.pos (by omega) hpu hpi g2
    have : k = k' := by
      rcases Nat.lt_trichotomy k k' with a | a | a
      · have := c_fc_lt h2.1 a; omega
      · exact a
      · have := c_fc_lt k3 a; omega
    subst this
    rw [h3, g3, k2]
/-! export -/
theorem fok_m1 (n : Nat) : c_fok (-1) n := Or.inl rfl
theorem c_of_m1 (w : c_St) (n : Nat) : c_of w n (-1) (-1) = true := decide_eq_true ⟨Or.inl rfl, Or.inl rfl⟩
theorem c_fd_at {w : c_St} {t1 t2 pu pi : Int32} {n k : Nat} (hk : k < n) (h : c_mt w t1 t2 pu pi k = true) : c_fd w t1 t2 pu pi (c_fc w t1 t2 pu pi k) n = (cu_F w 6 k : Int) := by
  rcases c_fd_sp w t1 t2 pu pi (c_fc w t1 t2 pu pi k) n with ⟨h1, h2⟩ | ⟨k', h1, h2, h3⟩
  · exact absurd ⟨h, rfl⟩ (h2 k hk)
  · have : k = k' := by
      rcases Nat.lt_trichotomy k k' with a | a | a
      · have := c_fc_lt h a; omega
      · exact a
      · have := c_fc_lt h2.1 a; omega
    subst this
    exact h3
theorem Rel.ex (h : Rel u v) (t1 t2 : Int32) : ∀ {k : Nat}, k ≤ cu_N u 2 → m_ex v t1 t2 (c_fc u t1 t2 (-1) (-1) k) = c_ex u t1 t2 k
  | 0, _ => rfl
  | k + 1, hk => by
    have ih := h.ex t1 t2 (k := k) (by omega)
    obtain ⟨a1, a2⟩ := h.2.1.2.1 k (by omega)
    show _ = c_sm (cu_L u (cu_F u 6 k)) (cu_F u 2 (cu_F u 6 k)) (c_ex u t1 t2 k) (c_bb u (cu_F u 6 k) t1) (c_bb u (cu_F u 6 k) t2 - c_bb u (cu_F u 6 k) t1)
    cases hm : c_mt u t1 t2 (-1) (-1) k with
    | true =>
      rw [c_fc_t hm]
      have e := h.fd t1 t2 (c_fc u t1 t2 (-1) (-1) k) (fok_m1 99) (fok_m1 49)
      rw [c_fd_at (by omega) hm] at e
      show m_sw (fun i => cu_G v 2 (8 * (m_fnd v t1 t2 (-1) (-1) (c_fc u t1 t2 (-1) (-1) k) (cu_N v 0)).toNat + i)) (m_beg v (m_fnd v t1 t2 (-1) (-1) (c_fc u t1 t2 (-1) (-1) k) (cu_N v 0)).toNat) t1 t2 (m_ex v t1 t2 (c_fc u t1 t2 (-1) (-1) k)) (cu_F v 2 (m_fnd v t1 t2 (-1) (-1) (c_fc u t1 t2 (-1) (-1) k) (cu_N v 0)).toNat) = _
      rw [e, ih, Int.toNat_natCast]
      exact h.sw a1 t1 t2 _
    | false =>
      rw [c_fc_f hm, ih]
      have hm2 := hm
      unfold c_mt at hm2
      rw [c_of_m1, Bool.true_and, decide_eq_false_iff_not] at hm2
      rw [show c_bb u (cu_F u 6 k) t2 - c_bb u (cu_F u 6 k) t1 = 0 by omega]
      rfl
theorem c_fc_ivt (w : c_St) (t1 t2 pu pi : Int32) : ∀ {n q : Nat}, q < c_fc w t1 t2 pu pi n → ∃ k, k < n ∧ c_mt w t1 t2 pu pi k = true ∧ c_fc w t1 t2 pu pi k = q
  | 0, q, h => absurd h (Nat.not_lt_zero _)
  | n + 1, q, h => by
    by_cases c : q < c_fc w t1 t2 pu pi n
    · obtain ⟨k, h1, h2⟩ := c_fc_ivt w t1 t2 pu pi c
      exact ⟨k, by omega, h2⟩
    · cases hm : c_mt w t1 t2 pu pi n with
      | true => rw [c_fc_t hm] at h; exact ⟨n, by omega, hm, by omega⟩
      | false => rw [c_fc_f hm] at h; exact absurd h c
theorem Rel.exq (h : Rel u v) (t1 t2 : Int32) {q : Nat} (h1 : m_fnd v t1 t2 (-1) (-1) q (cu_N v 0) = -1) (h2 : ∀ j, j < q → 0 ≤ m_fnd v t1 t2 (-1) (-1) j (cu_N v 0)) : m_ex v t1 t2 q = c_ex u t1 t2 (cu_N u 2) := by
  have e : q = c_fc u t1 t2 (-1) (-1) (cu_N u 2) := by
    rcases Nat.lt_trichotomy q (c_fc u t1 t2 (-1) (-1) (cu_N u 2)) with a | a | a
    · obtain ⟨k, k1, k2, k3⟩ := c_fc_ivt u t1 t2 (-1) (-1) a
      have e := c_fd_at k1 k2
      rw [k3, ← h.fd t1 t2 q (fok_m1 99) (fok_m1 49), h1] at e
      omega
    · exact a
    · have e := h2 _ a
      rw [h.fd t1 t2 _ (fok_m1 99) (fok_m1 49)] at e
      rcases c_fd_sp u t1 t2 (-1) (-1) (c_fc u t1 t2 (-1) (-1) (cu_N u 2)) (cu_N u 2) with ⟨g1, -⟩ | ⟨k, g1, g2, -⟩
      · omega
      · have := c_fc_lt g2.1 g1; omega
  rw [e]
  exact h.ex t1 t2 (Nat.le_refl _)
/-! contradictions, what was altered -/
theorem m_scan_in (w : c_St) {s j : Nat} : ∀ {k : Nat}, j < k → cu_F w 5 j = s → 0 ≤ m_scan w s k
  | 0, h, _ => absurd h (Nat.not_lt_zero _)
  | k + 1, h, e => by
    have b := m_scan_b w s k
    show 0 ≤ (if m_scan w s k = -1 then (if cu_F w 5 k = s then (k : Int) else -1) else m_scan w s k)
    by_cases c : m_scan w s k = -1
    · rw [if_pos c]
      by_cases c2 : j = k
      · subst c2; rw [if_pos e]; omega
      · have := m_scan_in w (k := k) (by omega) e; omega
    · rw [if_neg c]; omega
theorem Rel.fst (h : Rel u v) : ∀ j, j < cu_N u 1 → 0 ≤ cu_D u 1 (cu_F u 5 j) := by
  obtain ⟨⟨-, -, -, o4, -⟩, -, ⟨-, n1, -⟩, -, ⟨h5, h6⟩, -⟩ := h
  intro j hj
  rw [h6 _ (o4 j hj).1]
  exact m_scan_in v (by rw [n1]; exact hj) (h5 j hj).1
theorem Rel.ct (h : Rel u v) {j : Nat} (hj : j < cu_N u 1) : m_ct v j = c_ct u j := by
  have h0 := h.fst j hj
  have h9 := h
  obtain ⟨⟨-, -, -, o4, -⟩, -, ⟨-, n1, -⟩, -, ⟨h5, h6⟩, -⟩ := h
  unfold m_ct c_ct
  have e := h6 _ (o4 j hj).1
  have b := m_first_b v (cu_F u 5 j)
  rw [n1, ← e] at b
  rw [(h5 j hj).1, (h5 j hj).2, ← e, (h5 (cu_D u 1 (cu_F u 5 j)).toNat (by omega)).2]
  unfold c_off
  rw [if_neg (by omega)]
theorem Rel.cn (h : Rel u v) : ∀ {k : Nat}, k ≤ cu_N u 1 → m_cn v k = c_cn u k
  | 0, _ => rfl
  | k + 1, hk => by
    show m_cn v k + (if m_ct v k = true then 1 else 0) = c_cn u k + (if c_ct u k = true then 1 else 0)
    rw [h.cn (by omega), h.ct (by omega)]
theorem Rel.con (h : Rel u v) (q : Nat) : ∀ {k : Nat}, k ≤ cu_N u 1 → m_con v q k = c_con u q k
  | 0, _ => rfl
  | k + 1, hk => by
    show (if m_con v q k = -1 then (if m_ct v k = true ∧ m_cn v k = q then 100 * m_first v (cu_F v 5 k) + (k : Int) else -1) else m_con v q k) = (if c_con u q k = -1 then (if c_ct u k = true ∧ c_cn u k = q then 100 * cu_D u 1 (cu_F u 5 k) + (k : Int) else -1) else c_con u q k)
    rw [h.con q (by omega), h.ct (by omega), h.cn (by omega), (h.2.2.2.2.1.1 k (by omega)).1, h.2.2.2.2.1.2 _ (h.1.2.2.2.1 k (by omega)).1]
theorem Rel.vf (h : Rel u v) : ∀ {k : Nat}, k ≤ cu_N u 0 → m_vf v k = c_vf u k
  | 0, _ => rfl
  | k + 1, hk => by
    show (if m_vf v k = -1 then (if cu_B v 0 k = false ∧ m_sm (fun i => cu_G v 2 (8 * k + i)) 0 (cu_F v 2 k) ≠ cu_G v 0 k then (k : Int) else -1) else m_vf v k) = (if c_vf u k = -1 then (if cu_B u 0 k = true ∧ c_now u k ≠ cu_G u 0 k then (k : Int) else -1) else c_vf u k)
    rw [h.vf (by omega), h.now (by omega), h.gone (by omega), (h.2.2.2.1 k (by omega)).2.2.1]
    have : ((!cu_B u 0 k) = false) ↔ (cu_B u 0 k = true) := by cases cu_B u 0 k <;> decide
    simp only [this]
end REL
