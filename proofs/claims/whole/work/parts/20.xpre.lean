/-! the starts of contracts that throw, and what is so where they have thrown -/
section XP
variable {D : va_G} {cl : List vw_C} {ws : va_W} {ty : List (ClassId × FieldType)} {s : State} {H : Heap} {C : String} {b : Nat} {As av : List Value}
def w_px (D : va_G) (cl : List vw_C) (ws : va_W) (ty : List (ClassId × FieldType)) (sz : Nat) : State → Prop := fun U => U.heap.size = sz ∧ va_P D cl ws U.heap ∧ va_K D cl ty U ∧ w_x (va_A [] sz) U U.heap
/-- thrown is a cell of E; of the old cells none has changed -/
def x_C (E : String) (sz : Nat) : Addr → State → State → Prop := fun q st t => (∃ ce : Cell, t.heap[q]? = some ce ∧ ce.vm = .none ∧ st.vm.findClass E = some ce.cls) ∧ va_F (va_A [] sz) st t
theorem w_pxB {sz : Nat} : FrameBlind (va_Pc av (w_px D cl ws ty sz)) := fun a U g mk q => by
  obtain ⟨q0, q1, q2, q3, q4⟩ := q
  exact ⟨q0, q1, q2, va_K.moved (u := U) (U := U.calling g mk a) (Vm.Alike.refl U.vm) q3, (show w_x (va_A [] sz) (U.calling g mk a) U.heap from w_x.same (u := U) rfl q4)⟩
theorem w_pxS (hK : va_K D cl ty s) (hP : va_P D cl ws H) (hX : w_x (va_A [] H.size) s H) : PreS s H (va_Pc As (w_px D cl ws ty H.size)) As :=
  ⟨w_pxB, fun U hU hW => ⟨rfl, by rw [hU], by rw [hU]; exact hP, va_K.moved hW.alike hK, by rw [hU]; exact hX.warm hW⟩⟩
theorem w_pxV {q : vw_C} {ci q0 : Nat} {fs : List Value} (hK : va_K D cl ty s) (hP : va_P D cl ws H) (hX : w_x (va_A [] H.size) s H) (hc : cl[ci]? = some q) (he : ws[q0]? = some (b, .inr (ci, fs))) (hq : q.1 = C) : PreV s H C b (va_Pc (.ref b :: As) (w_px D cl ws ty H.size)) As :=
  ⟨w_pxB, by rw [← hq]; exact va_recv hK hP hc he, fun U hU hW => ⟨rfl, by rw [hU], by rw [hU]; exact hP, va_K.moved hW.alike hK, by rw [hU]; exact hX.warm hW⟩⟩
theorem va_A0 {sz q : Nat} : va_A [] sz q ↔ sz ≤ q := ⟨fun h => h.elim (fun ⟨k, e, z⟩ => by simp at z) id, Or.inr⟩
theorem va_A0n {sz q : Nat} (h : q < sz) : ¬ va_A [] sz q := fun z => by rw [va_A0] at z; omega
end XP
section XK
variable {p : Program} {l : Launch} {e : Env} {R : Room} {s : State} {m : MethodId} {args : Array Value} {below : List Frame} {meth : Method} {c : Code} {H : Heap} {locs : List Loc} {cells slots : Nat} {pc : Nat} {ls : Array Slot} {rest st0 : List Value} {q : Addr} {E : String}
/-- where a callee has thrown into a method that has changed nothing: it goes on -/
theorem x_on {st₀ t : State} {H1 : Heap} {L : List Loc} {mc ms : Nat} (hout : ∀ x ∈ c.exceptionTable.toList, covers x pc = false) (hlocks : meth.locks = false) (h0 : st₀.heap = s.heap) (hfc : ∀ z : String, st₀.vm.findClass z = s.vm.findClass z) (ht : t.heap = H1) (hx : x_C E s.heap.size q st₀ t) (hL : ∀ z ∈ L, va_A [] s.heap.size z.base) (hc : cells ≤ mc) (hs : slots ≤ ms) :
    XW p l e R s m args below meth c H1 ([] ++ L) cells slots (XQ below (x_C E s.heap.size) s mc ms (va_A [] s.heap.size)) (F0 m pc ls rest) q := by
  refine XW.out hout hlocks (fun t9 ht9 hW9 => ?_) (fun z hz => hL z (by simpa using hz)) hc hs
  obtain ⟨⟨ce, h1, h2, h3⟩, h4, h5⟩ := hx
  rw [hfc] at h3
  rw [h0, ht] at h4 h5
  rw [ht] at h1
  exact ⟨⟨ce, by rw [ht9]; exact h1, h2, h3⟩, by rw [ht9]; exact h4, fun z z1 z2 => by rw [ht9]; exact h5 z z1 z2⟩
end XK
theorem chk_in {p9 : Int32} {n : Nat} (hn : n < 2147483647) (h1 : ¬ p9 < 0) (h2 : p9 < nI (n + 1)) : inR p9 0 (nI n) = true := by
  unfold inR
  rw [Int32.lt_iff_toInt_lt] at h1 h2
  rw [nI_toInt (by omega)] at h2
  have h0 : (0 : Int32).toInt = 0 := by decide
  rw [decide_eq_true_iff, Int32.le_iff_toInt_le, Int32.le_iff_toInt_le, nI_toInt (by omega), h0]
  rw [h0] at h1
  omega
theorem chk_le {p9 : Int32} {n : Nat} (hn : n < 2147483647) (h1 : ¬ p9 < 0) (h2 : p9 ≤ nI n) : inR p9 0 (nI n) = true := by
  unfold inR
  rw [Int32.lt_iff_toInt_lt] at h1
  rw [Int32.le_iff_toInt_le, nI_toInt (by omega)] at h2
  have h0 : (0 : Int32).toInt = 0 := by decide
  rw [decide_eq_true_iff, Int32.le_iff_toInt_le, Int32.le_iff_toInt_le, nI_toInt (by omega), h0]
  rw [h0] at h1
  omega
