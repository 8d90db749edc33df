/-! numbers: nI of the kit for what is never negative, iI for what may be; bI for booleans -/
def iI (z : Int) : Int32 := Int32.ofInt z
def bI (b : Bool) : Int32 := if b = true then 1 else 0
theorem iI_toInt {z : Int} (h1 : -2147483648 ≤ z) (h2 : z < 2147483648) : (iI z).toInt = z := Int32.toInt_ofInt_of_le (by omega) (by omega)
theorem nI_iI (n : Nat) : nI n = iI (n : Int) := Int32.ofInt_eq_ofNat.symm
theorem iI_self (x : Int32) : x = iI x.toInt := (Int32.ofInt_toInt x).symm
theorem iI_add (a b : Int) : iI a + iI b = iI (a + b) := (Int32.ofInt_add a b).symm
theorem iI_sub (a b : Int) : iI a - iI b = iI (a - b) := (Int32.ofInt_sub a b).symm
theorem iI_mul (a b : Int) : iI a * iI b = iI (a * b) := (Int32.ofInt_mul a b).symm
theorem nI_addI (a : Nat) (b : Int) : nI a + iI b = iI ((a : Int) + b) := by rw [nI_iI, iI_add]
theorem iI_lt {a b : Int} (h1 : -2147483648 ≤ a) (h2 : a < 2147483648) (h3 : -2147483648 ≤ b) (h4 : b < 2147483648) : iI a < iI b ↔ a < b := by
  rw [Int32.lt_iff_toInt_lt, iI_toInt h1 h2, iI_toInt h3 h4]
theorem iI_le {a b : Int} (h1 : -2147483648 ≤ a) (h2 : a < 2147483648) (h3 : -2147483648 ≤ b) (h4 : b < 2147483648) : iI a ≤ iI b ↔ a ≤ b := by
  rw [Int32.le_iff_toInt_le, iI_toInt h1 h2, iI_toInt h3 h4]
theorem iI_eq {a b : Int} (h1 : -2147483648 ≤ a) (h2 : a < 2147483648) (h3 : -2147483648 ≤ b) (h4 : b < 2147483648) : iI a = iI b ↔ a = b := by
  rw [← Int32.toInt_inj, iI_toInt h1 h2, iI_toInt h3 h4]
theorem i32_b (x : Int32) : -2147483648 ≤ x.toInt ∧ x.toInt < 2147483648 := ⟨by have := x.le_toInt; omega, by have := x.toInt_lt; omega⟩
theorem bI_t : bI true = 1 := rfl
theorem bI_f : bI false = 0 := rfl
theorem bI_0 {b : Bool} : bI b = 0 ↔ b = false := by cases b <;> simp [bI]
theorem bI_inj {a b : Bool} : bI a = bI b ↔ a = b := by cases a <;> cases b <;> simp [bI]
theorem bI_nar (b : Bool) : vp_nar .boolean (bI b) = bI b := by cases b <;> decide
theorem bI_narw (b : Bool) : narrow .boolean (.int (bI b)) = .int (bI b) := by cases b <;> decide
/-- an int between 0 and n is nI of a number below n -/
theorem nI_rng {x : Int32} {n : Nat} (hn : n < 2147483648) (h0 : ¬ x < 0) (h1 : ¬ nI n ≤ x) : ∃ j : Nat, j < n ∧ x = nI j := by
  rcases pk_ix x (n := n) (by omega) with h | h | h
  · exact absurd h h0
  · exact absurd h h1
  · exact h
section NB
variable {p : Program} {l : Launch} {e : Env} {R : Room} {s : State} {m : MethodId} {args : Array Value} {below : List Frame} {meth : Method} {c : Code} {H : Heap} {locs : List Loc} {cells slots : Nat} {Q : State → Prop} {cc : ByteArray} {pc : Nat} {ls : Array Slot} {rest : List Value}
theorem wtopi {x : Int32} (y : Int32) (h : x = y) (k : W p l e R s m args below meth c H locs cells slots Q (F0 m pc ls (.int y :: rest))) : W p l e R s m args below meth c H locs cells slots Q (F0 m pc ls (.int x :: rest)) := by rw [h]; exact k
theorem wtopl {x : Int64} (y : Int64) (h : x = y) (k : W p l e R s m args below meth c H locs cells slots Q (F0 m pc ls (.long y :: rest))) : W p l e R s m args below meth c H locs cells slots Q (F0 m pc ls (.long x :: rest)) := by rw [h]; exact k
theorem nb_eq (hx : p.tables.exec = Jvm.exec) (hb : c.code = cc) {a b : Nat} (ha : a < 2147483648) (hb9 : b < 2147483648) {x y : Int32} (ex : x = nI a) (ey : y = nI b) {off : Int} {tgt : Nat} (hdg : decode cc pc = .ok (.if_icmp .eq off, 3)) (ht : (pc : Int) + off = (tgt : Int)) (kt : a = b → W p l e R s m args below meth c H locs cells slots Q (F0 m tgt ls rest)) (kf : a ≠ b → W p l e R s m args below meth c H locs cells slots Q (F0 m (pc + 3) ls rest)) : W p l e R s m args below meth c H locs cells slots Q (F0 m pc ls (.int y :: .int x :: rest)) := by
  subst ex ey
  exact lv_icmp_eq hx hb hdg ht (fun h => kt ((nI_eq (a := a) (b := b) (by omega) (by omega)).mp h)) (fun h => kf (fun q => h ((nI_eq (a := a) (b := b) (by omega) (by omega)).mpr q)))
theorem ib_eq (hx : p.tables.exec = Jvm.exec) (hb : c.code = cc) {a b : Int} (ha1 : -2147483648 ≤ a) (ha2 : a < 2147483648) (hb1 : -2147483648 ≤ b) (hb2 : b < 2147483648) {x y : Int32} (ex : x = iI a) (ey : y = iI b) {off : Int} {tgt : Nat} (hdg : decode cc pc = .ok (.if_icmp .eq off, 3)) (ht : (pc : Int) + off = (tgt : Int)) (kt : a = b → W p l e R s m args below meth c H locs cells slots Q (F0 m tgt ls rest)) (kf : a ≠ b → W p l e R s m args below meth c H locs cells slots Q (F0 m (pc + 3) ls rest)) : W p l e R s m args below meth c H locs cells slots Q (F0 m pc ls (.int y :: .int x :: rest)) := by
  subst ex ey
  exact lv_icmp_eq hx hb hdg ht (fun h => kt ((iI_eq (a := a) (b := b) (by omega) (by omega) (by omega) (by omega)).mp h)) (fun h => kf (fun q => h ((iI_eq (a := a) (b := b) (by omega) (by omega) (by omega) (by omega)).mpr q)))
theorem nb_ne (hx : p.tables.exec = Jvm.exec) (hb : c.code = cc) {a b : Nat} (ha : a < 2147483648) (hb9 : b < 2147483648) {x y : Int32} (ex : x = nI a) (ey : y = nI b) {off : Int} {tgt : Nat} (hdg : decode cc pc = .ok (.if_icmp .ne off, 3)) (ht : (pc : Int) + off = (tgt : Int)) (kt : a ≠ b → W p l e R s m args below meth c H locs cells slots Q (F0 m tgt ls rest)) (kf : a = b → W p l e R s m args below meth c H locs cells slots Q (F0 m (pc + 3) ls rest)) : W p l e R s m args below meth c H locs cells slots Q (F0 m pc ls (.int y :: .int x :: rest)) := by
  subst ex ey
  exact lv_icmp_ne hx hb hdg ht (fun h => kt (fun q => h ((nI_eq (a := a) (b := b) (by omega) (by omega)).mpr q))) (fun h => kf ((nI_eq (a := a) (b := b) (by omega) (by omega)).mp h))
theorem ib_ne (hx : p.tables.exec = Jvm.exec) (hb : c.code = cc) {a b : Int} (ha1 : -2147483648 ≤ a) (ha2 : a < 2147483648) (hb1 : -2147483648 ≤ b) (hb2 : b < 2147483648) {x y : Int32} (ex : x = iI a) (ey : y = iI b) {off : Int} {tgt : Nat} (hdg : decode cc pc = .ok (.if_icmp .ne off, 3)) (ht : (pc : Int) + off = (tgt : Int)) (kt : a ≠ b → W p l e R s m args below meth c H locs cells slots Q (F0 m tgt ls rest)) (kf : a = b → W p l e R s m args below meth c H locs cells slots Q (F0 m (pc + 3) ls rest)) : W p l e R s m args below meth c H locs cells slots Q (F0 m pc ls (.int y :: .int x :: rest)) := by
  subst ex ey
  exact lv_icmp_ne hx hb hdg ht (fun h => kt (fun q => h ((iI_eq (a := a) (b := b) (by omega) (by omega) (by omega) (by omega)).mpr q))) (fun h => kf ((iI_eq (a := a) (b := b) (by omega) (by omega) (by omega) (by omega)).mp h))
theorem nb_lt (hx : p.tables.exec = Jvm.exec) (hb : c.code = cc) {a b : Nat} (ha : a < 2147483648) (hb9 : b < 2147483648) {x y : Int32} (ex : x = nI a) (ey : y = nI b) {off : Int} {tgt : Nat} (hdg : decode cc pc = .ok (.if_icmp .lt off, 3)) (ht : (pc : Int) + off = (tgt : Int)) (kt : a < b → W p l e R s m args below meth c H locs cells slots Q (F0 m tgt ls rest)) (kf : b ≤ a → W p l e R s m args below meth c H locs cells slots Q (F0 m (pc + 3) ls rest)) : W p l e R s m args below meth c H locs cells slots Q (F0 m pc ls (.int y :: .int x :: rest)) := by
  subst ex ey
  exact lv_icmp_lt hx hb hdg ht (fun h => kt ((nI_ltI (a := a) (b := b) (by omega) (by omega)).mp h)) (fun h => kf (by have h9 : ¬ (a < b) := fun q => h ((nI_ltI (a := a) (b := b) (by omega) (by omega)).mpr q); omega))
theorem ib_lt (hx : p.tables.exec = Jvm.exec) (hb : c.code = cc) {a b : Int} (ha1 : -2147483648 ≤ a) (ha2 : a < 2147483648) (hb1 : -2147483648 ≤ b) (hb2 : b < 2147483648) {x y : Int32} (ex : x = iI a) (ey : y = iI b) {off : Int} {tgt : Nat} (hdg : decode cc pc = .ok (.if_icmp .lt off, 3)) (ht : (pc : Int) + off = (tgt : Int)) (kt : a < b → W p l e R s m args below meth c H locs cells slots Q (F0 m tgt ls rest)) (kf : b ≤ a → W p l e R s m args below meth c H locs cells slots Q (F0 m (pc + 3) ls rest)) : W p l e R s m args below meth c H locs cells slots Q (F0 m pc ls (.int y :: .int x :: rest)) := by
  subst ex ey
  exact lv_icmp_lt hx hb hdg ht (fun h => kt ((iI_lt (a := a) (b := b) (by omega) (by omega) (by omega) (by omega)).mp h)) (fun h => kf (by have h9 : ¬ (a < b) := fun q => h ((iI_lt (a := a) (b := b) (by omega) (by omega) (by omega) (by omega)).mpr q); omega))
theorem nb_ge (hx : p.tables.exec = Jvm.exec) (hb : c.code = cc) {a b : Nat} (ha : a < 2147483648) (hb9 : b < 2147483648) {x y : Int32} (ex : x = nI a) (ey : y = nI b) {off : Int} {tgt : Nat} (hdg : decode cc pc = .ok (.if_icmp .ge off, 3)) (ht : (pc : Int) + off = (tgt : Int)) (kt : b ≤ a → W p l e R s m args below meth c H locs cells slots Q (F0 m tgt ls rest)) (kf : a < b → W p l e R s m args below meth c H locs cells slots Q (F0 m (pc + 3) ls rest)) : W p l e R s m args below meth c H locs cells slots Q (F0 m pc ls (.int y :: .int x :: rest)) := by
  subst ex ey
  exact lv_icmp_ge hx hb hdg ht (fun h => kt ((nI_leI (a := b) (b := a) (by omega) (by omega)).mp h)) (fun h => kf (by have h9 : ¬ (b ≤ a) := fun q => h ((nI_leI (a := b) (b := a) (by omega) (by omega)).mpr q); omega))
theorem ib_ge (hx : p.tables.exec = Jvm.exec) (hb : c.code = cc) {a b : Int} (ha1 : -2147483648 ≤ a) (ha2 : a < 2147483648) (hb1 : -2147483648 ≤ b) (hb2 : b < 2147483648) {x y : Int32} (ex : x = iI a) (ey : y = iI b) {off : Int} {tgt : Nat} (hdg : decode cc pc = .ok (.if_icmp .ge off, 3)) (ht : (pc : Int) + off = (tgt : Int)) (kt : b ≤ a → W p l e R s m args below meth c H locs cells slots Q (F0 m tgt ls rest)) (kf : a < b → W p l e R s m args below meth c H locs cells slots Q (F0 m (pc + 3) ls rest)) : W p l e R s m args below meth c H locs cells slots Q (F0 m pc ls (.int y :: .int x :: rest)) := by
  subst ex ey
  exact lv_icmp_ge hx hb hdg ht (fun h => kt ((iI_le (a := b) (b := a) (by omega) (by omega) (by omega) (by omega)).mp h)) (fun h => kf (by have h9 : ¬ (b ≤ a) := fun q => h ((iI_le (a := b) (b := a) (by omega) (by omega) (by omega) (by omega)).mpr q); omega))
theorem nb_gt (hx : p.tables.exec = Jvm.exec) (hb : c.code = cc) {a b : Nat} (ha : a < 2147483648) (hb9 : b < 2147483648) {x y : Int32} (ex : x = nI a) (ey : y = nI b) {off : Int} {tgt : Nat} (hdg : decode cc pc = .ok (.if_icmp .gt off, 3)) (ht : (pc : Int) + off = (tgt : Int)) (kt : b < a → W p l e R s m args below meth c H locs cells slots Q (F0 m tgt ls rest)) (kf : a ≤ b → W p l e R s m args below meth c H locs cells slots Q (F0 m (pc + 3) ls rest)) : W p l e R s m args below meth c H locs cells slots Q (F0 m pc ls (.int y :: .int x :: rest)) := by
  subst ex ey
  exact lv_icmp_gt hx hb hdg ht (fun h => kt ((nI_ltI (a := b) (b := a) (by omega) (by omega)).mp h)) (fun h => kf (by have h9 : ¬ (b < a) := fun q => h ((nI_ltI (a := b) (b := a) (by omega) (by omega)).mpr q); omega))
theorem ib_gt (hx : p.tables.exec = Jvm.exec) (hb : c.code = cc) {a b : Int} (ha1 : -2147483648 ≤ a) (ha2 : a < 2147483648) (hb1 : -2147483648 ≤ b) (hb2 : b < 2147483648) {x y : Int32} (ex : x = iI a) (ey : y = iI b) {off : Int} {tgt : Nat} (hdg : decode cc pc = .ok (.if_icmp .gt off, 3)) (ht : (pc : Int) + off = (tgt : Int)) (kt : b < a → W p l e R s m args below meth c H locs cells slots Q (F0 m tgt ls rest)) (kf : a ≤ b → W p l e R s m args below meth c H locs cells slots Q (F0 m (pc + 3) ls rest)) : W p l e R s m args below meth c H locs cells slots Q (F0 m pc ls (.int y :: .int x :: rest)) := by
  subst ex ey
  exact lv_icmp_gt hx hb hdg ht (fun h => kt ((iI_lt (a := b) (b := a) (by omega) (by omega) (by omega) (by omega)).mp h)) (fun h => kf (by have h9 : ¬ (b < a) := fun q => h ((iI_lt (a := b) (b := a) (by omega) (by omega) (by omega) (by omega)).mpr q); omega))
theorem nb_le (hx : p.tables.exec = Jvm.exec) (hb : c.code = cc) {a b : Nat} (ha : a < 2147483648) (hb9 : b < 2147483648) {x y : Int32} (ex : x = nI a) (ey : y = nI b) {off : Int} {tgt : Nat} (hdg : decode cc pc = .ok (.if_icmp .le off, 3)) (ht : (pc : Int) + off = (tgt : Int)) (kt : a ≤ b → W p l e R s m args below meth c H locs cells slots Q (F0 m tgt ls rest)) (kf : b < a → W p l e R s m args below meth c H locs cells slots Q (F0 m (pc + 3) ls rest)) : W p l e R s m args below meth c H locs cells slots Q (F0 m pc ls (.int y :: .int x :: rest)) := by
  subst ex ey
  exact lv_icmp_le hx hb hdg ht (fun h => kt ((nI_leI (a := a) (b := b) (by omega) (by omega)).mp h)) (fun h => kf (by have h9 : ¬ (a ≤ b) := fun q => h ((nI_leI (a := a) (b := b) (by omega) (by omega)).mpr q); omega))
theorem ib_le (hx : p.tables.exec = Jvm.exec) (hb : c.code = cc) {a b : Int} (ha1 : -2147483648 ≤ a) (ha2 : a < 2147483648) (hb1 : -2147483648 ≤ b) (hb2 : b < 2147483648) {x y : Int32} (ex : x = iI a) (ey : y = iI b) {off : Int} {tgt : Nat} (hdg : decode cc pc = .ok (.if_icmp .le off, 3)) (ht : (pc : Int) + off = (tgt : Int)) (kt : a ≤ b → W p l e R s m args below meth c H locs cells slots Q (F0 m tgt ls rest)) (kf : b < a → W p l e R s m args below meth c H locs cells slots Q (F0 m (pc + 3) ls rest)) : W p l e R s m args below meth c H locs cells slots Q (F0 m pc ls (.int y :: .int x :: rest)) := by
  subst ex ey
  exact lv_icmp_le hx hb hdg ht (fun h => kt ((iI_le (a := a) (b := b) (by omega) (by omega) (by omega) (by omega)).mp h)) (fun h => kf (by have h9 : ¬ (a ≤ b) := fun q => h ((iI_le (a := a) (b := b) (by omega) (by omega) (by omega) (by omega)).mpr q); omega))
theorem iz_eq (hx : p.tables.exec = Jvm.exec) (hb : c.code = cc) {a : Int} (ha1 : -2147483648 ≤ a) (ha2 : a < 2147483648) {x : Int32} (ex : x = iI a) {off : Int} {tgt : Nat} (hdg : decode cc pc = .ok (.ifCond .eq off, 3)) (ht : (pc : Int) + off = (tgt : Int)) (kt : a = 0 → W p l e R s m args below meth c H locs cells slots Q (F0 m tgt ls rest)) (kf : a ≠ 0 → W p l e R s m args below meth c H locs cells slots Q (F0 m (pc + 3) ls rest)) : W p l e R s m args below meth c H locs cells slots Q (F0 m pc ls (.int x :: rest)) := by
  subst ex
  exact lv_if_eq hx hb hdg ht (fun h => kt ((iI_eq (a := a) (b := 0) (by omega) (by omega) (by omega) (by omega)).mp h)) (fun h => kf (fun q => h ((iI_eq (a := a) (b := 0) (by omega) (by omega) (by omega) (by omega)).mpr q)))
theorem iz_ne (hx : p.tables.exec = Jvm.exec) (hb : c.code = cc) {a : Int} (ha1 : -2147483648 ≤ a) (ha2 : a < 2147483648) {x : Int32} (ex : x = iI a) {off : Int} {tgt : Nat} (hdg : decode cc pc = .ok (.ifCond .ne off, 3)) (ht : (pc : Int) + off = (tgt : Int)) (kt : a ≠ 0 → W p l e R s m args below meth c H locs cells slots Q (F0 m tgt ls rest)) (kf : a = 0 → W p l e R s m args below meth c H locs cells slots Q (F0 m (pc + 3) ls rest)) : W p l e R s m args below meth c H locs cells slots Q (F0 m pc ls (.int x :: rest)) := by
  subst ex
  exact lv_if_ne hx hb hdg ht (fun h => kt (fun q => h ((iI_eq (a := a) (b := 0) (by omega) (by omega) (by omega) (by omega)).mpr q))) (fun h => kf ((iI_eq (a := a) (b := 0) (by omega) (by omega) (by omega) (by omega)).mp h))
theorem iz_lt (hx : p.tables.exec = Jvm.exec) (hb : c.code = cc) {a : Int} (ha1 : -2147483648 ≤ a) (ha2 : a < 2147483648) {x : Int32} (ex : x = iI a) {off : Int} {tgt : Nat} (hdg : decode cc pc = .ok (.ifCond .lt off, 3)) (ht : (pc : Int) + off = (tgt : Int)) (kt : a < 0 → W p l e R s m args below meth c H locs cells slots Q (F0 m tgt ls rest)) (kf : 0 ≤ a → W p l e R s m args below meth c H locs cells slots Q (F0 m (pc + 3) ls rest)) : W p l e R s m args below meth c H locs cells slots Q (F0 m pc ls (.int x :: rest)) := by
  subst ex
  exact lv_if_lt hx hb hdg ht (fun h => kt ((iI_lt (a := a) (b := 0) (by omega) (by omega) (by omega) (by omega)).mp h)) (fun h => kf (by have h9 : ¬ (a < 0) := fun q => h ((iI_lt (a := a) (b := 0) (by omega) (by omega) (by omega) (by omega)).mpr q); omega))
theorem iz_ge (hx : p.tables.exec = Jvm.exec) (hb : c.code = cc) {a : Int} (ha1 : -2147483648 ≤ a) (ha2 : a < 2147483648) {x : Int32} (ex : x = iI a) {off : Int} {tgt : Nat} (hdg : decode cc pc = .ok (.ifCond .ge off, 3)) (ht : (pc : Int) + off = (tgt : Int)) (kt : 0 ≤ a → W p l e R s m args below meth c H locs cells slots Q (F0 m tgt ls rest)) (kf : a < 0 → W p l e R s m args below meth c H locs cells slots Q (F0 m (pc + 3) ls rest)) : W p l e R s m args below meth c H locs cells slots Q (F0 m pc ls (.int x :: rest)) := by
  subst ex
  exact lv_if_ge hx hb hdg ht (fun h => kt ((iI_le (a := 0) (b := a) (by omega) (by omega) (by omega) (by omega)).mp h)) (fun h => kf (by have h9 : ¬ (0 ≤ a) := fun q => h ((iI_le (a := 0) (b := a) (by omega) (by omega) (by omega) (by omega)).mpr q); omega))
theorem iz_gt (hx : p.tables.exec = Jvm.exec) (hb : c.code = cc) {a : Int} (ha1 : -2147483648 ≤ a) (ha2 : a < 2147483648) {x : Int32} (ex : x = iI a) {off : Int} {tgt : Nat} (hdg : decode cc pc = .ok (.ifCond .gt off, 3)) (ht : (pc : Int) + off = (tgt : Int)) (kt : 0 < a → W p l e R s m args below meth c H locs cells slots Q (F0 m tgt ls rest)) (kf : a ≤ 0 → W p l e R s m args below meth c H locs cells slots Q (F0 m (pc + 3) ls rest)) : W p l e R s m args below meth c H locs cells slots Q (F0 m pc ls (.int x :: rest)) := by
  subst ex
  exact lv_if_gt hx hb hdg ht (fun h => kt ((iI_lt (a := 0) (b := a) (by omega) (by omega) (by omega) (by omega)).mp h)) (fun h => kf (by have h9 : ¬ (0 < a) := fun q => h ((iI_lt (a := 0) (b := a) (by omega) (by omega) (by omega) (by omega)).mpr q); omega))
theorem iz_le (hx : p.tables.exec = Jvm.exec) (hb : c.code = cc) {a : Int} (ha1 : -2147483648 ≤ a) (ha2 : a < 2147483648) {x : Int32} (ex : x = iI a) {off : Int} {tgt : Nat} (hdg : decode cc pc = .ok (.ifCond .le off, 3)) (ht : (pc : Int) + off = (tgt : Int)) (kt : a ≤ 0 → W p l e R s m args below meth c H locs cells slots Q (F0 m tgt ls rest)) (kf : 0 < a → W p l e R s m args below meth c H locs cells slots Q (F0 m (pc + 3) ls rest)) : W p l e R s m args below meth c H locs cells slots Q (F0 m pc ls (.int x :: rest)) := by
  subst ex
  exact lv_if_le hx hb hdg ht (fun h => kt ((iI_le (a := a) (b := 0) (by omega) (by omega) (by omega) (by omega)).mp h)) (fun h => kf (by have h9 : ¬ (a ≤ 0) := fun q => h ((iI_le (a := a) (b := 0) (by omega) (by omega) (by omega) (by omega)).mpr q); omega))
theorem bz_eq (hx : p.tables.exec = Jvm.exec) (hb : c.code = cc) {a : Bool} {off : Int} {tgt : Nat} (hdg : decode cc pc = .ok (.ifCond .eq off, 3)) (ht : (pc : Int) + off = (tgt : Int)) (kt : a = false → W p l e R s m args below meth c H locs cells slots Q (F0 m tgt ls rest)) (kf : a = true → W p l e R s m args below meth c H locs cells slots Q (F0 m (pc + 3) ls rest)) : W p l e R s m args below meth c H locs cells slots Q (F0 m pc ls (.int (bI a) :: rest)) :=
  lv_if_eq hx hb hdg ht (fun h => kt (bI_0.mp h)) (fun h => kf (by cases a with | true => rfl | false => exact absurd rfl h))
theorem bz_ne (hx : p.tables.exec = Jvm.exec) (hb : c.code = cc) {a : Bool} {off : Int} {tgt : Nat} (hdg : decode cc pc = .ok (.ifCond .ne off, 3)) (ht : (pc : Int) + off = (tgt : Int)) (kt : a = true → W p l e R s m args below meth c H locs cells slots Q (F0 m tgt ls rest)) (kf : a = false → W p l e R s m args below meth c H locs cells slots Q (F0 m (pc + 3) ls rest)) : W p l e R s m args below meth c H locs cells slots Q (F0 m pc ls (.int (bI a) :: rest)) :=
  lv_if_ne hx hb hdg ht (fun h => kt (by cases a with | true => rfl | false => exact absurd rfl h)) (fun h => kf (bI_0.mp h))
end NB
/-! worlds: a contract that reads, a contract that writes -/
section WO
variable {D : va_G} {cl : List vw_C} {ws wr : va_W} {ty : List (ClassId × FieldType)} {s : State} {H : Heap} {C : String} {b : Nat} {As av : List Value}
def w_ro (D : va_G) (cl : List vw_C) (ws : va_W) (ty : List (ClassId × FieldType)) : State → Prop := fun U => va_P D cl ws U.heap ∧ va_K D cl ty U
def w_mu (D : va_G) (cl : List vw_C) (ws : va_W) (ty : List (ClassId × FieldType)) (sz : Nat) : State → Prop := fun U => U.heap.size = sz ∧ va_P D cl ws U.heap ∧ va_K D cl ty U ∧ va_D (fun _ => True) ws
def w_at {S : Type} (D : va_G) (cl : List vw_C) (w : S → va_W) (ty : List (ClassId × FieldType)) (A : Nat → Prop) : S → State → Prop := fun u t => va_P D cl (w u) t.heap ∧ va_K D cl ty t ∧ va_D A (w u)
theorem w_roB : FrameBlind (va_Pc av (w_ro D cl ws ty)) := fun a U g mk q => by
  obtain ⟨q0, q1, q2⟩ := q
  exact ⟨q0, q1, va_K.moved (u := U) (U := U.calling g mk a) (Vm.Alike.refl U.vm) q2⟩
theorem w_muB {sz : Nat} : FrameBlind (va_Pc av (w_mu D cl ws ty sz)) := fun a U g mk q => by
  obtain ⟨q0, q1, q2, q3, q4⟩ := q
  exact ⟨q0, q1, q2, va_K.moved (u := U) (U := U.calling g mk a) (Vm.Alike.refl U.vm) q3, q4⟩
theorem w_roV {q : vw_C} {ci q0 : Nat} {fs : List Value} (hK : va_K D cl ty s) (hP : va_P D cl ws H) (hc : cl[ci]? = some q) (he : ws[q0]? = some (b, .inr (ci, fs))) (hq : q.1 = C) : PreV s H C b (va_Pc (.ref b :: As) (w_ro D cl ws ty)) As :=
  ⟨w_roB, by rw [← hq]; exact va_recv hK hP hc he, fun U hU hW => ⟨rfl, by rw [hU]; exact hP, va_K.moved hW.alike hK⟩⟩
theorem w_roS (hK : va_K D cl ty s) (hP : va_P D cl ws H) : PreS s H (va_Pc As (w_ro D cl ws ty)) As :=
  ⟨w_roB, fun U hU hW => ⟨rfl, by rw [hU]; exact hP, va_K.moved hW.alike hK⟩⟩
theorem w_muV {A : Nat → Prop} {q : vw_C} {ci q0 : Nat} {fs : List Value} (hK : va_K D cl ty s) (hP : va_P D cl ws H) (hD : va_D A ws) (hc : cl[ci]? = some q) (he : ws[q0]? = some (b, .inr (ci, fs))) (hq : q.1 = C) : PreV s H C b (va_Pc (.ref b :: As) (w_mu D cl ws ty H.size)) As :=
  ⟨w_muB, by rw [← hq]; exact va_recv hK hP hc he, fun U hU hW => ⟨rfl, by rw [hU], by rw [hU]; exact hP, va_K.moved hW.alike hK, hD.weaken (fun _ _ _ _ => trivial)⟩⟩
theorem w_muS {A : Nat → Prop} (hK : va_K D cl ty s) (hP : va_P D cl ws H) (hD : va_D A ws) : PreS s H (va_Pc As (w_mu D cl ws ty H.size)) As :=
  ⟨w_muB, fun U hU hW => ⟨rfl, by rw [hU], by rw [hU]; exact hP, va_K.moved hW.alike hK, hD.weaken (fun _ _ _ _ => trivial)⟩⟩
theorem w_pE {ws' : va_W} (h : ws = ws') (hP : va_P D cl ws H) : va_P D cl ws' H := h ▸ hP
theorem w_dE {A : Nat → Prop} {ws' : va_W} (h : ws = ws') (hD : va_D A ws) : va_D A ws' := h ▸ hD
theorem w_F {A0 : Nat → Prop} {H0 : Heap} {locs : List Loc} (hD : va_D A0 ws) (hS : va_S A0 H0 H locs) (hA : ∀ q, H0.size ≤ q → A0 q) : ∀ q, va_A ws H.size q → A0 q := by
  intro q h
  rcases h with ⟨k, e, h⟩ | h
  · exact hD.2 k _ h
  · exact hA q (Nat.le_trans hS.1 h)
theorem w_Pl (hP : va_P D cl (ws ++ wr) H) : va_P D cl ws H := fun k q h => hP k q (by rw [List.getElem?_append_left (List.getElem?_eq_some_iff.mp h).1]; exact h)
theorem w_Pr (hP : va_P D cl (ws ++ wr) H) : va_P D cl wr H := fun k q h => hP (ws.length + k) q (by rw [List.getElem?_append_right (by omega), Nat.add_sub_cancel_left]; exact h)
theorem w_Dl {A : Nat → Prop} (hD : va_D A (ws ++ wr)) : va_D A ws := by
  refine ⟨fun i j x y hi hj hxy => hD.1 i j x y ?_ ?_ hxy, fun k q h => hD.2 k q ?_⟩
  · rw [List.getElem?_append_left (List.getElem?_eq_some_iff.mp hi).1]; exact hi
  · rw [List.getElem?_append_left (List.getElem?_eq_some_iff.mp hj).1]; exact hj
  · rw [List.getElem?_append_left (List.getElem?_eq_some_iff.mp h).1]; exact h
theorem w_Dr {A : Nat → Prop} (hD : va_D A (ws ++ wr)) : va_D A wr := by
  have key : ∀ (k : Nat) (q : Nat × va_E), wr[k]? = some q → (ws ++ wr)[ws.length + k]? = some q := fun k q h => by rw [List.getElem?_append_right (by omega), Nat.add_sub_cancel_left]; exact h
  refine ⟨fun i j x y hi hj hxy => ?_, fun k q h => hD.2 _ q (key k q h)⟩
  have := hD.1 _ _ x y (key i x hi) (key j y hj) hxy
  omega
theorem w_ap {A : Nat → Prop} (hD : va_D A (ws ++ wr)) {i j : Nat} {x y : Nat × va_E} (hi : ws[i]? = some x) (hj : wr[j]? = some y) : x.1 ≠ y.1 := fun h => by
  have h1 : (ws ++ wr)[i]? = some x := by rw [List.getElem?_append_left (List.getElem?_eq_some_iff.mp hi).1]; exact hi
  have h2 : (ws ++ wr)[ws.length + j]? = some y := by rw [List.getElem?_append_right (by omega), Nat.add_sub_cancel_left]; exact hj
  have := hD.1 _ _ x y h1 h2 h
  have := (List.getElem?_eq_some_iff.mp hi).1
  omega
theorem w_Psw (hP : va_P D cl (ws ++ wr) H) : va_P D cl (wr ++ ws) H := (w_Pr hP).app (w_Pl hP)
theorem w_Dsw {A : Nat → Prop} (hD : va_D A (ws ++ wr)) : va_D A (wr ++ ws) := (w_Dr hD).app (w_Dl hD) (fun _ _ _ _ hi hj => (w_ap hD hj hi).symm)
/-- behind a call over the first part: the callee's world beside the rest -/
theorem w_join {A0 : Nat → Prop} {w1 : va_W} {H1 : Heap} (hP : va_P D cl (ws ++ wr) H) (hD : va_D A0 (ws ++ wr)) (hF : ∀ q, va_A ws H.size q → A0 q) (hk : ∀ q : Nat, q < H.size → ¬ va_A ws H.size q → H1[q]? = H[q]?) (hP1 : va_P D cl w1 H1) (hD1 : va_D (va_A ws H.size) w1) : va_P D cl (w1 ++ wr) H1 ∧ va_D A0 (w1 ++ wr) := by
  have hr := w_Pr hP
  have out : ∀ (k : Nat) (q : Nat × va_E), wr[k]? = some q → ¬ va_A ws H.size q.1 := by
    intro k q h z
    rcases z with ⟨i, e, z⟩ | z
    · exact w_ap hD z h rfl
    · have := (hr k q h).lt
      omega
  refine ⟨hP1.app (hr.kept (fun k q h => hk q.1 ((hr k q h).lt) (out k q h))), (hD1.weaken (fun _ _ _ h => hF _ h)).app (w_Dr hD) (fun i j x y hi hj hxy => ?_)⟩
  exact out j y hj (hxy ▸ hD1.2 i x hi)
/-- a call that only makes cells keeps a world -/
theorem w_keep {H1 : Heap} (hP : va_P D cl ws H) (hk : ∀ q : Nat, q < H.size → ¬ va_A [] H.size q → H1[q]? = H[q]?) : va_P D cl ws H1 := hP.kept (fun k q h => hk q.1 ((hP k q h).lt) (by
  rintro (⟨i, e, z⟩ | z)
  · simp at z
  · have := (hP k q h).lt
    omega))
end WO
section WC
variable {p : Program} {l : Launch} {e : Env} {R : Room} {s : State} {m : MethodId} {args : Array Value} {below : List Frame} {meth : Method} {c : Code} {H : Heap} {locs : List Loc} {cells slots : Nat} {Q : State → Prop} {pc : Nat} {ls : Array Slot} {rest st0 : List Value} {a : Array Value} {A0 : Nat → Prop} {H0 : Heap} {mc ms : Nat}
variable {D : va_G} {cl : List vw_C} {ws wr : va_W} {ty : List (ClassId × FieldType)}
theorem w_calli {S : Type} {post : Int32 → S → Prop} {w : S → va_W} (hr : va_Run p l e R s m args below meth c H locs cells slots mc ms (F0 m pc ls st0) rest (va_Qi post (w_at D cl w ty (va_A ws H.size)) (va_A ws H.size) a) (va_A ws H.size)) (hP : va_P D cl (ws ++ wr) H) (hD : va_D A0 (ws ++ wr)) (hS : va_S A0 H0 H locs) (hA : ∀ q, H0.size ≤ q → A0 q)
    (kk : ∀ (r : Int32) (u : S) (H1 : Heap) (locs1 : List Loc), post r u → va_P D cl (w u ++ wr) H1 → va_D A0 (w u ++ wr) → va_S A0 H0 H1 locs1 → W p l e R s m args below meth c H1 locs1 (cells + mc) (slots + ms) Q (F0 m (pc + 3) ls (.int r :: rest))) : W p l e R s m args below meth c H locs cells slots Q (F0 m pc ls st0) := by
  have hF := w_F (w_Dl hD) hS hA
  refine va_calli hr hS (fun q _ h => hF q h) hF (fun r u t H1 locs1 ht hvm hp hB hz hk hS1 => ?_)
  obtain ⟨b1, b2, b3⟩ := hB
  rw [ht] at b1
  obtain ⟨j1, j2⟩ := w_join hP hD hF hk b1 b3
  exact kk r u H1 locs1 hp j1 j2 hS1
theorem w_cali {S : Type} {post : Int32 → S → Prop} {w : S → va_W} (hr : va_Run p l e R s m args below meth c H locs cells slots mc ms (F0 m pc ls st0) rest (va_Qi post (w_at D cl w ty (va_A ws H.size)) (va_A ws H.size) a) (va_A ws H.size)) (hD : va_D A0 ws) (hS : va_S A0 H0 H locs) (hA : ∀ q, H0.size ≤ q → A0 q)
    (kk : ∀ (r : Int32) (u : S) (H1 : Heap) (locs1 : List Loc), post r u → va_P D cl (w u) H1 → va_D A0 (w u) → va_S A0 H0 H1 locs1 → W p l e R s m args below meth c H1 locs1 (cells + mc) (slots + ms) Q (F0 m (pc + 3) ls (.int r :: rest))) : W p l e R s m args below meth c H locs cells slots Q (F0 m pc ls st0) := by
  have hF := w_F hD hS hA
  refine va_calli hr hS (fun q _ h => hF q h) hF (fun r u t H1 locs1 ht hvm hp hB hz hk hS1 => ?_)
  obtain ⟨b1, b2, b3⟩ := hB
  rw [ht] at b1
  exact kk r u H1 locs1 hp b1 (b3.weaken (fun _ _ _ h => hF _ h)) hS1
theorem w_callv {S : Type} {post : S → Prop} {w : S → va_W} (hr : va_Run p l e R s m args below meth c H locs cells slots mc ms (F0 m pc ls st0) rest (va_Qv post (w_at D cl w ty (va_A ws H.size)) (va_A ws H.size) a) (va_A ws H.size)) (hP : va_P D cl (ws ++ wr) H) (hD : va_D A0 (ws ++ wr)) (hS : va_S A0 H0 H locs) (hA : ∀ q, H0.size ≤ q → A0 q)
    (kk : ∀ (u : S) (H1 : Heap) (locs1 : List Loc), post u → va_P D cl (w u ++ wr) H1 → va_D A0 (w u ++ wr) → va_S A0 H0 H1 locs1 → W p l e R s m args below meth c H1 locs1 (cells + mc) (slots + ms) Q (F0 m (pc + 3) ls rest)) : W p l e R s m args below meth c H locs cells slots Q (F0 m pc ls st0) := by
  have hF := w_F (w_Dl hD) hS hA
  refine va_callv hr hS (fun q _ h => hF q h) hF (fun u t H1 locs1 ht hvm hp hB hz hk hS1 => ?_)
  obtain ⟨b1, b2, b3⟩ := hB
  rw [ht] at b1
  obtain ⟨j1, j2⟩ := w_join hP hD hF hk b1 b3
  exact kk u H1 locs1 hp j1 j2 hS1
theorem w_calv {S : Type} {post : S → Prop} {w : S → va_W} (hr : va_Run p l e R s m args below meth c H locs cells slots mc ms (F0 m pc ls st0) rest (va_Qv post (w_at D cl w ty (va_A ws H.size)) (va_A ws H.size) a) (va_A ws H.size)) (hD : va_D A0 ws) (hS : va_S A0 H0 H locs) (hA : ∀ q, H0.size ≤ q → A0 q)
    (kk : ∀ (u : S) (H1 : Heap) (locs1 : List Loc), post u → va_P D cl (w u) H1 → va_D A0 (w u) → va_S A0 H0 H1 locs1 → W p l e R s m args below meth c H1 locs1 (cells + mc) (slots + ms) Q (F0 m (pc + 3) ls rest)) : W p l e R s m args below meth c H locs cells slots Q (F0 m pc ls st0) := by
  have hF := w_F hD hS hA
  refine va_callv hr hS (fun q _ h => hF q h) hF (fun u t H1 locs1 ht hvm hp hB hz hk hS1 => ?_)
  obtain ⟨b1, b2, b3⟩ := hB
  rw [ht] at b1
  exact kk u H1 locs1 hp b1 (b3.weaken (fun _ _ _ h => hF _ h)) hS1
/-- a loop that leaves the heap as it is: a measure falls -/
theorem w_loop {σ : Type} {st : List Value} (μ : σ → Nat) (I : σ → Array Slot → Prop)
    (step : ∀ (x : σ) (ls : Array Slot), I x ls → (∀ (y : σ) (ls' : Array Slot), μ y < μ x → I y ls' → W p l e R s m args below meth c H locs cells slots Q (F0 m pc ls' st)) → W p l e R s m args below meth c H locs cells slots Q (F0 m pc ls st)) (x : σ) (ls : Array Slot) (h : I x ls) : W p l e R s m args below meth c H locs cells slots Q (F0 m pc ls st) := by
  have key : ∀ (n : Nat) (x : σ) (ls : Array Slot), μ x < n → I x ls → W p l e R s m args below meth c H locs cells slots Q (F0 m pc ls st) := by
    intro n
    induction n with
    | zero => intro x ls h; exact absurd h (Nat.not_lt_zero _)
    | succ n ih => intro x ls hx hI; exact step x ls hI (fun y ls' hy hI' => ih y ls' (by omega) hI')
  exact key (μ x + 1) x ls (Nat.lt_succ_self _) h
/-- a loop that writes -/
theorem w_loopH {σ : Type} {st : List Value} (μ : σ → Nat) (I : σ → Heap → List Loc → Array Slot → Prop)
    (step : ∀ (x : σ) (H : Heap) (locs : List Loc) (ls : Array Slot), I x H locs ls → (∀ (y : σ) (H' : Heap) (locs' : List Loc) (ls' : Array Slot), μ y < μ x → I y H' locs' ls' → W p l e R s m args below meth c H' locs' cells slots Q (F0 m pc ls' st)) → W p l e R s m args below meth c H locs cells slots Q (F0 m pc ls st)) (x : σ) (H : Heap) (locs : List Loc) (ls : Array Slot) (h : I x H locs ls) : W p l e R s m args below meth c H locs cells slots Q (F0 m pc ls st) := by
  have key : ∀ (n : Nat) (x : σ) (H : Heap) (locs : List Loc) (ls : Array Slot), μ x < n → I x H locs ls → W p l e R s m args below meth c H locs cells slots Q (F0 m pc ls st) := by
    intro n
    induction n with
    | zero => intro x H locs ls h; exact absurd h (Nat.not_lt_zero _)
    | succ n ih => intro x H locs ls hx hI; exact step x H locs ls hI (fun y H' locs' ls' hy hI' => ih y H' locs' ls' (by omega) hI')
  exact key (μ x + 1) x H locs ls (Nat.lt_succ_self _) h
end WC
