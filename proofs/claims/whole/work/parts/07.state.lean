/-! what a state of the class is, in numbers: N counts (0 slots, 1 marks, 2 the line, 3 certificates, 4 rows ever); F rows of numbers (0 source, 1 clock, 2 length, 3 unit, 4 incident, 5 a mark's source, 6 the line's order, 7 a certificate's slot, 8 a row's person, 9 a row's slot); B rows of booleans (0 there, 1 allowed, 2 rights, 3 held); G sums (0 kept, 1 a certificate's kept, 2 its last); D (0 a mark's difference, 1 a source's first mark or -1); L the bytes -/
abbrev c_St : Type := (Nat → Nat) × (Nat → Nat → Nat) × (Nat → Nat → Bool) × (Nat → Nat → Int32) × (Nat → Nat → Int) × (Nat → Int64)
def cu_N (u : c_St) (k : Nat) : Nat := u.1 k
def cu_F (u : c_St) (k i : Nat) : Nat := u.2.1 k i
def cu_B (u : c_St) (k i : Nat) : Bool := u.2.2.1 k i
def cu_G (u : c_St) (k i : Nat) : Int32 := u.2.2.2.1 k i
def cu_D (u : c_St) (k i : Nat) : Int := u.2.2.2.2.1 k i
def cu_L (u : c_St) (i : Nat) : Int64 := u.2.2.2.2.2 i
def up2 {α : Type} (f : Nat → Nat → α) (k i : Nat) (v : α) : Nat → Nat → α := fun k' i' => if k' = k then (if i' = i then v else f k' i') else f k' i'
def cs_N (u : c_St) (k v : Nat) : c_St := (fun j => if j = k then v else u.1 j, u.2.1, u.2.2.1, u.2.2.2.1, u.2.2.2.2.1, u.2.2.2.2.2)
def cs_F (u : c_St) (k i v : Nat) : c_St := (u.1, up2 u.2.1 k i v, u.2.2.1, u.2.2.2.1, u.2.2.2.2.1, u.2.2.2.2.2)
def cs_B (u : c_St) (k i : Nat) (v : Bool) : c_St := (u.1, u.2.1, up2 u.2.2.1 k i v, u.2.2.2.1, u.2.2.2.2.1, u.2.2.2.2.2)
def cs_G (u : c_St) (k i : Nat) (v : Int32) : c_St := (u.1, u.2.1, u.2.2.1, up2 u.2.2.2.1 k i v, u.2.2.2.2.1, u.2.2.2.2.2)
def cs_D (u : c_St) (k i : Nat) (v : Int) : c_St := (u.1, u.2.1, u.2.2.1, u.2.2.2.1, up2 u.2.2.2.2.1 k i v, u.2.2.2.2.2)
def cs_L (u : c_St) (i : Nat) (v : Int64) : c_St := (u.1, u.2.1, u.2.2.1, u.2.2.2.1, u.2.2.2.2.1, fun j => if j = i then v else u.2.2.2.2.2 j)
theorem cx_NN (u : c_St) (k v j : Nat) : cu_N (cs_N u k v) j = if j = k then v else cu_N u j := rfl
theorem cx_FN (u : c_St) (k v : Nat) : cu_F (cs_N u k v) = cu_F u := rfl
theorem cx_BN (u : c_St) (k v : Nat) : cu_B (cs_N u k v) = cu_B u := rfl
theorem cx_GN (u : c_St) (k v : Nat) : cu_G (cs_N u k v) = cu_G u := rfl
theorem cx_DN (u : c_St) (k v : Nat) : cu_D (cs_N u k v) = cu_D u := rfl
theorem cx_LN (u : c_St) (k v : Nat) : cu_L (cs_N u k v) = cu_L u := rfl
theorem cx_NF (u : c_St) (k i v : Nat) : cu_N (cs_F u k i v) = cu_N u := rfl
theorem cx_FF (u : c_St) (k i v : Nat) (k' j : Nat) : cu_F (cs_F u k i v) k' j = if k' = k then (if j = i then v else cu_F u k' j) else cu_F u k' j := rfl
theorem cx_BF (u : c_St) (k i v : Nat) : cu_B (cs_F u k i v) = cu_B u := rfl
theorem cx_GF (u : c_St) (k i v : Nat) : cu_G (cs_F u k i v) = cu_G u := rfl
theorem cx_DF (u : c_St) (k i v : Nat) : cu_D (cs_F u k i v) = cu_D u := rfl
theorem cx_LF (u : c_St) (k i v : Nat) : cu_L (cs_F u k i v) = cu_L u := rfl
theorem cx_NB (u : c_St) (k i : Nat) (v : Bool) : cu_N (cs_B u k i v) = cu_N u := rfl
theorem cx_FB (u : c_St) (k i : Nat) (v : Bool) : cu_F (cs_B u k i v) = cu_F u := rfl
theorem cx_BB (u : c_St) (k i : Nat) (v : Bool) (k' j : Nat) : cu_B (cs_B u k i v) k' j = if k' = k then (if j = i then v else cu_B u k' j) else cu_B u k' j := rfl
theorem cx_GB (u : c_St) (k i : Nat) (v : Bool) : cu_G (cs_B u k i v) = cu_G u := rfl
theorem cx_DB (u : c_St) (k i : Nat) (v : Bool) : cu_D (cs_B u k i v) = cu_D u := rfl
theorem cx_LB (u : c_St) (k i : Nat) (v : Bool) : cu_L (cs_B u k i v) = cu_L u := rfl
theorem cx_NG (u : c_St) (k i : Nat) (v : Int32) : cu_N (cs_G u k i v) = cu_N u := rfl
theorem cx_FG (u : c_St) (k i : Nat) (v : Int32) : cu_F (cs_G u k i v) = cu_F u := rfl
theorem cx_BG (u : c_St) (k i : Nat) (v : Int32) : cu_B (cs_G u k i v) = cu_B u := rfl
theorem cx_GG (u : c_St) (k i : Nat) (v : Int32) (k' j : Nat) : cu_G (cs_G u k i v) k' j = if k' = k then (if j = i then v else cu_G u k' j) else cu_G u k' j := rfl
theorem cx_DG (u : c_St) (k i : Nat) (v : Int32) : cu_D (cs_G u k i v) = cu_D u := rfl
theorem cx_LG (u : c_St) (k i : Nat) (v : Int32) : cu_L (cs_G u k i v) = cu_L u := rfl
theorem cx_ND (u : c_St) (k i : Nat) (v : Int) : cu_N (cs_D u k i v) = cu_N u := rfl
theorem cx_FD (u : c_St) (k i : Nat) (v : Int) : cu_F (cs_D u k i v) = cu_F u := rfl
theorem cx_BD (u : c_St) (k i : Nat) (v : Int) : cu_B (cs_D u k i v) = cu_B u := rfl
theorem cx_GD (u : c_St) (k i : Nat) (v : Int) : cu_G (cs_D u k i v) = cu_G u := rfl
theorem cx_DD (u : c_St) (k i : Nat) (v : Int) (k' j : Nat) : cu_D (cs_D u k i v) k' j = if k' = k then (if j = i then v else cu_D u k' j) else cu_D u k' j := rfl
theorem cx_LD (u : c_St) (k i : Nat) (v : Int) : cu_L (cs_D u k i v) = cu_L u := rfl
theorem cx_NL (u : c_St) (i : Nat) (v : Int64) : cu_N (cs_L u i v) = cu_N u := rfl
theorem cx_FL (u : c_St) (i : Nat) (v : Int64) : cu_F (cs_L u i v) = cu_F u := rfl
theorem cx_BL (u : c_St) (i : Nat) (v : Int64) : cu_B (cs_L u i v) = cu_B u := rfl
theorem cx_GL (u : c_St) (i : Nat) (v : Int64) : cu_G (cs_L u i v) = cu_G u := rfl
theorem cx_DL (u : c_St) (i : Nat) (v : Int64) : cu_D (cs_L u i v) = cu_D u := rfl
theorem cx_LL (u : c_St) (i : Nat) (v : Int64) (j : Nat) : cu_L (cs_L u i v) j = if j = i then v else cu_L u j := rfl
/-- the class ids of the int, long and boolean arrays -/
abbrev c_K : Type := ClassId × ClassId × ClassId
abbrev tC (k : c_K) : List (ClassId × FieldType) := [(k.1, .int), (k.2.1, .long), (k.2.2, .boolean)]
def wC_f0 (a : Nat → Nat) (u : c_St) : List Value := [.ref (a 1), .ref (a 2), .ref (a 3), .ref (a 4), .ref (a 5), .ref (a 6)]
def wC_f1 (a : Nat → Nat) (u : c_St) : List Value := [.ref (a 7), .ref (a 8), .ref (a 9), .ref (a 10), .ref (a 11), .ref (a 12), .ref (a 13), .ref (a 14), .int (nI (cu_N u 0))]
def wC_f2 (a : Nat → Nat) (u : c_St) : List Value := [.ref (a 15), .ref (a 16), .ref (a 17), .int (nI (cu_N u 1))]
def wC_f3 (a : Nat → Nat) (u : c_St) : List Value := [.ref (a 18), .int (nI (cu_N u 2)), .ref (a 1), .ref (a 2)]
def wC_f4 (a : Nat → Nat) (u : c_St) : List Value := [.ref (a 19), .ref (a 20), .ref (a 21), .int (nI (cu_N u 3))]
def wC_f5 (a : Nat → Nat) (u : c_St) : List Value := [.ref (a 22), .ref (a 23), .ref (a 24), .int (nI (cu_N u 4)), .ref (a 25)]
def wC (a : Nat → Nat) (k : c_K) (u : c_St) : va_W := [(a 0, .inr (5, wC_f0 a u)), (a 1, .inr (4, wC_f1 a u)), (a 2, .inr (3, wC_f2 a u)), (a 3, .inr (1, wC_f3 a u)), (a 4, .inr (0, wC_f4 a u)), (a 5, .inr (2, wC_f5 a u)), (a 6, .inl (k.2.2, 50, .inl (fun j9 => bI (cu_B u 3 j9)))), (a 7, .inl (k.1, 200, .inl (fun j9 => nI (cu_F u 0 j9)))), (a 8, .inl (k.1, 200, .inl (fun j9 => nI (cu_F u 1 j9)))), (a 9, .inl (k.1, 200, .inl (fun j9 => nI (cu_F u 2 j9)))), (a 10, .inl (k.2.1, 200, .inr (.inl (fun j9 => cu_L u j9)))), (a 11, .inl (k.1, 200, .inl (fun j9 => nI (cu_F u 3 j9)))), (a 12, .inl (k.1, 200, .inl (fun j9 => nI (cu_F u 4 j9)))), (a 13, .inl (k.1, 200, .inl (fun j9 => cu_G u 0 j9))), (a 14, .inl (k.2.2, 200, .inl (fun j9 => bI (cu_B u 0 j9)))), (a 15, .inl (k.1, 60, .inl (fun j9 => nI (cu_F u 5 j9)))), (a 16, .inl (k.1, 60, .inl (fun j9 => iI (cu_D u 0 j9)))), (a 17, .inl (k.1, 10, .inl (fun j9 => iI (cu_D u 1 j9)))), (a 18, .inl (k.1, 200, .inl (fun j9 => nI (cu_F u 6 j9)))), (a 19, .inl (k.1, 200, .inl (fun j9 => nI (cu_F u 7 j9)))), (a 20, .inl (k.1, 200, .inl (fun j9 => cu_G u 1 j9))), (a 21, .inl (k.1, 200, .inl (fun j9 => cu_G u 2 j9))), (a 22, .inl (k.1, 200, .inl (fun j9 => nI (cu_F u 8 j9)))), (a 23, .inl (k.1, 200, .inl (fun j9 => nI (cu_F u 9 j9)))), (a 24, .inl (k.2.2, 200, .inl (fun j9 => bI (cu_B u 1 j9)))), (a 25, .inl (k.2.2, 1000, .inl (fun j9 => bI (cu_B u 2 j9))))]
theorem wC_g0 (a : Nat → Nat) (k : c_K) (u : c_St) : (wC a k u)[0]? = some (a 0, .inr (5, wC_f0 a u)) := rfl
theorem wC_g1 (a : Nat → Nat) (k : c_K) (u : c_St) : (wC a k u)[1]? = some (a 1, .inr (4, wC_f1 a u)) := rfl
theorem wC_g2 (a : Nat → Nat) (k : c_K) (u : c_St) : (wC a k u)[2]? = some (a 2, .inr (3, wC_f2 a u)) := rfl
theorem wC_g3 (a : Nat → Nat) (k : c_K) (u : c_St) : (wC a k u)[3]? = some (a 3, .inr (1, wC_f3 a u)) := rfl
theorem wC_g4 (a : Nat → Nat) (k : c_K) (u : c_St) : (wC a k u)[4]? = some (a 4, .inr (0, wC_f4 a u)) := rfl
theorem wC_g5 (a : Nat → Nat) (k : c_K) (u : c_St) : (wC a k u)[5]? = some (a 5, .inr (2, wC_f5 a u)) := rfl
theorem wC_g6 (a : Nat → Nat) (k : c_K) (u : c_St) : (wC a k u)[6]? = some (a 6, .inl (k.2.2, 50, .inl (fun j9 => bI (cu_B u 3 j9)))) := rfl
theorem wC_g7 (a : Nat → Nat) (k : c_K) (u : c_St) : (wC a k u)[7]? = some (a 7, .inl (k.1, 200, .inl (fun j9 => nI (cu_F u 0 j9)))) := rfl
theorem wC_g8 (a : Nat → Nat) (k : c_K) (u : c_St) : (wC a k u)[8]? = some (a 8, .inl (k.1, 200, .inl (fun j9 => nI (cu_F u 1 j9)))) := rfl
theorem wC_g9 (a : Nat → Nat) (k : c_K) (u : c_St) : (wC a k u)[9]? = some (a 9, .inl (k.1, 200, .inl (fun j9 => nI (cu_F u 2 j9)))) := rfl
theorem wC_g10 (a : Nat → Nat) (k : c_K) (u : c_St) : (wC a k u)[10]? = some (a 10, .inl (k.2.1, 200, .inr (.inl (fun j9 => cu_L u j9)))) := rfl
theorem wC_g11 (a : Nat → Nat) (k : c_K) (u : c_St) : (wC a k u)[11]? = some (a 11, .inl (k.1, 200, .inl (fun j9 => nI (cu_F u 3 j9)))) := rfl
theorem wC_g12 (a : Nat → Nat) (k : c_K) (u : c_St) : (wC a k u)[12]? = some (a 12, .inl (k.1, 200, .inl (fun j9 => nI (cu_F u 4 j9)))) := rfl
theorem wC_g13 (a : Nat → Nat) (k : c_K) (u : c_St) : (wC a k u)[13]? = some (a 13, .inl (k.1, 200, .inl (fun j9 => cu_G u 0 j9))) := rfl
theorem wC_g14 (a : Nat → Nat) (k : c_K) (u : c_St) : (wC a k u)[14]? = some (a 14, .inl (k.2.2, 200, .inl (fun j9 => bI (cu_B u 0 j9)))) := rfl
theorem wC_g15 (a : Nat → Nat) (k : c_K) (u : c_St) : (wC a k u)[15]? = some (a 15, .inl (k.1, 60, .inl (fun j9 => nI (cu_F u 5 j9)))) := rfl
theorem wC_g16 (a : Nat → Nat) (k : c_K) (u : c_St) : (wC a k u)[16]? = some (a 16, .inl (k.1, 60, .inl (fun j9 => iI (cu_D u 0 j9)))) := rfl
theorem wC_g17 (a : Nat → Nat) (k : c_K) (u : c_St) : (wC a k u)[17]? = some (a 17, .inl (k.1, 10, .inl (fun j9 => iI (cu_D u 1 j9)))) := rfl
theorem wC_g18 (a : Nat → Nat) (k : c_K) (u : c_St) : (wC a k u)[18]? = some (a 18, .inl (k.1, 200, .inl (fun j9 => nI (cu_F u 6 j9)))) := rfl
theorem wC_g19 (a : Nat → Nat) (k : c_K) (u : c_St) : (wC a k u)[19]? = some (a 19, .inl (k.1, 200, .inl (fun j9 => nI (cu_F u 7 j9)))) := rfl
theorem wC_g20 (a : Nat → Nat) (k : c_K) (u : c_St) : (wC a k u)[20]? = some (a 20, .inl (k.1, 200, .inl (fun j9 => cu_G u 1 j9))) := rfl
theorem wC_g21 (a : Nat → Nat) (k : c_K) (u : c_St) : (wC a k u)[21]? = some (a 21, .inl (k.1, 200, .inl (fun j9 => cu_G u 2 j9))) := rfl
theorem wC_g22 (a : Nat → Nat) (k : c_K) (u : c_St) : (wC a k u)[22]? = some (a 22, .inl (k.1, 200, .inl (fun j9 => nI (cu_F u 8 j9)))) := rfl
theorem wC_g23 (a : Nat → Nat) (k : c_K) (u : c_St) : (wC a k u)[23]? = some (a 23, .inl (k.1, 200, .inl (fun j9 => nI (cu_F u 9 j9)))) := rfl
theorem wC_g24 (a : Nat → Nat) (k : c_K) (u : c_St) : (wC a k u)[24]? = some (a 24, .inl (k.2.2, 200, .inl (fun j9 => bI (cu_B u 1 j9)))) := rfl
theorem wC_g25 (a : Nat → Nat) (k : c_K) (u : c_St) : (wC a k u)[25]? = some (a 25, .inl (k.2.2, 1000, .inl (fun j9 => bI (cu_B u 2 j9)))) := rfl
theorem wC_n0 (a : Nat → Nat) (k : c_K) (u : c_St) (v : Nat) : (wC a k u).set 1 (a 1, .inr (4, (wC_f1 a u).set 8 (.int (nI v)))) = wC a k (cs_N u 0 v) := rfl
theorem wC_n1 (a : Nat → Nat) (k : c_K) (u : c_St) (v : Nat) : (wC a k u).set 2 (a 2, .inr (3, (wC_f2 a u).set 3 (.int (nI v)))) = wC a k (cs_N u 1 v) := rfl
theorem wC_n2 (a : Nat → Nat) (k : c_K) (u : c_St) (v : Nat) : (wC a k u).set 3 (a 3, .inr (1, (wC_f3 a u).set 1 (.int (nI v)))) = wC a k (cs_N u 2 v) := rfl
theorem wC_n3 (a : Nat → Nat) (k : c_K) (u : c_St) (v : Nat) : (wC a k u).set 4 (a 4, .inr (0, (wC_f4 a u).set 3 (.int (nI v)))) = wC a k (cs_N u 3 v) := rfl
theorem wC_n4 (a : Nat → Nat) (k : c_K) (u : c_St) (v : Nat) : (wC a k u).set 5 (a 5, .inr (2, (wC_f5 a u).set 3 (.int (nI v)))) = wC a k (cs_N u 4 v) := rfl
theorem wC_s6 (a : Nat → Nat) (k : c_K) (u : c_St) (i : Nat) (v : Bool) (hi : i < 2147483648) : (wC a k u).set 6 (a 6, .inl (k.2.2, 50, .inl (upd (fun j9 => bI (cu_B u 3 j9)) (nI i).toNatClampNeg (vp_nar .boolean (bI v))))) = wC a k (cs_B u 3 i v) := by
  have h : upd (fun j9 => bI (cu_B u 3 j9)) i (vp_nar .boolean (bI v)) = (fun j9 => bI (cu_B (cs_B u 3 i v) 3 j9)) := by
    funext j
    simp only [upd, cx_BB, bI_nar, if_true]
    all_goals (split <;> rfl)
  rw [nI_clamp (by omega), h]
  rfl
theorem wC_s7 (a : Nat → Nat) (k : c_K) (u : c_St) (i : Nat) (v : Nat) (hi : i < 2147483648) : (wC a k u).set 7 (a 7, .inl (k.1, 200, .inl (upd (fun j9 => nI (cu_F u 0 j9)) (nI i).toNatClampNeg (nI v)))) = wC a k (cs_F u 0 i v) := by
  have h : upd (fun j9 => nI (cu_F u 0 j9)) i (nI v) = (fun j9 => nI (cu_F (cs_F u 0 i v) 0 j9)) := by
    funext j
    simp only [upd, cx_FF, if_true]
    all_goals (split <;> rfl)
  rw [nI_clamp (by omega), h]
  rfl
theorem wC_s8 (a : Nat → Nat) (k : c_K) (u : c_St) (i : Nat) (v : Nat) (hi : i < 2147483648) : (wC a k u).set 8 (a 8, .inl (k.1, 200, .inl (upd (fun j9 => nI (cu_F u 1 j9)) (nI i).toNatClampNeg (nI v)))) = wC a k (cs_F u 1 i v) := by
  have h : upd (fun j9 => nI (cu_F u 1 j9)) i (nI v) = (fun j9 => nI (cu_F (cs_F u 1 i v) 1 j9)) := by
    funext j
    simp only [upd, cx_FF, if_true]
    all_goals (split <;> rfl)
  rw [nI_clamp (by omega), h]
  rfl
theorem wC_s9 (a : Nat → Nat) (k : c_K) (u : c_St) (i : Nat) (v : Nat) (hi : i < 2147483648) : (wC a k u).set 9 (a 9, .inl (k.1, 200, .inl (upd (fun j9 => nI (cu_F u 2 j9)) (nI i).toNatClampNeg (nI v)))) = wC a k (cs_F u 2 i v) := by
  have h : upd (fun j9 => nI (cu_F u 2 j9)) i (nI v) = (fun j9 => nI (cu_F (cs_F u 2 i v) 2 j9)) := by
    funext j
    simp only [upd, cx_FF, if_true]
    all_goals (split <;> rfl)
  rw [nI_clamp (by omega), h]
  rfl
theorem wC_s10 (a : Nat → Nat) (k : c_K) (u : c_St) (i : Nat) (v : Int64) (hi : i < 2147483648) : (wC a k u).set 10 (a 10, .inl (k.2.1, 200, .inr (.inl (vp_updL (fun j9 => cu_L u j9) (nI i).toNatClampNeg v)))) = wC a k (cs_L u i v) := by
  have h : vp_updL (fun j9 => cu_L u j9) i v = (fun j9 => cu_L (cs_L u i v) j9) := by
    funext j
    simp only [vp_updL, cx_LL, if_true]
    all_goals (split <;> rfl)
  rw [nI_clamp (by omega), h]
  rfl
theorem wC_s11 (a : Nat → Nat) (k : c_K) (u : c_St) (i : Nat) (v : Nat) (hi : i < 2147483648) : (wC a k u).set 11 (a 11, .inl (k.1, 200, .inl (upd (fun j9 => nI (cu_F u 3 j9)) (nI i).toNatClampNeg (nI v)))) = wC a k (cs_F u 3 i v) := by
  have h : upd (fun j9 => nI (cu_F u 3 j9)) i (nI v) = (fun j9 => nI (cu_F (cs_F u 3 i v) 3 j9)) := by
    funext j
    simp only [upd, cx_FF, if_true]
    all_goals (split <;> rfl)
  rw [nI_clamp (by omega), h]
  rfl
theorem wC_s12 (a : Nat → Nat) (k : c_K) (u : c_St) (i : Nat) (v : Nat) (hi : i < 2147483648) : (wC a k u).set 12 (a 12, .inl (k.1, 200, .inl (upd (fun j9 => nI (cu_F u 4 j9)) (nI i).toNatClampNeg (nI v)))) = wC a k (cs_F u 4 i v) := by
  have h : upd (fun j9 => nI (cu_F u 4 j9)) i (nI v) = (fun j9 => nI (cu_F (cs_F u 4 i v) 4 j9)) := by
    funext j
    simp only [upd, cx_FF, if_true]
    all_goals (split <;> rfl)
  rw [nI_clamp (by omega), h]
  rfl
theorem wC_s13 (a : Nat → Nat) (k : c_K) (u : c_St) (i : Nat) (v : Int32) (hi : i < 2147483648) : (wC a k u).set 13 (a 13, .inl (k.1, 200, .inl (upd (fun j9 => cu_G u 0 j9) (nI i).toNatClampNeg v))) = wC a k (cs_G u 0 i v) := by
  have h : upd (fun j9 => cu_G u 0 j9) i v = (fun j9 => cu_G (cs_G u 0 i v) 0 j9) := by
    funext j
    simp only [upd, cx_GG, if_true]
    all_goals (split <;> rfl)
  rw [nI_clamp (by omega), h]
  rfl
theorem wC_s14 (a : Nat → Nat) (k : c_K) (u : c_St) (i : Nat) (v : Bool) (hi : i < 2147483648) : (wC a k u).set 14 (a 14, .inl (k.2.2, 200, .inl (upd (fun j9 => bI (cu_B u 0 j9)) (nI i).toNatClampNeg (vp_nar .boolean (bI v))))) = wC a k (cs_B u 0 i v) := by
  have h : upd (fun j9 => bI (cu_B u 0 j9)) i (vp_nar .boolean (bI v)) = (fun j9 => bI (cu_B (cs_B u 0 i v) 0 j9)) := by
    funext j
    simp only [upd, cx_BB, bI_nar, if_true]
    all_goals (split <;> rfl)
  rw [nI_clamp (by omega), h]
  rfl
theorem wC_s15 (a : Nat → Nat) (k : c_K) (u : c_St) (i : Nat) (v : Nat) (hi : i < 2147483648) : (wC a k u).set 15 (a 15, .inl (k.1, 60, .inl (upd (fun j9 => nI (cu_F u 5 j9)) (nI i).toNatClampNeg (nI v)))) = wC a k (cs_F u 5 i v) := by
  have h : upd (fun j9 => nI (cu_F u 5 j9)) i (nI v) = (fun j9 => nI (cu_F (cs_F u 5 i v) 5 j9)) := by
    funext j
    simp only [upd, cx_FF, if_true]
    all_goals (split <;> rfl)
  rw [nI_clamp (by omega), h]
  rfl
theorem wC_s16 (a : Nat → Nat) (k : c_K) (u : c_St) (i : Nat) (v : Int) (hi : i < 2147483648) : (wC a k u).set 16 (a 16, .inl (k.1, 60, .inl (upd (fun j9 => iI (cu_D u 0 j9)) (nI i).toNatClampNeg (iI v)))) = wC a k (cs_D u 0 i v) := by
  have h : upd (fun j9 => iI (cu_D u 0 j9)) i (iI v) = (fun j9 => iI (cu_D (cs_D u 0 i v) 0 j9)) := by
    funext j
    simp only [upd, cx_DD, if_true]
    all_goals (split <;> rfl)
  rw [nI_clamp (by omega), h]
  rfl
theorem wC_s17 (a : Nat → Nat) (k : c_K) (u : c_St) (i : Nat) (v : Int) (hi : i < 2147483648) : (wC a k u).set 17 (a 17, .inl (k.1, 10, .inl (upd (fun j9 => iI (cu_D u 1 j9)) (nI i).toNatClampNeg (iI v)))) = wC a k (cs_D u 1 i v) := by
  have h : upd (fun j9 => iI (cu_D u 1 j9)) i (iI v) = (fun j9 => iI (cu_D (cs_D u 1 i v) 1 j9)) := by
    funext j
    simp only [upd, cx_DD, if_true]
    all_goals (split <;> rfl)
  rw [nI_clamp (by omega), h]
  rfl
theorem wC_s18 (a : Nat → Nat) (k : c_K) (u : c_St) (i : Nat) (v : Nat) (hi : i < 2147483648) : (wC a k u).set 18 (a 18, .inl (k.1, 200, .inl (upd (fun j9 => nI (cu_F u 6 j9)) (nI i).toNatClampNeg (nI v)))) = wC a k (cs_F u 6 i v) := by
  have h : upd (fun j9 => nI (cu_F u 6 j9)) i (nI v) = (fun j9 => nI (cu_F (cs_F u 6 i v) 6 j9)) := by
    funext j
    simp only [upd, cx_FF, if_true]
    all_goals (split <;> rfl)
  rw [nI_clamp (by omega), h]
  rfl
theorem wC_s19 (a : Nat → Nat) (k : c_K) (u : c_St) (i : Nat) (v : Nat) (hi : i < 2147483648) : (wC a k u).set 19 (a 19, .inl (k.1, 200, .inl (upd (fun j9 => nI (cu_F u 7 j9)) (nI i).toNatClampNeg (nI v)))) = wC a k (cs_F u 7 i v) := by
  have h : upd (fun j9 => nI (cu_F u 7 j9)) i (nI v) = (fun j9 => nI (cu_F (cs_F u 7 i v) 7 j9)) := by
    funext j
    simp only [upd, cx_FF, if_true]
    all_goals (split <;> rfl)
  rw [nI_clamp (by omega), h]
  rfl
theorem wC_s20 (a : Nat → Nat) (k : c_K) (u : c_St) (i : Nat) (v : Int32) (hi : i < 2147483648) : (wC a k u).set 20 (a 20, .inl (k.1, 200, .inl (upd (fun j9 => cu_G u 1 j9) (nI i).toNatClampNeg v))) = wC a k (cs_G u 1 i v) := by
  have h : upd (fun j9 => cu_G u 1 j9) i v = (fun j9 => cu_G (cs_G u 1 i v) 1 j9) := by
    funext j
    simp only [upd, cx_GG, if_true]
    all_goals (split <;> rfl)
  rw [nI_clamp (by omega), h]
  rfl
theorem wC_s21 (a : Nat → Nat) (k : c_K) (u : c_St) (i : Nat) (v : Int32) (hi : i < 2147483648) : (wC a k u).set 21 (a 21, .inl (k.1, 200, .inl (upd (fun j9 => cu_G u 2 j9) (nI i).toNatClampNeg v))) = wC a k (cs_G u 2 i v) := by
  have h : upd (fun j9 => cu_G u 2 j9) i v = (fun j9 => cu_G (cs_G u 2 i v) 2 j9) := by
    funext j
    simp only [upd, cx_GG, if_true]
    all_goals (split <;> rfl)
  rw [nI_clamp (by omega), h]
  rfl
theorem wC_s22 (a : Nat → Nat) (k : c_K) (u : c_St) (i : Nat) (v : Nat) (hi : i < 2147483648) : (wC a k u).set 22 (a 22, .inl (k.1, 200, .inl (upd (fun j9 => nI (cu_F u 8 j9)) (nI i).toNatClampNeg (nI v)))) = wC a k (cs_F u 8 i v) := by
  have h : upd (fun j9 => nI (cu_F u 8 j9)) i (nI v) = (fun j9 => nI (cu_F (cs_F u 8 i v) 8 j9)) := by
    funext j
    simp only [upd, cx_FF, if_true]
    all_goals (split <;> rfl)
  rw [nI_clamp (by omega), h]
  rfl
theorem wC_s23 (a : Nat → Nat) (k : c_K) (u : c_St) (i : Nat) (v : Nat) (hi : i < 2147483648) : (wC a k u).set 23 (a 23, .inl (k.1, 200, .inl (upd (fun j9 => nI (cu_F u 9 j9)) (nI i).toNatClampNeg (nI v)))) = wC a k (cs_F u 9 i v) := by
  have h : upd (fun j9 => nI (cu_F u 9 j9)) i (nI v) = (fun j9 => nI (cu_F (cs_F u 9 i v) 9 j9)) := by
    funext j
    simp only [upd, cx_FF, if_true]
    all_goals (split <;> rfl)
  rw [nI_clamp (by omega), h]
  rfl
theorem wC_s24 (a : Nat → Nat) (k : c_K) (u : c_St) (i : Nat) (v : Bool) (hi : i < 2147483648) : (wC a k u).set 24 (a 24, .inl (k.2.2, 200, .inl (upd (fun j9 => bI (cu_B u 1 j9)) (nI i).toNatClampNeg (vp_nar .boolean (bI v))))) = wC a k (cs_B u 1 i v) := by
  have h : upd (fun j9 => bI (cu_B u 1 j9)) i (vp_nar .boolean (bI v)) = (fun j9 => bI (cu_B (cs_B u 1 i v) 1 j9)) := by
    funext j
    simp only [upd, cx_BB, bI_nar, if_true]
    all_goals (split <;> rfl)
  rw [nI_clamp (by omega), h]
  rfl
theorem wC_s25 (a : Nat → Nat) (k : c_K) (u : c_St) (i : Nat) (v : Bool) (hi : i < 2147483648) : (wC a k u).set 25 (a 25, .inl (k.2.2, 1000, .inl (upd (fun j9 => bI (cu_B u 2 j9)) (nI i).toNatClampNeg (vp_nar .boolean (bI v))))) = wC a k (cs_B u 2 i v) := by
  have h : upd (fun j9 => bI (cu_B u 2 j9)) i (vp_nar .boolean (bI v)) = (fun j9 => bI (cu_B (cs_B u 2 i v) 2 j9)) := by
    funext j
    simp only [upd, cx_BB, bI_nar, if_true]
    all_goals (split <;> rfl)
  rw [nI_clamp (by omega), h]
  rfl
def wR_f0 (a : Nat → Nat) (u : c_St) : List Value := [.int (nI (cu_N u 4)), .int (nI (cu_N u 0)), .ref (a 1), .ref (a 2), .ref (a 3), .ref (a 14), .ref (a 4), .ref (a 5), .ref (a 12), .ref (a 9), .int (nI (cu_N u 1)), .ref (a 6), .ref (a 15), .ref (a 10), .ref (a 11), .int (nI (cu_N u 2)), .ref (a 7), .ref (a 13), .int (nI (cu_N u 3)), .ref (a 8)]
def wR (a : Nat → Nat) (k : c_K) (u : c_St) : va_W := [(a 0, .inr (6, wR_f0 a u)), (a 1, .inl (k.1, 200, .inl (fun j9 => nI (cu_F u 0 j9)))), (a 2, .inl (k.1, 200, .inl (fun j9 => nI (cu_F u 1 j9)))), (a 3, .inl (k.1, 200, .inl (fun j9 => nI (cu_F u 2 j9)))), (a 4, .inl (k.1, 200, .inl (fun j9 => nI (cu_F u 3 j9)))), (a 5, .inl (k.1, 200, .inl (fun j9 => nI (cu_F u 4 j9)))), (a 6, .inl (k.1, 60, .inl (fun j9 => nI (cu_F u 5 j9)))), (a 7, .inl (k.1, 200, .inl (fun j9 => nI (cu_F u 6 j9)))), (a 8, .inl (k.1, 600, .inl (fun j9 => nI (cu_F u 7 j9)))), (a 9, .inl (k.2.2, 200, .inl (fun j9 => bI (cu_B u 0 j9)))), (a 10, .inl (k.2.2, 50, .inl (fun j9 => bI (cu_B u 1 j9)))), (a 11, .inl (k.2.2, 1000, .inl (fun j9 => bI (cu_B u 2 j9)))), (a 12, .inl (k.1, 200, .inl (fun j9 => cu_G u 0 j9))), (a 13, .inl (k.1, 200, .inl (fun j9 => cu_G u 1 j9))), (a 14, .inl (k.1, 1600, .inl (fun j9 => cu_G u 2 j9))), (a 15, .inl (k.1, 60, .inl (fun j9 => iI (cu_D u 0 j9))))]
theorem wR_g0 (a : Nat → Nat) (k : c_K) (u : c_St) : (wR a k u)[0]? = some (a 0, .inr (6, wR_f0 a u)) := rfl
theorem wR_g1 (a : Nat → Nat) (k : c_K) (u : c_St) : (wR a k u)[1]? = some (a 1, .inl (k.1, 200, .inl (fun j9 => nI (cu_F u 0 j9)))) := rfl
theorem wR_g2 (a : Nat → Nat) (k : c_K) (u : c_St) : (wR a k u)[2]? = some (a 2, .inl (k.1, 200, .inl (fun j9 => nI (cu_F u 1 j9)))) := rfl
theorem wR_g3 (a : Nat → Nat) (k : c_K) (u : c_St) : (wR a k u)[3]? = some (a 3, .inl (k.1, 200, .inl (fun j9 => nI (cu_F u 2 j9)))) := rfl
theorem wR_g4 (a : Nat → Nat) (k : c_K) (u : c_St) : (wR a k u)[4]? = some (a 4, .inl (k.1, 200, .inl (fun j9 => nI (cu_F u 3 j9)))) := rfl
theorem wR_g5 (a : Nat → Nat) (k : c_K) (u : c_St) : (wR a k u)[5]? = some (a 5, .inl (k.1, 200, .inl (fun j9 => nI (cu_F u 4 j9)))) := rfl
theorem wR_g6 (a : Nat → Nat) (k : c_K) (u : c_St) : (wR a k u)[6]? = some (a 6, .inl (k.1, 60, .inl (fun j9 => nI (cu_F u 5 j9)))) := rfl
theorem wR_g7 (a : Nat → Nat) (k : c_K) (u : c_St) : (wR a k u)[7]? = some (a 7, .inl (k.1, 200, .inl (fun j9 => nI (cu_F u 6 j9)))) := rfl
theorem wR_g8 (a : Nat → Nat) (k : c_K) (u : c_St) : (wR a k u)[8]? = some (a 8, .inl (k.1, 600, .inl (fun j9 => nI (cu_F u 7 j9)))) := rfl
theorem wR_g9 (a : Nat → Nat) (k : c_K) (u : c_St) : (wR a k u)[9]? = some (a 9, .inl (k.2.2, 200, .inl (fun j9 => bI (cu_B u 0 j9)))) := rfl
theorem wR_g10 (a : Nat → Nat) (k : c_K) (u : c_St) : (wR a k u)[10]? = some (a 10, .inl (k.2.2, 50, .inl (fun j9 => bI (cu_B u 1 j9)))) := rfl
theorem wR_g11 (a : Nat → Nat) (k : c_K) (u : c_St) : (wR a k u)[11]? = some (a 11, .inl (k.2.2, 1000, .inl (fun j9 => bI (cu_B u 2 j9)))) := rfl
theorem wR_g12 (a : Nat → Nat) (k : c_K) (u : c_St) : (wR a k u)[12]? = some (a 12, .inl (k.1, 200, .inl (fun j9 => cu_G u 0 j9))) := rfl
theorem wR_g13 (a : Nat → Nat) (k : c_K) (u : c_St) : (wR a k u)[13]? = some (a 13, .inl (k.1, 200, .inl (fun j9 => cu_G u 1 j9))) := rfl
theorem wR_g14 (a : Nat → Nat) (k : c_K) (u : c_St) : (wR a k u)[14]? = some (a 14, .inl (k.1, 1600, .inl (fun j9 => cu_G u 2 j9))) := rfl
theorem wR_g15 (a : Nat → Nat) (k : c_K) (u : c_St) : (wR a k u)[15]? = some (a 15, .inl (k.1, 60, .inl (fun j9 => iI (cu_D u 0 j9)))) := rfl
theorem wR_n4 (a : Nat → Nat) (k : c_K) (u : c_St) (v : Nat) : (wR a k u).set 0 (a 0, .inr (6, (wR_f0 a u).set 0 (.int (nI v)))) = wR a k (cs_N u 4 v) := rfl
theorem wR_n0 (a : Nat → Nat) (k : c_K) (u : c_St) (v : Nat) : (wR a k u).set 0 (a 0, .inr (6, (wR_f0 a u).set 1 (.int (nI v)))) = wR a k (cs_N u 0 v) := rfl
theorem wR_n1 (a : Nat → Nat) (k : c_K) (u : c_St) (v : Nat) : (wR a k u).set 0 (a 0, .inr (6, (wR_f0 a u).set 10 (.int (nI v)))) = wR a k (cs_N u 1 v) := rfl
theorem wR_n2 (a : Nat → Nat) (k : c_K) (u : c_St) (v : Nat) : (wR a k u).set 0 (a 0, .inr (6, (wR_f0 a u).set 15 (.int (nI v)))) = wR a k (cs_N u 2 v) := rfl
theorem wR_n3 (a : Nat → Nat) (k : c_K) (u : c_St) (v : Nat) : (wR a k u).set 0 (a 0, .inr (6, (wR_f0 a u).set 18 (.int (nI v)))) = wR a k (cs_N u 3 v) := rfl
theorem wR_s1 (a : Nat → Nat) (k : c_K) (u : c_St) (i : Nat) (v : Nat) (hi : i < 2147483648) : (wR a k u).set 1 (a 1, .inl (k.1, 200, .inl (upd (fun j9 => nI (cu_F u 0 j9)) (nI i).toNatClampNeg (nI v)))) = wR a k (cs_F u 0 i v) := by
  have h : upd (fun j9 => nI (cu_F u 0 j9)) i (nI v) = (fun j9 => nI (cu_F (cs_F u 0 i v) 0 j9)) := by
    funext j
    simp only [upd, cx_FF, if_true]
    all_goals (split <;> rfl)
  rw [nI_clamp (by omega), h]
  rfl
theorem wR_s2 (a : Nat → Nat) (k : c_K) (u : c_St) (i : Nat) (v : Nat) (hi : i < 2147483648) : (wR a k u).set 2 (a 2, .inl (k.1, 200, .inl (upd (fun j9 => nI (cu_F u 1 j9)) (nI i).toNatClampNeg (nI v)))) = wR a k (cs_F u 1 i v) := by
  have h : upd (fun j9 => nI (cu_F u 1 j9)) i (nI v) = (fun j9 => nI (cu_F (cs_F u 1 i v) 1 j9)) := by
    funext j
    simp only [upd, cx_FF, if_true]
    all_goals (split <;> rfl)
  rw [nI_clamp (by omega), h]
  rfl
theorem wR_s3 (a : Nat → Nat) (k : c_K) (u : c_St) (i : Nat) (v : Nat) (hi : i < 2147483648) : (wR a k u).set 3 (a 3, .inl (k.1, 200, .inl (upd (fun j9 => nI (cu_F u 2 j9)) (nI i).toNatClampNeg (nI v)))) = wR a k (cs_F u 2 i v) := by
  have h : upd (fun j9 => nI (cu_F u 2 j9)) i (nI v) = (fun j9 => nI (cu_F (cs_F u 2 i v) 2 j9)) := by
    funext j
    simp only [upd, cx_FF, if_true]
    all_goals (split <;> rfl)
  rw [nI_clamp (by omega), h]
  rfl
theorem wR_s4 (a : Nat → Nat) (k : c_K) (u : c_St) (i : Nat) (v : Nat) (hi : i < 2147483648) : (wR a k u).set 4 (a 4, .inl (k.1, 200, .inl (upd (fun j9 => nI (cu_F u 3 j9)) (nI i).toNatClampNeg (nI v)))) = wR a k (cs_F u 3 i v) := by
  have h : upd (fun j9 => nI (cu_F u 3 j9)) i (nI v) = (fun j9 => nI (cu_F (cs_F u 3 i v) 3 j9)) := by
    funext j
    simp only [upd, cx_FF, if_true]
    all_goals (split <;> rfl)
  rw [nI_clamp (by omega), h]
  rfl
theorem wR_s5 (a : Nat → Nat) (k : c_K) (u : c_St) (i : Nat) (v : Nat) (hi : i < 2147483648) : (wR a k u).set 5 (a 5, .inl (k.1, 200, .inl (upd (fun j9 => nI (cu_F u 4 j9)) (nI i).toNatClampNeg (nI v)))) = wR a k (cs_F u 4 i v) := by
  have h : upd (fun j9 => nI (cu_F u 4 j9)) i (nI v) = (fun j9 => nI (cu_F (cs_F u 4 i v) 4 j9)) := by
    funext j
    simp only [upd, cx_FF, if_true]
    all_goals (split <;> rfl)
  rw [nI_clamp (by omega), h]
  rfl
theorem wR_s6 (a : Nat → Nat) (k : c_K) (u : c_St) (i : Nat) (v : Nat) (hi : i < 2147483648) : (wR a k u).set 6 (a 6, .inl (k.1, 60, .inl (upd (fun j9 => nI (cu_F u 5 j9)) (nI i).toNatClampNeg (nI v)))) = wR a k (cs_F u 5 i v) := by
  have h : upd (fun j9 => nI (cu_F u 5 j9)) i (nI v) = (fun j9 => nI (cu_F (cs_F u 5 i v) 5 j9)) := by
    funext j
    simp only [upd, cx_FF, if_true]
    all_goals (split <;> rfl)
  rw [nI_clamp (by omega), h]
  rfl
theorem wR_s7 (a : Nat → Nat) (k : c_K) (u : c_St) (i : Nat) (v : Nat) (hi : i < 2147483648) : (wR a k u).set 7 (a 7, .inl (k.1, 200, .inl (upd (fun j9 => nI (cu_F u 6 j9)) (nI i).toNatClampNeg (nI v)))) = wR a k (cs_F u 6 i v) := by
  have h : upd (fun j9 => nI (cu_F u 6 j9)) i (nI v) = (fun j9 => nI (cu_F (cs_F u 6 i v) 6 j9)) := by
    funext j
    simp only [upd, cx_FF, if_true]
    all_goals (split <;> rfl)
  rw [nI_clamp (by omega), h]
  rfl
theorem wR_s8 (a : Nat → Nat) (k : c_K) (u : c_St) (i : Nat) (v : Nat) (hi : i < 2147483648) : (wR a k u).set 8 (a 8, .inl (k.1, 600, .inl (upd (fun j9 => nI (cu_F u 7 j9)) (nI i).toNatClampNeg (nI v)))) = wR a k (cs_F u 7 i v) := by
  have h : upd (fun j9 => nI (cu_F u 7 j9)) i (nI v) = (fun j9 => nI (cu_F (cs_F u 7 i v) 7 j9)) := by
    funext j
    simp only [upd, cx_FF, if_true]
    all_goals (split <;> rfl)
  rw [nI_clamp (by omega), h]
  rfl
theorem wR_s9 (a : Nat → Nat) (k : c_K) (u : c_St) (i : Nat) (v : Bool) (hi : i < 2147483648) : (wR a k u).set 9 (a 9, .inl (k.2.2, 200, .inl (upd (fun j9 => bI (cu_B u 0 j9)) (nI i).toNatClampNeg (vp_nar .boolean (bI v))))) = wR a k (cs_B u 0 i v) := by
  have h : upd (fun j9 => bI (cu_B u 0 j9)) i (vp_nar .boolean (bI v)) = (fun j9 => bI (cu_B (cs_B u 0 i v) 0 j9)) := by
    funext j
    simp only [upd, cx_BB, bI_nar, if_true]
    all_goals (split <;> rfl)
  rw [nI_clamp (by omega), h]
  rfl
theorem wR_s10 (a : Nat → Nat) (k : c_K) (u : c_St) (i : Nat) (v : Bool) (hi : i < 2147483648) : (wR a k u).set 10 (a 10, .inl (k.2.2, 50, .inl (upd (fun j9 => bI (cu_B u 1 j9)) (nI i).toNatClampNeg (vp_nar .boolean (bI v))))) = wR a k (cs_B u 1 i v) := by
  have h : upd (fun j9 => bI (cu_B u 1 j9)) i (vp_nar .boolean (bI v)) = (fun j9 => bI (cu_B (cs_B u 1 i v) 1 j9)) := by
    funext j
    simp only [upd, cx_BB, bI_nar, if_true]
    all_goals (split <;> rfl)
  rw [nI_clamp (by omega), h]
  rfl
theorem wR_s11 (a : Nat → Nat) (k : c_K) (u : c_St) (i : Nat) (v : Bool) (hi : i < 2147483648) : (wR a k u).set 11 (a 11, .inl (k.2.2, 1000, .inl (upd (fun j9 => bI (cu_B u 2 j9)) (nI i).toNatClampNeg (vp_nar .boolean (bI v))))) = wR a k (cs_B u 2 i v) := by
  have h : upd (fun j9 => bI (cu_B u 2 j9)) i (vp_nar .boolean (bI v)) = (fun j9 => bI (cu_B (cs_B u 2 i v) 2 j9)) := by
    funext j
    simp only [upd, cx_BB, bI_nar, if_true]
    all_goals (split <;> rfl)
  rw [nI_clamp (by omega), h]
  rfl
theorem wR_s12 (a : Nat → Nat) (k : c_K) (u : c_St) (i : Nat) (v : Int32) (hi : i < 2147483648) : (wR a k u).set 12 (a 12, .inl (k.1, 200, .inl (upd (fun j9 => cu_G u 0 j9) (nI i).toNatClampNeg v))) = wR a k (cs_G u 0 i v) := by
  have h : upd (fun j9 => cu_G u 0 j9) i v = (fun j9 => cu_G (cs_G u 0 i v) 0 j9) := by
    funext j
    simp only [upd, cx_GG, if_true]
    all_goals (split <;> rfl)
  rw [nI_clamp (by omega), h]
  rfl
theorem wR_s13 (a : Nat → Nat) (k : c_K) (u : c_St) (i : Nat) (v : Int32) (hi : i < 2147483648) : (wR a k u).set 13 (a 13, .inl (k.1, 200, .inl (upd (fun j9 => cu_G u 1 j9) (nI i).toNatClampNeg v))) = wR a k (cs_G u 1 i v) := by
  have h : upd (fun j9 => cu_G u 1 j9) i v = (fun j9 => cu_G (cs_G u 1 i v) 1 j9) := by
    funext j
    simp only [upd, cx_GG, if_true]
    all_goals (split <;> rfl)
  rw [nI_clamp (by omega), h]
  rfl
theorem wR_s14 (a : Nat → Nat) (k : c_K) (u : c_St) (i : Nat) (v : Int32) (hi : i < 2147483648) : (wR a k u).set 14 (a 14, .inl (k.1, 1600, .inl (upd (fun j9 => cu_G u 2 j9) (nI i).toNatClampNeg v))) = wR a k (cs_G u 2 i v) := by
  have h : upd (fun j9 => cu_G u 2 j9) i v = (fun j9 => cu_G (cs_G u 2 i v) 2 j9) := by
    funext j
    simp only [upd, cx_GG, if_true]
    all_goals (split <;> rfl)
  rw [nI_clamp (by omega), h]
  rfl
theorem wR_s15 (a : Nat → Nat) (k : c_K) (u : c_St) (i : Nat) (v : Int) (hi : i < 2147483648) : (wR a k u).set 15 (a 15, .inl (k.1, 60, .inl (upd (fun j9 => iI (cu_D u 0 j9)) (nI i).toNatClampNeg (iI v)))) = wR a k (cs_D u 0 i v) := by
  have h : upd (fun j9 => iI (cu_D u 0 j9)) i (iI v) = (fun j9 => iI (cu_D (cs_D u 0 i v) 0 j9)) := by
    funext j
    simp only [upd, cx_DD, if_true]
    all_goals (split <;> rfl)
  rw [nI_clamp (by omega), h]
  rfl
