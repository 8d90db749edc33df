set_option maxHeartbeats 8000000 in
set_option maxRecDepth 100000 in
theorem whole_start {p : Program} {e : Env} {s : State} {m : MethodId} {below : List Frame} {meth : Method} {c : Code} (l : Launch) (hst : l.stackTraces = false) {b L : Nat} {xs : Nat → Int32} (hL : L ≤ 4096) (C0 : lw_At p s m meth c b L xs) : W p l e room_1 s m #[Value.ref b] below meth c s.heap [] 0 0 (lw_Z below #[Value.ref b] s) (entryFrame m ([Value.ref b] : List Value).toArray 7) := by
  obtain ⟨hx, hb, hr, hml, hown, hts, hX, hbl, hlocks, hgv⟩ := C0
  have htg : ∀ w ∈ wG, w.before #[Value.ref b] s = true := fun w h => hts w (wG_in w h)
  obtain ⟨dC, dI, k, hK⟩ := st_K htg
  have hX0 := st_x hts hgv
  have hNC := st_nc hgv
  have hNst := st_ne hts
  have hC : law_C p l s m c b L xs dC dI k := ⟨hx, hb, hml, hown, htg, hX, hbl, hK, hX0, hNC, hst, hL⟩
  have hA : ∀ q : Nat, s.heap.size ≤ q → (fun q => s.heap.size ≤ q) q := fun q h => h
  have hP : va_P (dC, dI) vwCl ([] : va_W) s.heap := fun k q h => by simp at h
  have hD : va_D (fun q => s.heap.size ≤ q) ([] : va_W) := ⟨fun i j x y h => by simp at h, fun k q h => by simp at h⟩
  have hS : va_S (fun q => s.heap.size ≤ q) s.heap s.heap [] := va_S.rf
  have hl := lv_entry ([.ref b]) (n := 7) (Nat.le_of_ble_eq_true rfl)
  rw [lg_entry_eq]
  generalize (lg_sl ([Value.ref b]) ++ List.replicate (7 - (lg_sl ([Value.ref b])).length) Slot.unset).toArray = ls at hl ⊢
  have hl : lv_has ls 7 [(0, .ref b)] := hl
  refine va_new (ci := 5) (fs := [.null, .null, .null, .null, .null, .null]) (C := RX5) (T := TX5) (N := 6) hx hb htg inX5 tyX5 tyX5_ok hown (htg _ q_16) (htg _ q_17) (htg _ q_1) hK hP hD hS hA rfl (fun j hj => by rcases (show j = 0 ∨ j = 1 ∨ j = 2 ∨ j = 3 ∨ j = 4 ∨ j = 5 by omega) with rfl | rfl | rfl | rfl | rfl | rfl <;> rfl) (Nat.le_of_ble_eq_true rfl) (Nat.le_of_ble_eq_true rfl) dL_law_0 (fun q0 H hP hD hS => ?_)
  refine W.widen (k := 1) (n := 6) (by decide) (by decide) ?_
  have hP : va_P (dC, dI) vwCl ([(q0, .inr (5, [.null, .null, .null, .null, .null, .null]))] : va_W) _ := hP
  have hD : va_D (fun q => s.heap.size ≤ q) ([(q0, .inr (5, [.null, .null, .null, .null, .null, .null]))] : va_W) := hD
  refine lv_dup hx hb dL_law_3 rfl ?_
  refine w_calv (w := fun a => wC a k c_u0) (va_runI (cc := cL_law) (Ts := wG) (As := []) (rest := [.ref q0]) ⟨hx, hb, hml, hown, htg⟩ (i_X5 l dC dI k q0 _) (cwI 0 htg (wG_I (fun _ h => h) q_20) rfl rfl rfl (htg _ q_1) (htg _ q_18) (htg _ q_19) rfl (by decide +kernel) ⟨Nat.le_of_ble_eq_true rfl, Nat.le_of_ble_eq_true rfl⟩) (w_mnS hK hP hD hNst) rfl rfl hl.1 rfl (lv_room (Nat.le_of_ble_eq_true rfl)) dL_law_4 ⟨Nat.le_of_ble_eq_true rfl, Nat.le_of_ble_eq_true rfl⟩) hD hS hA (fun a H locs ha hPn hDn hSn => ?_)
  have ha : a 0 = q0 := ha
  subst ha
  have hP : va_P (dC, dI) vwCl (wC a k c_u0) H := hPn
  have hD : va_D (fun q => s.heap.size ≤ q) (wC a k c_u0) := hDn
  have hS := hSn
  refine W.widen (k := 26) (n := 4212) (by decide) (by decide) ?_
  refine lv_astore_n (lv' := [(1, .ref (a 0)), (0, .ref b)]) hx hb dL_law_7 rfl hl (by decide) rfl (fun ls hl => ?_)
  refine va_new (ci := 6) (fs := [.int 0, .int 0, .null, .null, .null, .null, .null, .null, .null, .null, .int 0, .null, .null, .null, .null, .int 0, .null, .null, .int 0, .null]) (C := RX6) (T := TX6) (N := 20) hx hb htg inX6 tyX6 tyX6_ok hown (htg _ q_575) (htg _ q_576) (htg _ q_7) hK hP hD hS hA rfl (fun j hj => by rcases (show j = 0 ∨ j = 1 ∨ j = 2 ∨ j = 3 ∨ j = 4 ∨ j = 5 ∨ j = 6 ∨ j = 7 ∨ j = 8 ∨ j = 9 ∨ j = 10 ∨ j = 11 ∨ j = 12 ∨ j = 13 ∨ j = 14 ∨ j = 15 ∨ j = 16 ∨ j = 17 ∨ j = 18 ∨ j = 19 by omega) with rfl | rfl | rfl | rfl | rfl | rfl | rfl | rfl | rfl | rfl | rfl | rfl | rfl | rfl | rfl | rfl | rfl | rfl | rfl | rfl <;> rfl) (Nat.le_of_ble_eq_true rfl) (Nat.le_of_ble_eq_true rfl) dL_law_8 (fun q8 H hP hD hS => ?_)
  have hP := w_Psw hP
  have hD := w_Dsw hD
  refine lv_dup hx hb dL_law_11 rfl ?_
  refine w_callv (w := fun r => wR r k c_u0) (va_runI (cc := cL_law) (Ts := wG) (As := []) (rest := [.ref q8]) ⟨hx, hb, hml, hown, htg⟩ (i_X6 l dC dI k q8 _) (cwI 0 htg (wG_I (fun _ h => h) q_579) rfl rfl rfl (htg _ q_7) (htg _ q_577) (htg _ q_578) rfl (by decide +kernel) ⟨Nat.le_of_ble_eq_true rfl, Nat.le_of_ble_eq_true rfl⟩) (w_muS hK (w_Pl hP) (w_Dl hD)) rfl rfl hl.1 rfl (lv_room (Nat.le_of_ble_eq_true rfl)) dL_law_12 ⟨Nat.le_of_ble_eq_true rfl, Nat.le_of_ble_eq_true rfl⟩) hP hD hS hA (fun r H locs ha hPn hDn hSn => ?_)
  have ha : r 0 = q8 := ha
  subst ha
  have hP : va_P (dC, dI) vwCl (wR r k c_u0 ++ wC a k c_u0) H := hPn
  have hD : va_D (fun q => s.heap.size ≤ q) (wR r k c_u0 ++ wC a k c_u0) := hDn
  have hS := hSn
  refine W.widen (k := 42) (n := 9402) (by decide) (by decide) ?_
  refine lv_astore_n (lv' := [(2, .ref (r 0)), (1, .ref (a 0)), (0, .ref b)]) hx hb dL_law_15 rfl hl (by decide) rfl (fun ls hl => ?_)
  refine lv_iconst (v := 1) hx hb dL_law_16 (by decide) ?_
  refine w_newa (atype := .long) hx hb (htg _ q_67) (ty := .long) rfl hK 1 (c0 := k.2.1) rfl hP hD hS hA (a0 := (1, .inr (.inl (fun _ => 0)))) (fun _ => rfl) (by decide) (by decide) (by decide) (Nat.le_of_ble_eq_true rfl) (Nat.le_of_ble_eq_true rfl) dL_law_17 (fun o H hP hD hS => ?_)
  refine lv_astore_n (lv' := [(3, .ref o), (2, .ref (r 0)), (1, .ref (a 0)), (0, .ref b)]) hx hb dL_law_19 rfl hl (by decide) rfl (fun ls hl => ?_)
  refine lv_iconst (v := 0) hx hb dL_law_20 (by decide) ?_
  refine lv_istore (lv' := [(4, .int 0), (3, .ref o), (2, .ref (r 0)), (1, .ref (a 0)), (0, .ref b)]) hx hb dL_law_21 hl (by decide) rfl (fun ls hl => ?_)
  rw [List.append_assoc] at hP hD
  refine W.widen (k := 43) (n := 9403) (by decide) (by decide) ?_
  exact law_loop hC hr hlocks 512 0 (c_u0, fun _ => 0) c_u0 H locs ls 43 9403 (by omega) (by omega) (by omega) (by omega) ⟨rel0, Nat.le_refl _, w_Psw hP, w_Dsw hD, hS, lv_sub hl [0,1,2,3,4] rfl⟩
