set_option maxHeartbeats 8000000 in
set_option maxRecDepth 100000 in
theorem law_part {p : Program} {l : Launch} {e : Env} {s : State} {m : MethodId} {below : List Frame} {meth : Method} {c : Code} {b L : Nat} {xs : Nat → Int32} {dC : Nat → ClassId} {dI : Nat → Nat → Nat} {k : c_K} {a : Nat → Nat} {o : Nat} {r : Nat → Nat} {x : c_X} {v : c_St} {H : Heap} {locs : List Loc} {ls : Array Slot} {cells slots t : Nat} {Q : State → Prop} (hC : law_C p l s m c b L xs dC dI k) (ht : 8 * t + 8 ≤ L) (hI : law_I s b dC dI k a o r x v t t H locs ls) (hcs : cells + 1 ≤ 1088 ∧ slots + 6 ≤ 17721)
    (kk : ∀ (x1 : c_X) (v1 : c_St) (H1 : Heap) (locs1 : List Loc) (ls1 : Array Slot), law_I s b dC dI k a o r x1 v1 (t + 1) t H1 locs1 ls1 → W p l e room_1 s m #[Value.ref b] below meth c H1 locs1 (cells + 1) (slots + 6) Q (F0 m 1375 ls1 [])) : W p l e room_1 s m #[Value.ref b] below meth c H locs cells slots Q (F0 m 692 ls []) := by
  obtain ⟨hx, hb, hml, hown, htg, hX, hbl, hK, hX0, hNC, hst, hL⟩ := hC
  obtain ⟨hR, hN4, hP, hD, hS, hl⟩ := hI
  have hbA : ¬ s.heap.size ≤ b := by omega
  have hA : ∀ q : Nat, s.heap.size ≤ q → (fun q => s.heap.size ≤ q) q := fun q h => h
  refine lv_aload_n hx hb dL_law_692 rfl (lv_at hl 3 rfl) ?_
  refine lv_aload_n hx hb dL_law_693 rfl (lv_at hl 4 rfl) ?_
  refine lv_iload hx hb dL_law_694 (lv_at hl 0 rfl) ?_
  refine lv_iconst (v := 1) hx hb dL_law_696 (by decide) ?_
  refine lv_iadd hx hb dL_law_697 ?_
  refine wtopi (nI (8 * t + 1)) (nI_add (8 * t) 1) ?_
  refine va_sld hx hb hX hbl hbA hS (vp_in_nI (n := 8 * t + 1) (N := L) (by omega) (by omega)) dL_law_698 ?_
  refine wtopi (xs (8 * t + 1)) (congrArg xs (nI_clamp (n := 8 * t + 1) (by omega))) ?_
  refine lv_aload_n hx hb dL_law_699 rfl (lv_at hl 4 rfl) ?_
  refine lv_iload hx hb dL_law_700 (lv_at hl 0 rfl) ?_
  refine lv_iconst (v := 2) hx hb dL_law_702 (by decide) ?_
  refine lv_iadd hx hb dL_law_703 ?_
  refine wtopi (nI (8 * t + 2)) (nI_add (8 * t) 2) ?_
  refine va_sld hx hb hX hbl hbA hS (vp_in_nI (n := 8 * t + 2) (N := L) (by omega) (by omega)) dL_law_704 ?_
  refine wtopi (xs (8 * t + 2)) (congrArg xs (nI_clamp (n := 8 * t + 2) (by omega))) ?_
  refine lv_aload_n hx hb dL_law_705 rfl (lv_at hl 4 rfl) ?_
  refine lv_iload hx hb dL_law_706 (lv_at hl 0 rfl) ?_
  refine lv_iconst (v := 3) hx hb dL_law_708 (by decide) ?_
  refine lv_iadd hx hb dL_law_709 ?_
  refine wtopi (nI (8 * t + 3)) (nI_add (8 * t) 3) ?_
  refine va_sld hx hb hX hbl hbA hS (vp_in_nI (n := 8 * t + 3) (N := L) (by omega) (by omega)) dL_law_710 ?_
  refine wtopi (xs (8 * t + 3)) (congrArg xs (nI_clamp (n := 8 * t + 3) (by omega))) ?_
  refine lv_aload_n hx hb dL_law_711 rfl (lv_at hl 1 rfl) ?_
  have hXx : w_x (va_A (wL a o k x) H.size) s H := (hX0.kept (fun z h1 h2 => hS.2.1 z h1 h2)).narrow (fun q hq => w_F (w_Dl hD) hS hA q hq)
  refine w_calli (w := wL a o k) (x_runSW (cc := cL_law) (Ts := wG) (bytes := cL_part) (maxL := 6) (ret := some .int) (hh := [(0, 12, 15, 13), (0, 12, 19, 37)]) (As := [.ref (a 0), .int (xs (8 * t + 1)), .int (xs (8 * t + 2)), .int (xs (8 * t + 3)), .ref o]) (rest := []) ⟨hx, hb, hml, hown, htg⟩ (u_part l dC dI a k x.1 o x.2 _ hst v hR (by omega) (xs (8 * t + 1)) (xs (8 * t + 2)) (xs (8 * t + 3))) rfl rfl (Nat.le_of_ble_eq_true rfl) (Nat.le_of_ble_eq_true rfl) (pay_in htg (wG_I (fun _ h => h) q_469)) List.mem_cons_self (htg _ q_469) (htg _ q_0) (htg _ q_468) (htg _ q_467) (by decide +kernel) (show _ = some 5 by decide +kernel) (w_wrS hK (w_Pl hP) (w_Dl hD) hXx hNC) rfl hl.1 rfl (lv_room (Nat.le_of_ble_eq_true rfl)) dL_law_712 hcs) hP hD hS hA (fun r9 x9 H locs hp9 hP hD hS => ?_)
  refine lv_istore (lv' := [(5, .int r9), (4, .int (nI (8 * t))), (3, .ref o), (2, .ref (r 0)), (1, .ref (a 0)), (0, .ref b)]) hx hb dL_law_715 hl (by decide) rfl (fun ls hl => ?_)
  refine lv_aload_n hx hb dL_law_717 rfl (lv_at hl 3 rfl) ?_
  refine lv_aload_n hx hb dL_law_718 rfl (lv_at hl 5 rfl) ?_
  refine lv_iload hx hb dL_law_719 (lv_at hl 1 rfl) ?_
  refine lv_iconst (v := 1) hx hb dL_law_721 (by decide) ?_
  refine lv_iadd hx hb dL_law_722 ?_
  refine wtopi (nI (8 * t + 1)) (nI_add (8 * t) 1) ?_
  refine va_sld hx hb hX hbl hbA hS (vp_in_nI (n := 8 * t + 1) (N := L) (by omega) (by omega)) dL_law_723 ?_
  refine wtopi (xs (8 * t + 1)) (congrArg xs (nI_clamp (n := 8 * t + 1) (by omega))) ?_
  refine lv_aload_n hx hb dL_law_724 rfl (lv_at hl 5 rfl) ?_
  refine lv_iload hx hb dL_law_725 (lv_at hl 1 rfl) ?_
  refine lv_iconst (v := 2) hx hb dL_law_727 (by decide) ?_
  refine lv_iadd hx hb dL_law_728 ?_
  refine wtopi (nI (8 * t + 2)) (nI_add (8 * t) 2) ?_
  refine va_sld hx hb hX hbl hbA hS (vp_in_nI (n := 8 * t + 2) (N := L) (by omega) (by omega)) dL_law_729 ?_
  refine wtopi (xs (8 * t + 2)) (congrArg xs (nI_clamp (n := 8 * t + 2) (by omega))) ?_
  refine lv_aload_n hx hb dL_law_730 rfl (lv_at hl 5 rfl) ?_
  refine lv_iload hx hb dL_law_731 (lv_at hl 1 rfl) ?_
  refine lv_iconst (v := 3) hx hb dL_law_733 (by decide) ?_
  refine lv_iadd hx hb dL_law_734 ?_
  refine wtopi (nI (8 * t + 3)) (nI_add (8 * t) 3) ?_
  refine va_sld hx hb hX hbl hbA hS (vp_in_nI (n := 8 * t + 3) (N := L) (by omega) (by omega)) dL_law_735 ?_
  refine wtopi (xs (8 * t + 3)) (congrArg xs (nI_clamp (n := 8 * t + 3) (by omega))) ?_
  have hP := w_Psw hP
  have hD := w_Dsw hD
  refine w_calli (w := wR r k) (va_runV (cc := cL_law) (Ts := wG) (As := [.int (xs (8 * t + 1)), .int (xs (8 * t + 2)), .int (xs (8 * t + 3))]) (rest := []) ⟨hx, hb, hml, hown, htg⟩ (c_X6_part l dC dI r k v _ hR.mok (xs (8 * t + 1)) (xs (8 * t + 2)) (xs (8 * t + 3))) (cwV 3 htg (wG_V (fun _ h => h) q_726 q_727 q_728 q_7 q_729) rfl rfl rfl (by decide +kernel) ⟨Nat.le_of_ble_eq_true rfl, Nat.le_of_ble_eq_true rfl⟩) (w_muV hK (w_Pl hP) (w_Dl hD) (ci := 6) (q0 := 0) rfl (wR_g0 r k _) rfl) rfl rfl hl.1 rfl (lv_room (Nat.le_of_ble_eq_true rfl)) dL_law_736 ⟨by show cells + 1 + 0 ≤ 1088; omega, by show slots + 6 + 0 ≤ 17721; omega⟩) hP hD hS hA (fun b9 v9 H locs hq9 hP hD hS => ?_)
  refine lv_istore (lv' := [(6, .int b9), (5, .int r9), (4, .int (nI (8 * t))), (3, .ref o), (2, .ref (r 0)), (1, .ref (a 0)), (0, .ref b)]) hx hb dL_law_739 hl (by decide) rfl (fun ls hl => ?_)
  refine lv_aload_n hx hb dL_law_741 rfl (lv_at hl 4 rfl) ?_
  obtain ⟨g1, g2, g3, g4⟩ := hp9 b9 v9 hq9
  refine vp_callSi (W.runV (cc := cL_law) (Ts := wG) (As := []) (rest := []) ⟨hx, hb, hml, hown, htg⟩ (c_X6_thrown l dC dI r k v9) (cwV 0 htg (wG_V (fun _ h => h) q_642 q_643 q_644 q_7 q_645) rfl rfl rfl (by decide +kernel) ⟨Nat.le_of_ble_eq_true rfl, Nat.le_of_ble_eq_true rfl⟩) (w_roV hK (w_Pl hP) (ci := 6) (q0 := 0) rfl (wR_g0 r k _) rfl) rfl rfl hl.1 rfl (lv_room (Nat.le_of_ble_eq_true rfl)) dL_law_742 ⟨by show cells + 1 + 0 ≤ 1088; omega, by show slots + 6 + 0 ≤ 17721; omega⟩) (fun rt hrt => ?_)
  subst hrt
  refine lv_iload hx hb dL_law_745 (lv_at hl 1 rfl) ?_
  refine lv_icmp_eq (tgt := 752) hx hb dL_law_747 (by decide) (fun c_747 => ?_) (fun c_747 => ?_)
  · refine lv_iload hx hb dL_law_752 (lv_at hl 1 rfl) ?_
    refine lv_if_ne (tgt := 769) hx hb dL_law_754 (by decide) (fun c_754 => ?_) (fun c_754 => ?_)
    · refine lv_goto (tgt := 1375) hx hb dL_law_769 (by decide) ?_
      exact kk x9 v9 H locs ls ⟨g3, by omega, w_Psw hP, w_Dsw hD, hS, lv_sub hl [2,3,4,5,6] rfl⟩
    · have c_ne := c_754
      refine lv_aload_n hx hb dL_law_757 rfl (lv_at hl 3 rfl) ?_
      refine lv_iconst (v := 0) hx hb dL_law_758 (by decide) ?_
      refine va_lald hx hb hK hP 42 1 (wL_g26 a o r k _ _) rfl (i := 0) vp_in01 dL_law_759 ?_
      refine wtopl (x9.2 0) (by rfl) ?_
      refine lv_iload hx hb dL_law_760 (lv_at hl 0 rfl) ?_
      refine lv_i2l hx hb dL_law_762 rfl ?_
      refine W.lcmp hx hb dL_law_763 ?_
      refine wtopi 0 (lg_same (g2 c_ne)) ?_
      refine lv_if_eq (tgt := 769) hx hb dL_law_764 (by decide) (fun _ => ?_) (fun h9 => absurd h9 (by decide))
      refine lv_goto (tgt := 1375) hx hb dL_law_769 (by decide) ?_
      exact kk x9 v9 H locs ls ⟨g3, by omega, w_Psw hP, w_Dsw hD, hS, lv_sub hl [2,3,4,5,6] rfl⟩
  · exact absurd g1.symm c_747
set_option maxHeartbeats 8000000 in
set_option maxRecDepth 100000 in
theorem law_size {p : Program} {l : Launch} {e : Env} {s : State} {m : MethodId} {below : List Frame} {meth : Method} {c : Code} {b L : Nat} {xs : Nat → Int32} {dC : Nat → ClassId} {dI : Nat → Nat → Nat} {k : c_K} {a : Nat → Nat} {o : Nat} {r : Nat → Nat} {x : c_X} {v : c_St} {H : Heap} {locs : List Loc} {ls : Array Slot} {cells slots t : Nat} {Q : State → Prop} (hC : law_C p l s m c b L xs dC dI k) (ht : 8 * t + 8 ≤ L) (hI : law_I s b dC dI k a o r x v t t H locs ls) (hcs : cells + 1 ≤ 1088 ∧ slots + 6 ≤ 17721)
    (kk : ∀ (x1 : c_X) (v1 : c_St) (H1 : Heap) (locs1 : List Loc) (ls1 : Array Slot), law_I s b dC dI k a o r x1 v1 (t + 1) t H1 locs1 ls1 → W p l e room_1 s m #[Value.ref b] below meth c H1 locs1 (cells + 1) (slots + 6) Q (F0 m 1375 ls1 [])) : W p l e room_1 s m #[Value.ref b] below meth c H locs cells slots Q (F0 m 772 ls []) := by
  obtain ⟨hx, hb, hml, hown, htg, hX, hbl, hK, hX0, hNC, hst, hL⟩ := hC
  obtain ⟨hR, hN4, hP, hD, hS, hl⟩ := hI
  have hbA : ¬ s.heap.size ≤ b := by omega
  have hA : ∀ q : Nat, s.heap.size ≤ q → (fun q => s.heap.size ≤ q) q := fun q h => h
  refine lv_aload_n hx hb dL_law_772 rfl (lv_at hl 3 rfl) ?_
  refine lv_aload_n hx hb dL_law_773 rfl (lv_at hl 4 rfl) ?_
  refine lv_iload hx hb dL_law_774 (lv_at hl 0 rfl) ?_
  refine lv_iconst (v := 1) hx hb dL_law_776 (by decide) ?_
  refine lv_iadd hx hb dL_law_777 ?_
  refine wtopi (nI (8 * t + 1)) (nI_add (8 * t) 1) ?_
  refine va_sld hx hb hX hbl hbA hS (vp_in_nI (n := 8 * t + 1) (N := L) (by omega) (by omega)) dL_law_778 ?_
  refine wtopi (xs (8 * t + 1)) (congrArg xs (nI_clamp (n := 8 * t + 1) (by omega))) ?_
  refine lv_aload_n hx hb dL_law_779 rfl (lv_at hl 4 rfl) ?_
  refine lv_iload hx hb dL_law_780 (lv_at hl 0 rfl) ?_
  refine lv_iconst (v := 2) hx hb dL_law_782 (by decide) ?_
  refine lv_iadd hx hb dL_law_783 ?_
  refine wtopi (nI (8 * t + 2)) (nI_add (8 * t) 2) ?_
  refine va_sld hx hb hX hbl hbA hS (vp_in_nI (n := 8 * t + 2) (N := L) (by omega) (by omega)) dL_law_784 ?_
  refine wtopi (xs (8 * t + 2)) (congrArg xs (nI_clamp (n := 8 * t + 2) (by omega))) ?_
  have hPc : va_P (dC, dI) vwCl (wC a k x.1 ++ wO o k x.2) H := w_Pl hP
  refine vp_callSi (W.runV (cc := cL_law) (Ts := wG) (As := [.int (xs (8 * t + 1)), .int (xs (8 * t + 2))]) (rest := []) ⟨hx, hb, hml, hown, htg⟩ (c_X5_size l dC dI a k x.1 hR.1 (by have := hR.2.1.1; have := hR.1.1; omega) (fun j hj => (hR.2.1.2.1 j hj).1) (xs (8 * t + 1)) (xs (8 * t + 2))) (cwV 2 htg (wG_V (fun _ h => h) q_179 q_180 q_181 q_1 q_182) rfl rfl rfl (by decide +kernel) ⟨Nat.le_of_ble_eq_true rfl, Nat.le_of_ble_eq_true rfl⟩) (w_roV hK (w_Pl hPc) (ci := 5) (q0 := 0) rfl (wC_g0 a k _) rfl) rfl rfl hl.1 rfl (lv_room (Nat.le_of_ble_eq_true rfl)) dL_law_785 ⟨by show cells + 0 ≤ 1088; omega, by show slots + 0 ≤ 17721; omega⟩) (fun rt hrt => ?_)
  subst hrt
  refine lv_aload_n hx hb dL_law_788 rfl (lv_at hl 2 rfl) ?_
  refine lv_aload_n hx hb dL_law_789 rfl (lv_at hl 4 rfl) ?_
  refine lv_iload hx hb dL_law_790 (lv_at hl 0 rfl) ?_
  refine lv_iconst (v := 1) hx hb dL_law_792 (by decide) ?_
  refine lv_iadd hx hb dL_law_793 ?_
  refine wtopi (nI (8 * t + 1)) (nI_add (8 * t) 1) ?_
  refine va_sld hx hb hX hbl hbA hS (vp_in_nI (n := 8 * t + 1) (N := L) (by omega) (by omega)) dL_law_794 ?_
  refine wtopi (xs (8 * t + 1)) (congrArg xs (nI_clamp (n := 8 * t + 1) (by omega))) ?_
  refine lv_aload_n hx hb dL_law_795 rfl (lv_at hl 4 rfl) ?_
  refine lv_iload hx hb dL_law_796 (lv_at hl 0 rfl) ?_
  refine lv_iconst (v := 2) hx hb dL_law_798 (by decide) ?_
  refine lv_iadd hx hb dL_law_799 ?_
  refine wtopi (nI (8 * t + 2)) (nI_add (8 * t) 2) ?_
  refine va_sld hx hb hX hbl hbA hS (vp_in_nI (n := 8 * t + 2) (N := L) (by omega) (by omega)) dL_law_800 ?_
  refine wtopi (xs (8 * t + 2)) (congrArg xs (nI_clamp (n := 8 * t + 2) (by omega))) ?_
  have hP := w_Psw hP
  have hD := w_Dsw hD
  refine w_calli (w := wR r k) (va_runV (cc := cL_law) (Ts := wG) (As := [.int (xs (8 * t + 1)), .int (xs (8 * t + 2))]) (rest := [.int (nI (c_sz x.1 (xs (8 * t + 1)) (xs (8 * t + 2)) (cu_N x.1 2)))]) ⟨hx, hb, hml, hown, htg⟩ (c_X6_size l dC dI r k v _ hR.mok (xs (8 * t + 1)) (xs (8 * t + 2))) (cwV 2 htg (wG_V (fun _ h => h) q_734 q_735 q_736 q_7 q_737) rfl rfl rfl (by decide +kernel) ⟨Nat.le_of_ble_eq_true rfl, Nat.le_of_ble_eq_true rfl⟩) (w_muV hK (w_Pl hP) (w_Dl hD) (ci := 6) (q0 := 0) rfl (wR_g0 r k _) rfl) rfl rfl hl.1 rfl (lv_room (Nat.le_of_ble_eq_true rfl)) dL_law_801 ⟨by show cells + 0 ≤ 1088; omega, by show slots + 0 ≤ 17721; omega⟩) hP hD hS hA (fun b9 v9 H locs hq9 hP hD hS => ?_)
  obtain ⟨e1, e2⟩ := hq9
  subst e1
  have e9 : nI (c_sz x.1 (xs (8 * t + 1)) (xs (8 * t + 2)) (cu_N x.1 2)) = b9 := by rw [e2, (hR.th 0).sz]
  refine lv_icmp_eq (tgt := 1375) hx hb dL_law_804 (by decide) (fun c_804 => ?_) (fun c_804 => ?_)
  · refine W.widen (k := cells + 1) (n := slots + 6) (by omega) (by omega) ?_
    exact kk x (cs_N v 4 0) H locs ls ⟨hR.th 0, by omega, w_Psw hP, w_Dsw hD, hS, lv_sub hl [0,1,2,3,4] rfl⟩
  · exact absurd e9 c_804
set_option maxHeartbeats 8000000 in
set_option maxRecDepth 100000 in
theorem law_export {p : Program} {l : Launch} {e : Env} {s : State} {m : MethodId} {below : List Frame} {meth : Method} {c : Code} {b L : Nat} {xs : Nat → Int32} {dC : Nat → ClassId} {dI : Nat → Nat → Nat} {k : c_K} {a : Nat → Nat} {o : Nat} {r : Nat → Nat} {x : c_X} {v : c_St} {H : Heap} {locs : List Loc} {ls : Array Slot} {cells slots t : Nat} {Q : State → Prop} (hC : law_C p l s m c b L xs dC dI k) (ht : 8 * t + 8 ≤ L) (hI : law_I s b dC dI k a o r x v t t H locs ls) (hcs : cells + 1 ≤ 1088 ∧ slots + 6 ≤ 17721)
    (kk : ∀ (x1 : c_X) (v1 : c_St) (H1 : Heap) (locs1 : List Loc) (ls1 : Array Slot), law_I s b dC dI k a o r x1 v1 (t + 1) t H1 locs1 ls1 → W p l e room_1 s m #[Value.ref b] below meth c H1 locs1 (cells + 1) (slots + 6) Q (F0 m 1375 ls1 [])) : W p l e room_1 s m #[Value.ref b] below meth c H locs cells slots Q (F0 m 809 ls []) := by
  obtain ⟨hx, hb, hml, hown, htg, hX, hbl, hK, hX0, hNC, hst, hL⟩ := hC
  obtain ⟨hR, hN4, hP, hD, hS, hl⟩ := hI
  have hbA : ¬ s.heap.size ≤ b := by omega
  have hA : ∀ q : Nat, s.heap.size ≤ q → (fun q => s.heap.size ≤ q) q := fun q h => h
  refine lv_aload_n hx hb dL_law_809 rfl (lv_at hl 3 rfl) ?_
  refine lv_aload_n hx hb dL_law_810 rfl (lv_at hl 4 rfl) ?_
  refine lv_iload hx hb dL_law_811 (lv_at hl 0 rfl) ?_
  refine lv_iconst (v := 1) hx hb dL_law_813 (by decide) ?_
  refine lv_iadd hx hb dL_law_814 ?_
  refine wtopi (nI (8 * t + 1)) (nI_add (8 * t) 1) ?_
  refine va_sld hx hb hX hbl hbA hS (vp_in_nI (n := 8 * t + 1) (N := L) (by omega) (by omega)) dL_law_815 ?_
  refine wtopi (xs (8 * t + 1)) (congrArg xs (nI_clamp (n := 8 * t + 1) (by omega))) ?_
  refine lv_aload_n hx hb dL_law_816 rfl (lv_at hl 4 rfl) ?_
  refine lv_iload hx hb dL_law_817 (lv_at hl 0 rfl) ?_
  refine lv_iconst (v := 2) hx hb dL_law_819 (by decide) ?_
  refine lv_iadd hx hb dL_law_820 ?_
  refine wtopi (nI (8 * t + 2)) (nI_add (8 * t) 2) ?_
  refine va_sld hx hb hX hbl hbA hS (vp_in_nI (n := 8 * t + 2) (N := L) (by omega) (by omega)) dL_law_821 ?_
  refine wtopi (xs (8 * t + 2)) (congrArg xs (nI_clamp (n := 8 * t + 2) (by omega))) ?_
  have hPc : va_P (dC, dI) vwCl (wC a k x.1 ++ wO o k x.2) H := w_Pl hP
  refine vp_callSi (W.runV (cc := cL_law) (Ts := wG) (As := [.int (xs (8 * t + 1)), .int (xs (8 * t + 2))]) (rest := []) ⟨hx, hb, hml, hown, htg⟩ (c_X5_export l dC dI a k x.1 hR.1 (by have := hR.2.1.1; have := hR.1.1; omega) (fun j hj => (hR.2.1.2.1 j hj).1) (xs (8 * t + 1)) (xs (8 * t + 2))) (cwV 2 htg (wG_V (fun _ h => h) q_205 q_206 q_207 q_1 q_208) rfl rfl rfl (by decide +kernel) ⟨Nat.le_of_ble_eq_true rfl, Nat.le_of_ble_eq_true rfl⟩) (w_roV hK (w_Pl hPc) (ci := 5) (q0 := 0) rfl (wC_g0 a k _) rfl) rfl rfl hl.1 rfl (lv_room (Nat.le_of_ble_eq_true rfl)) dL_law_822 ⟨by show cells + 0 ≤ 1088; omega, by show slots + 0 ≤ 17721; omega⟩) (fun rt hrt => ?_)
  subst hrt
  refine lv_aload_n hx hb dL_law_825 rfl (lv_at hl 2 rfl) ?_
  refine lv_aload_n hx hb dL_law_826 rfl (lv_at hl 4 rfl) ?_
  refine lv_iload hx hb dL_law_827 (lv_at hl 0 rfl) ?_
  refine lv_iconst (v := 1) hx hb dL_law_829 (by decide) ?_
  refine lv_iadd hx hb dL_law_830 ?_
  refine wtopi (nI (8 * t + 1)) (nI_add (8 * t) 1) ?_
  refine va_sld hx hb hX hbl hbA hS (vp_in_nI (n := 8 * t + 1) (N := L) (by omega) (by omega)) dL_law_831 ?_
  refine wtopi (xs (8 * t + 1)) (congrArg xs (nI_clamp (n := 8 * t + 1) (by omega))) ?_
  refine lv_aload_n hx hb dL_law_832 rfl (lv_at hl 4 rfl) ?_
  refine lv_iload hx hb dL_law_833 (lv_at hl 0 rfl) ?_
  refine lv_iconst (v := 2) hx hb dL_law_835 (by decide) ?_
  refine lv_iadd hx hb dL_law_836 ?_
  refine wtopi (nI (8 * t + 2)) (nI_add (8 * t) 2) ?_
  refine va_sld hx hb hX hbl hbA hS (vp_in_nI (n := 8 * t + 2) (N := L) (by omega) (by omega)) dL_law_837 ?_
  refine wtopi (xs (8 * t + 2)) (congrArg xs (nI_clamp (n := 8 * t + 2) (by omega))) ?_
  have hP := w_Psw hP
  have hD := w_Dsw hD
  refine w_calli (w := wR r k) (va_runV (cc := cL_law) (Ts := wG) (As := [.int (xs (8 * t + 1)), .int (xs (8 * t + 2))]) (rest := [.int (c_ex x.1 (xs (8 * t + 1)) (xs (8 * t + 2)) (cu_N x.1 2))]) ⟨hx, hb, hml, hown, htg⟩ (c_X6_export l dC dI r k v _ hR.mok (xs (8 * t + 1)) (xs (8 * t + 2))) (cwV 2 htg (wG_V (fun _ h => h) q_738 q_739 q_740 q_7 q_741) rfl rfl rfl (by decide +kernel) ⟨Nat.le_of_ble_eq_true rfl, Nat.le_of_ble_eq_true rfl⟩) (w_muV hK (w_Pl hP) (w_Dl hD) (ci := 6) (q0 := 0) rfl (wR_g0 r k _) rfl) rfl rfl hl.1 rfl (lv_room (Nat.le_of_ble_eq_true rfl)) dL_law_838 ⟨by show cells + 0 ≤ 1088; omega, by show slots + 0 ≤ 17721; omega⟩) hP hD hS hA (fun b9 v9 H locs hq9 hP hD hS => ?_)
  obtain ⟨e1, e2⟩ := hq9
  subst e1
  have e9 : c_ex x.1 (xs (8 * t + 1)) (xs (8 * t + 2)) (cu_N x.1 2) = b9 := by obtain ⟨q, e2, e3, e4⟩ := e2; rw [e2, (hR.th 0).exq _ _ e3 e4]
  refine lv_icmp_eq (tgt := 1375) hx hb dL_law_841 (by decide) (fun c_841 => ?_) (fun c_841 => ?_)
  · refine W.widen (k := cells + 1) (n := slots + 6) (by omega) (by omega) ?_
    exact kk x (cs_N v 4 0) H locs ls ⟨hR.th 0, by omega, w_Psw hP, w_Dsw hD, hS, lv_sub hl [0,1,2,3,4] rfl⟩
  · exact absurd e9 c_841
set_option maxHeartbeats 8000000 in
set_option maxRecDepth 100000 in
theorem law_hold {p : Program} {l : Launch} {e : Env} {s : State} {m : MethodId} {below : List Frame} {meth : Method} {c : Code} {b L : Nat} {xs : Nat → Int32} {dC : Nat → ClassId} {dI : Nat → Nat → Nat} {k : c_K} {a : Nat → Nat} {o : Nat} {r : Nat → Nat} {x : c_X} {v : c_St} {H : Heap} {locs : List Loc} {ls : Array Slot} {cells slots t : Nat} {Q : State → Prop} (hC : law_C p l s m c b L xs dC dI k) (ht : 8 * t + 8 ≤ L) (hI : law_I s b dC dI k a o r x v t t H locs ls) (hcs : cells + 1 ≤ 1088 ∧ slots + 6 ≤ 17721)
    (kk : ∀ (x1 : c_X) (v1 : c_St) (H1 : Heap) (locs1 : List Loc) (ls1 : Array Slot), law_I s b dC dI k a o r x1 v1 (t + 1) t H1 locs1 ls1 → W p l e room_1 s m #[Value.ref b] below meth c H1 locs1 (cells + 1) (slots + 6) Q (F0 m 1375 ls1 [])) : W p l e room_1 s m #[Value.ref b] below meth c H locs cells slots Q (F0 m 846 ls []) := by
  obtain ⟨hx, hb, hml, hown, htg, hX, hbl, hK, hX0, hNC, hst, hL⟩ := hC
  obtain ⟨hR, hN4, hP, hD, hS, hl⟩ := hI
  have hbA : ¬ s.heap.size ≤ b := by omega
  have hA : ∀ q : Nat, s.heap.size ≤ q → (fun q => s.heap.size ≤ q) q := fun q h => h
  refine lv_aload_n hx hb dL_law_846 rfl (lv_at hl 3 rfl) ?_
  refine lv_aload_n hx hb dL_law_847 rfl (lv_at hl 4 rfl) ?_
  refine lv_iload hx hb dL_law_848 (lv_at hl 0 rfl) ?_
  refine lv_iconst (v := 1) hx hb dL_law_850 (by decide) ?_
  refine lv_iadd hx hb dL_law_851 ?_
  refine wtopi (nI (8 * t + 1)) (nI_add (8 * t) 1) ?_
  refine va_sld hx hb hX hbl hbA hS (vp_in_nI (n := 8 * t + 1) (N := L) (by omega) (by omega)) dL_law_852 ?_
  refine wtopi (xs (8 * t + 1)) (congrArg xs (nI_clamp (n := 8 * t + 1) (by omega))) ?_
  refine lv_aload_n hx hb dL_law_853 rfl (lv_at hl 4 rfl) ?_
  refine lv_iload hx hb dL_law_854 (lv_at hl 0 rfl) ?_
  refine lv_iconst (v := 2) hx hb dL_law_856 (by decide) ?_
  refine lv_iadd hx hb dL_law_857 ?_
  refine wtopi (nI (8 * t + 2)) (nI_add (8 * t) 2) ?_
  refine va_sld hx hb hX hbl hbA hS (vp_in_nI (n := 8 * t + 2) (N := L) (by omega) (by omega)) dL_law_858 ?_
  refine wtopi (xs (8 * t + 2)) (congrArg xs (nI_clamp (n := 8 * t + 2) (by omega))) ?_
  refine lv_if_eq (tgt := 866) hx hb dL_law_859 (by decide) (fun c_859 => ?_) (fun c_859 => ?_)
  · refine lv_iconst (v := 0) hx hb dL_law_866 (by decide) ?_
    refine wtopi (y := bI false) rfl ?_
    have hXx : w_x (va_A (wL a o k x) H.size) s H := (hX0.kept (fun z h1 h2 => hS.2.1 z h1 h2)).narrow (fun q hq => w_F (w_Dl hD) hS hA q hq)
    refine w_calli (w := wL a o k) (x_runSW (cc := cL_law) (Ts := wG) (bytes := cL_hold) (maxL := 4) (ret := some .int) (hh := [(0, 6, 9, 13), (0, 6, 12, 37)]) (As := [.ref (a 0), .int (xs (8 * t + 1)), .int (bI false)]) (rest := []) ⟨hx, hb, hml, hown, htg⟩ (u_hold l dC dI a k x.1 o x.2 _ hst v hR (by omega) (xs (8 * t + 1)) false) rfl rfl (Nat.le_of_ble_eq_true rfl) (Nat.le_of_ble_eq_true rfl) (pay_in htg (wG_I (fun _ h => h) q_476)) List.mem_cons_self (htg _ q_476) (htg _ q_0) (htg _ q_475) (htg _ q_474) (by decide +kernel) (show _ = some 3 by decide +kernel) (w_wrS hK (w_Pl hP) (w_Dl hD) hXx hNC) rfl hl.1 rfl (lv_room (Nat.le_of_ble_eq_true rfl)) dL_law_867 hcs) hP hD hS hA (fun r9 x9 H locs hp9 hP hD hS => ?_)
    refine lv_istore (lv' := [(5, .int r9), (4, .int (nI (8 * t))), (3, .ref o), (2, .ref (r 0)), (1, .ref (a 0)), (0, .ref b)]) hx hb dL_law_870 hl (by decide) rfl (fun ls hl => ?_)
    refine lv_aload_n hx hb dL_law_872 rfl (lv_at hl 3 rfl) ?_
    refine lv_aload_n hx hb dL_law_873 rfl (lv_at hl 5 rfl) ?_
    refine lv_iload hx hb dL_law_874 (lv_at hl 1 rfl) ?_
    refine lv_iconst (v := 1) hx hb dL_law_876 (by decide) ?_
    refine lv_iadd hx hb dL_law_877 ?_
    refine wtopi (nI (8 * t + 1)) (nI_add (8 * t) 1) ?_
    refine va_sld hx hb hX hbl hbA hS (vp_in_nI (n := 8 * t + 1) (N := L) (by omega) (by omega)) dL_law_878 ?_
    refine wtopi (xs (8 * t + 1)) (congrArg xs (nI_clamp (n := 8 * t + 1) (by omega))) ?_
    refine lv_aload_n hx hb dL_law_879 rfl (lv_at hl 5 rfl) ?_
    refine lv_iload hx hb dL_law_880 (lv_at hl 1 rfl) ?_
    refine lv_iconst (v := 2) hx hb dL_law_882 (by decide) ?_
    refine lv_iadd hx hb dL_law_883 ?_
    refine wtopi (nI (8 * t + 2)) (nI_add (8 * t) 2) ?_
    refine va_sld hx hb hX hbl hbA hS (vp_in_nI (n := 8 * t + 2) (N := L) (by omega) (by omega)) dL_law_884 ?_
    refine wtopi (xs (8 * t + 2)) (congrArg xs (nI_clamp (n := 8 * t + 2) (by omega))) ?_
    refine lv_if_eq (tgt := 892) hx hb dL_law_885 (by decide) (fun _ => ?_) (fun h9 => absurd c_859 h9)
    refine lv_iconst (v := 0) hx hb dL_law_892 (by decide) ?_
    refine wtopi (y := bI false) rfl ?_
    have hP := w_Psw hP
    have hD := w_Dsw hD
    refine w_callv (w := wR r k) (va_runV (cc := cL_law) (Ts := wG) (As := [.int (xs (8 * t + 1)), .int (bI false)]) (rest := []) ⟨hx, hb, hml, hown, htg⟩ (c_X6_hold l dC dI r k v _  (xs (8 * t + 1)) false) (cwV 2 htg (wG_V (fun _ h => h) q_742 q_743 q_744 q_7 q_745) rfl rfl rfl (by decide +kernel) ⟨Nat.le_of_ble_eq_true rfl, Nat.le_of_ble_eq_true rfl⟩) (w_muV hK (w_Pl hP) (w_Dl hD) (ci := 6) (q0 := 0) rfl (wR_g0 r k _) rfl) rfl rfl hl.1 rfl (lv_room (Nat.le_of_ble_eq_true rfl)) dL_law_893 ⟨by show cells + 1 + 0 ≤ 1088; omega, by show slots + 6 + 0 ≤ 17721; omega⟩) hP hD hS hA (fun v9 H locs hq9 hP hD hS => ?_)
    refine lv_aload_n hx hb dL_law_896 rfl (lv_at hl 3 rfl) ?_
    obtain ⟨g1, g3, g4⟩ := hp9 v9 hq9
    refine vp_callSi (W.runV (cc := cL_law) (Ts := wG) (As := []) (rest := []) ⟨hx, hb, hml, hown, htg⟩ (c_X6_thrown l dC dI r k v9) (cwV 0 htg (wG_V (fun _ h => h) q_642 q_643 q_644 q_7 q_645) rfl rfl rfl (by decide +kernel) ⟨Nat.le_of_ble_eq_true rfl, Nat.le_of_ble_eq_true rfl⟩) (w_roV hK (w_Pl hP) (ci := 6) (q0 := 0) rfl (wR_g0 r k _) rfl) rfl rfl hl.1 rfl (lv_room (Nat.le_of_ble_eq_true rfl)) dL_law_897 ⟨by show cells + 1 + 0 ≤ 1088; omega, by show slots + 6 + 0 ≤ 17721; omega⟩) (fun rt hrt => ?_)
    subst hrt
    refine lv_iload hx hb dL_law_900 (lv_at hl 0 rfl) ?_
    refine lv_icmp_eq (tgt := 907) hx hb dL_law_902 (by decide) (fun c_902 => ?_) (fun c_902 => ?_)
    · refine lv_goto (tgt := 1375) hx hb dL_law_907 (by decide) ?_
      exact kk x9 v9 H locs ls ⟨g3, by omega, w_Psw hP, w_Dsw hD, hS, lv_sub hl [1,2,3,4,5] rfl⟩
    · exact absurd g1.symm c_902
  · refine lv_iconst (v := 1) hx hb dL_law_862 (by decide) ?_
    refine wtopi (y := bI true) rfl ?_
    refine lv_goto (tgt := 867) hx hb dL_law_863 (by decide) ?_
    have hXx : w_x (va_A (wL a o k x) H.size) s H := (hX0.kept (fun z h1 h2 => hS.2.1 z h1 h2)).narrow (fun q hq => w_F (w_Dl hD) hS hA q hq)
    refine w_calli (w := wL a o k) (x_runSW (cc := cL_law) (Ts := wG) (bytes := cL_hold) (maxL := 4) (ret := some .int) (hh := [(0, 6, 9, 13), (0, 6, 12, 37)]) (As := [.ref (a 0), .int (xs (8 * t + 1)), .int (bI true)]) (rest := []) ⟨hx, hb, hml, hown, htg⟩ (u_hold l dC dI a k x.1 o x.2 _ hst v hR (by omega) (xs (8 * t + 1)) true) rfl rfl (Nat.le_of_ble_eq_true rfl) (Nat.le_of_ble_eq_true rfl) (pay_in htg (wG_I (fun _ h => h) q_476)) List.mem_cons_self (htg _ q_476) (htg _ q_0) (htg _ q_475) (htg _ q_474) (by decide +kernel) (show _ = some 3 by decide +kernel) (w_wrS hK (w_Pl hP) (w_Dl hD) hXx hNC) rfl hl.1 rfl (lv_room (Nat.le_of_ble_eq_true rfl)) dL_law_867 hcs) hP hD hS hA (fun r9 x9 H locs hp9 hP hD hS => ?_)
    refine lv_istore (lv' := [(5, .int r9), (4, .int (nI (8 * t))), (3, .ref o), (2, .ref (r 0)), (1, .ref (a 0)), (0, .ref b)]) hx hb dL_law_870 hl (by decide) rfl (fun ls hl => ?_)
    refine lv_aload_n hx hb dL_law_872 rfl (lv_at hl 3 rfl) ?_
    refine lv_aload_n hx hb dL_law_873 rfl (lv_at hl 5 rfl) ?_
    refine lv_iload hx hb dL_law_874 (lv_at hl 1 rfl) ?_
    refine lv_iconst (v := 1) hx hb dL_law_876 (by decide) ?_
    refine lv_iadd hx hb dL_law_877 ?_
    refine wtopi (nI (8 * t + 1)) (nI_add (8 * t) 1) ?_
    refine va_sld hx hb hX hbl hbA hS (vp_in_nI (n := 8 * t + 1) (N := L) (by omega) (by omega)) dL_law_878 ?_
    refine wtopi (xs (8 * t + 1)) (congrArg xs (nI_clamp (n := 8 * t + 1) (by omega))) ?_
    refine lv_aload_n hx hb dL_law_879 rfl (lv_at hl 5 rfl) ?_
    refine lv_iload hx hb dL_law_880 (lv_at hl 1 rfl) ?_
    refine lv_iconst (v := 2) hx hb dL_law_882 (by decide) ?_
    refine lv_iadd hx hb dL_law_883 ?_
    refine wtopi (nI (8 * t + 2)) (nI_add (8 * t) 2) ?_
    refine va_sld hx hb hX hbl hbA hS (vp_in_nI (n := 8 * t + 2) (N := L) (by omega) (by omega)) dL_law_884 ?_
    refine wtopi (xs (8 * t + 2)) (congrArg xs (nI_clamp (n := 8 * t + 2) (by omega))) ?_
    refine lv_if_eq (tgt := 892) hx hb dL_law_885 (by decide) (fun h9 => absurd h9 c_859) (fun _ => ?_)
    refine lv_iconst (v := 1) hx hb dL_law_888 (by decide) ?_
    refine wtopi (y := bI true) rfl ?_
    refine lv_goto (tgt := 893) hx hb dL_law_889 (by decide) ?_
    have hP := w_Psw hP
    have hD := w_Dsw hD
    refine w_callv (w := wR r k) (va_runV (cc := cL_law) (Ts := wG) (As := [.int (xs (8 * t + 1)), .int (bI true)]) (rest := []) ⟨hx, hb, hml, hown, htg⟩ (c_X6_hold l dC dI r k v _  (xs (8 * t + 1)) true) (cwV 2 htg (wG_V (fun _ h => h) q_742 q_743 q_744 q_7 q_745) rfl rfl rfl (by decide +kernel) ⟨Nat.le_of_ble_eq_true rfl, Nat.le_of_ble_eq_true rfl⟩) (w_muV hK (w_Pl hP) (w_Dl hD) (ci := 6) (q0 := 0) rfl (wR_g0 r k _) rfl) rfl rfl hl.1 rfl (lv_room (Nat.le_of_ble_eq_true rfl)) dL_law_893 ⟨by show cells + 1 + 0 ≤ 1088; omega, by show slots + 6 + 0 ≤ 17721; omega⟩) hP hD hS hA (fun v9 H locs hq9 hP hD hS => ?_)
    refine lv_aload_n hx hb dL_law_896 rfl (lv_at hl 3 rfl) ?_
    obtain ⟨g1, g3, g4⟩ := hp9 v9 hq9
    refine vp_callSi (W.runV (cc := cL_law) (Ts := wG) (As := []) (rest := []) ⟨hx, hb, hml, hown, htg⟩ (c_X6_thrown l dC dI r k v9) (cwV 0 htg (wG_V (fun _ h => h) q_642 q_643 q_644 q_7 q_645) rfl rfl rfl (by decide +kernel) ⟨Nat.le_of_ble_eq_true rfl, Nat.le_of_ble_eq_true rfl⟩) (w_roV hK (w_Pl hP) (ci := 6) (q0 := 0) rfl (wR_g0 r k _) rfl) rfl rfl hl.1 rfl (lv_room (Nat.le_of_ble_eq_true rfl)) dL_law_897 ⟨by show cells + 1 + 0 ≤ 1088; omega, by show slots + 6 + 0 ≤ 17721; omega⟩) (fun rt hrt => ?_)
    subst hrt
    refine lv_iload hx hb dL_law_900 (lv_at hl 0 rfl) ?_
    refine lv_icmp_eq (tgt := 907) hx hb dL_law_902 (by decide) (fun c_902 => ?_) (fun c_902 => ?_)
    · refine lv_goto (tgt := 1375) hx hb dL_law_907 (by decide) ?_
      exact kk x9 v9 H locs ls ⟨g3, by omega, w_Psw hP, w_Dsw hD, hS, lv_sub hl [1,2,3,4,5] rfl⟩
    · exact absurd g1.symm c_902
set_option maxHeartbeats 8000000 in
set_option maxRecDepth 100000 in
theorem law_drop {p : Program} {l : Launch} {e : Env} {s : State} {m : MethodId} {below : List Frame} {meth : Method} {c : Code} {b L : Nat} {xs : Nat → Int32} {dC : Nat → ClassId} {dI : Nat → Nat → Nat} {k : c_K} {a : Nat → Nat} {o : Nat} {r : Nat → Nat} {x : c_X} {v : c_St} {H : Heap} {locs : List Loc} {ls : Array Slot} {cells slots t : Nat} {Q : State → Prop} (hC : law_C p l s m c b L xs dC dI k) (ht : 8 * t + 8 ≤ L) (hI : law_I s b dC dI k a o r x v t t H locs ls) (hcs : cells + 1 ≤ 1088 ∧ slots + 6 ≤ 17721)
    (kk : ∀ (x1 : c_X) (v1 : c_St) (H1 : Heap) (locs1 : List Loc) (ls1 : Array Slot), law_I s b dC dI k a o r x1 v1 (t + 1) t H1 locs1 ls1 → W p l e room_1 s m #[Value.ref b] below meth c H1 locs1 (cells + 1) (slots + 6) Q (F0 m 1375 ls1 [])) : W p l e room_1 s m #[Value.ref b] below meth c H locs cells slots Q (F0 m 910 ls []) := by
  obtain ⟨hx, hb, hml, hown, htg, hX, hbl, hK, hX0, hNC, hst, hL⟩ := hC
  obtain ⟨hR, hN4, hP, hD, hS, hl⟩ := hI
  have hbA : ¬ s.heap.size ≤ b := by omega
  have hA : ∀ q : Nat, s.heap.size ≤ q → (fun q => s.heap.size ≤ q) q := fun q h => h
  refine lv_aload_n hx hb dL_law_910 rfl (lv_at hl 3 rfl) ?_
  refine lv_aload_n hx hb dL_law_911 rfl (lv_at hl 4 rfl) ?_
  refine lv_iload hx hb dL_law_912 (lv_at hl 0 rfl) ?_
  refine lv_iconst (v := 1) hx hb dL_law_914 (by decide) ?_
  refine lv_iadd hx hb dL_law_915 ?_
  refine wtopi (nI (8 * t + 1)) (nI_add (8 * t) 1) ?_
  refine va_sld hx hb hX hbl hbA hS (vp_in_nI (n := 8 * t + 1) (N := L) (by omega) (by omega)) dL_law_916 ?_
  refine wtopi (xs (8 * t + 1)) (congrArg xs (nI_clamp (n := 8 * t + 1) (by omega))) ?_
  refine lv_aload_n hx hb dL_law_917 rfl (lv_at hl 1 rfl) ?_
  have hXx : w_x (va_A (wL a o k x) H.size) s H := (hX0.kept (fun z h1 h2 => hS.2.1 z h1 h2)).narrow (fun q hq => w_F (w_Dl hD) hS hA q hq)
  refine w_calli (w := wL a o k) (x_runSW (cc := cL_law) (Ts := wG) (bytes := cL_drop) (maxL := 4) (ret := some .int) (hh := [(0, 9, 12, 13), (0, 9, 15, 37)]) (As := [.ref (a 0), .int (xs (8 * t + 1)), .ref o]) (rest := []) ⟨hx, hb, hml, hown, htg⟩ (u_drop l dC dI a k x.1 o x.2 _ hst v hR (by omega) (xs (8 * t + 1))) rfl rfl (Nat.le_of_ble_eq_true rfl) (Nat.le_of_ble_eq_true rfl) (pay_in htg (wG_I (fun _ h => h) q_484)) List.mem_cons_self (htg _ q_484) (htg _ q_0) (htg _ q_483) (htg _ q_482) (by decide +kernel) (show _ = some 3 by decide +kernel) (w_wrS hK (w_Pl hP) (w_Dl hD) hXx hNC) rfl hl.1 rfl (lv_room (Nat.le_of_ble_eq_true rfl)) dL_law_918 hcs) hP hD hS hA (fun r9 x9 H locs hp9 hP hD hS => ?_)
  refine lv_istore (lv' := [(5, .int r9), (4, .int (nI (8 * t))), (3, .ref o), (2, .ref (r 0)), (1, .ref (a 0)), (0, .ref b)]) hx hb dL_law_921 hl (by decide) rfl (fun ls hl => ?_)
  refine lv_aload_n hx hb dL_law_923 rfl (lv_at hl 3 rfl) ?_
  refine lv_aload_n hx hb dL_law_924 rfl (lv_at hl 5 rfl) ?_
  refine lv_iload hx hb dL_law_925 (lv_at hl 1 rfl) ?_
  refine lv_iconst (v := 1) hx hb dL_law_927 (by decide) ?_
  refine lv_iadd hx hb dL_law_928 ?_
  refine wtopi (nI (8 * t + 1)) (nI_add (8 * t) 1) ?_
  refine va_sld hx hb hX hbl hbA hS (vp_in_nI (n := 8 * t + 1) (N := L) (by omega) (by omega)) dL_law_929 ?_
  refine wtopi (xs (8 * t + 1)) (congrArg xs (nI_clamp (n := 8 * t + 1) (by omega))) ?_
  have hP := w_Psw hP
  have hD := w_Dsw hD
  refine w_calli (w := wR r k) (va_runV (cc := cL_law) (Ts := wG) (As := [.int (xs (8 * t + 1))]) (rest := []) ⟨hx, hb, hml, hown, htg⟩ (c_X6_drop l dC dI r k v _ hR.mok (fun n hn hb => law_cert hR hn hb) (xs (8 * t + 1))) (cwV 1 htg (wG_V (fun _ h => h) q_746 q_747 q_748 q_7 q_749) rfl rfl rfl (by decide +kernel) ⟨Nat.le_of_ble_eq_true rfl, Nat.le_of_ble_eq_true rfl⟩) (w_muV hK (w_Pl hP) (w_Dl hD) (ci := 6) (q0 := 0) rfl (wR_g0 r k _) rfl) rfl rfl hl.1 rfl (lv_room (Nat.le_of_ble_eq_true rfl)) dL_law_930 ⟨by show cells + 1 + 0 ≤ 1088; omega, by show slots + 6 + 0 ≤ 17721; omega⟩) hP hD hS hA (fun b9 v9 H locs hq9 hP hD hS => ?_)
  refine lv_istore (lv' := [(6, .int b9), (5, .int r9), (4, .int (nI (8 * t))), (3, .ref o), (2, .ref (r 0)), (1, .ref (a 0)), (0, .ref b)]) hx hb dL_law_933 hl (by decide) rfl (fun ls hl => ?_)
  refine lv_aload_n hx hb dL_law_935 rfl (lv_at hl 4 rfl) ?_
  obtain ⟨g1, g2, g3, g4⟩ := hp9 b9 v9 hq9
  refine vp_callSi (W.runV (cc := cL_law) (Ts := wG) (As := []) (rest := []) ⟨hx, hb, hml, hown, htg⟩ (c_X6_thrown l dC dI r k v9) (cwV 0 htg (wG_V (fun _ h => h) q_642 q_643 q_644 q_7 q_645) rfl rfl rfl (by decide +kernel) ⟨Nat.le_of_ble_eq_true rfl, Nat.le_of_ble_eq_true rfl⟩) (w_roV hK (w_Pl hP) (ci := 6) (q0 := 0) rfl (wR_g0 r k _) rfl) rfl rfl hl.1 rfl (lv_room (Nat.le_of_ble_eq_true rfl)) dL_law_936 ⟨by show cells + 1 + 0 ≤ 1088; omega, by show slots + 6 + 0 ≤ 17721; omega⟩) (fun rt hrt => ?_)
  subst hrt
  refine lv_iload hx hb dL_law_939 (lv_at hl 1 rfl) ?_
  refine lv_icmp_eq (tgt := 946) hx hb dL_law_941 (by decide) (fun c_941 => ?_) (fun c_941 => ?_)
  · refine lv_iload hx hb dL_law_946 (lv_at hl 1 rfl) ?_
    refine lv_if_ne (tgt := 963) hx hb dL_law_948 (by decide) (fun c_948 => ?_) (fun c_948 => ?_)
    · refine lv_goto (tgt := 1375) hx hb dL_law_963 (by decide) ?_
      exact kk x9 v9 H locs ls ⟨g3, by omega, w_Psw hP, w_Dsw hD, hS, lv_sub hl [2,3,4,5,6] rfl⟩
    · have c_ne := c_948
      refine lv_aload_n hx hb dL_law_951 rfl (lv_at hl 3 rfl) ?_
      refine lv_iconst (v := 0) hx hb dL_law_952 (by decide) ?_
      refine va_lald hx hb hK hP 42 1 (wL_g26 a o r k _ _) rfl (i := 0) vp_in01 dL_law_953 ?_
      refine wtopl (x9.2 0) (by rfl) ?_
      refine lv_iload hx hb dL_law_954 (lv_at hl 0 rfl) ?_
      refine lv_i2l hx hb dL_law_956 rfl ?_
      refine W.lcmp hx hb dL_law_957 ?_
      refine wtopi 0 (lg_same (g2 c_ne)) ?_
      refine lv_if_eq (tgt := 963) hx hb dL_law_958 (by decide) (fun _ => ?_) (fun h9 => absurd h9 (by decide))
      refine lv_goto (tgt := 1375) hx hb dL_law_963 (by decide) ?_
      exact kk x9 v9 H locs ls ⟨g3, by omega, w_Psw hP, w_Dsw hD, hS, lv_sub hl [2,3,4,5,6] rfl⟩
  · exact absurd g1.symm c_941
set_option maxHeartbeats 8000000 in
set_option maxRecDepth 100000 in
theorem law_certificate {p : Program} {l : Launch} {e : Env} {s : State} {m : MethodId} {below : List Frame} {meth : Method} {c : Code} {b L : Nat} {xs : Nat → Int32} {dC : Nat → ClassId} {dI : Nat → Nat → Nat} {k : c_K} {a : Nat → Nat} {o : Nat} {r : Nat → Nat} {x : c_X} {v : c_St} {H : Heap} {locs : List Loc} {ls : Array Slot} {cells slots t : Nat} {Q : State → Prop} (hC : law_C p l s m c b L xs dC dI k) (ht : 8 * t + 8 ≤ L) (hI : law_I s b dC dI k a o r x v t t H locs ls) (hcs : cells + 1 ≤ 1088 ∧ slots + 6 ≤ 17721)
    (kk : ∀ (x1 : c_X) (v1 : c_St) (H1 : Heap) (locs1 : List Loc) (ls1 : Array Slot), law_I s b dC dI k a o r x1 v1 (t + 1) t H1 locs1 ls1 → W p l e room_1 s m #[Value.ref b] below meth c H1 locs1 (cells + 1) (slots + 6) Q (F0 m 1375 ls1 [])) : W p l e room_1 s m #[Value.ref b] below meth c H locs cells slots Q (F0 m 966 ls []) := by
  obtain ⟨hx, hb, hml, hown, htg, hX, hbl, hK, hX0, hNC, hst, hL⟩ := hC
  obtain ⟨hR, hN4, hP, hD, hS, hl⟩ := hI
  have hbA : ¬ s.heap.size ≤ b := by omega
  have hA : ∀ q : Nat, s.heap.size ≤ q → (fun q => s.heap.size ≤ q) q := fun q h => h
  refine lv_aload_n hx hb dL_law_966 rfl (lv_at hl 3 rfl) ?_
  refine lv_aload_n hx hb dL_law_967 rfl (lv_at hl 4 rfl) ?_
  refine lv_iload hx hb dL_law_968 (lv_at hl 0 rfl) ?_
  refine lv_iconst (v := 1) hx hb dL_law_970 (by decide) ?_
  refine lv_iadd hx hb dL_law_971 ?_
  refine wtopi (nI (8 * t + 1)) (nI_add (8 * t) 1) ?_
  refine va_sld hx hb hX hbl hbA hS (vp_in_nI (n := 8 * t + 1) (N := L) (by omega) (by omega)) dL_law_972 ?_
  refine wtopi (xs (8 * t + 1)) (congrArg xs (nI_clamp (n := 8 * t + 1) (by omega))) ?_
  refine lv_aload_n hx hb dL_law_973 rfl (lv_at hl 4 rfl) ?_
  refine lv_iload hx hb dL_law_974 (lv_at hl 0 rfl) ?_
  refine lv_iconst (v := 2) hx hb dL_law_976 (by decide) ?_
  refine lv_iadd hx hb dL_law_977 ?_
  refine wtopi (nI (8 * t + 2)) (nI_add (8 * t) 2) ?_
  refine va_sld hx hb hX hbl hbA hS (vp_in_nI (n := 8 * t + 2) (N := L) (by omega) (by omega)) dL_law_978 ?_
  refine wtopi (xs (8 * t + 2)) (congrArg xs (nI_clamp (n := 8 * t + 2) (by omega))) ?_
  refine lv_aload_n hx hb dL_law_979 rfl (lv_at hl 1 rfl) ?_
  have hXx : w_x (va_A (wL a o k x) H.size) s H := (hX0.kept (fun z h1 h2 => hS.2.1 z h1 h2)).narrow (fun q hq => w_F (w_Dl hD) hS hA q hq)
  refine w_calli (w := wL a o k) (x_runSW (cc := cL_law) (Ts := wG) (bytes := cL_certificate) (maxL := 5) (ret := some .int) (hh := [(0, 10, 13, 13)]) (As := [.ref (a 0), .int (xs (8 * t + 1)), .int (xs (8 * t + 2)), .ref o]) (rest := []) ⟨hx, hb, hml, hown, htg⟩ (u_certificate l dC dI a k x.1 o x.2 _ hst v hR (by omega) (xs (8 * t + 1)) (xs (8 * t + 2))) rfl rfl (Nat.le_of_ble_eq_true rfl) (Nat.le_of_ble_eq_true rfl) (pay_in htg (wG_I (fun _ h => h) q_500)) List.mem_cons_self (htg _ q_500) (htg _ q_0) (htg _ q_499) (htg _ q_498) (by decide +kernel) (show _ = some 4 by decide +kernel) (w_wrS hK (w_Pl hP) (w_Dl hD) hXx hNC) rfl hl.1 rfl (lv_room (Nat.le_of_ble_eq_true rfl)) dL_law_980 hcs) hP hD hS hA (fun r9 x9 H locs hp9 hP hD hS => ?_)
  refine lv_istore (lv' := [(5, .int r9), (4, .int (nI (8 * t))), (3, .ref o), (2, .ref (r 0)), (1, .ref (a 0)), (0, .ref b)]) hx hb dL_law_983 hl (by decide) rfl (fun ls hl => ?_)
  refine lv_aload_n hx hb dL_law_985 rfl (lv_at hl 3 rfl) ?_
  refine lv_aload_n hx hb dL_law_986 rfl (lv_at hl 5 rfl) ?_
  refine lv_iload hx hb dL_law_987 (lv_at hl 1 rfl) ?_
  refine lv_iconst (v := 1) hx hb dL_law_989 (by decide) ?_
  refine lv_iadd hx hb dL_law_990 ?_
  refine wtopi (nI (8 * t + 1)) (nI_add (8 * t) 1) ?_
  refine va_sld hx hb hX hbl hbA hS (vp_in_nI (n := 8 * t + 1) (N := L) (by omega) (by omega)) dL_law_991 ?_
  refine wtopi (xs (8 * t + 1)) (congrArg xs (nI_clamp (n := 8 * t + 1) (by omega))) ?_
  refine lv_aload_n hx hb dL_law_992 rfl (lv_at hl 5 rfl) ?_
  refine lv_iload hx hb dL_law_993 (lv_at hl 1 rfl) ?_
  refine lv_iconst (v := 2) hx hb dL_law_995 (by decide) ?_
  refine lv_iadd hx hb dL_law_996 ?_
  refine wtopi (nI (8 * t + 2)) (nI_add (8 * t) 2) ?_
  refine va_sld hx hb hX hbl hbA hS (vp_in_nI (n := 8 * t + 2) (N := L) (by omega) (by omega)) dL_law_997 ?_
  refine wtopi (xs (8 * t + 2)) (congrArg xs (nI_clamp (n := 8 * t + 2) (by omega))) ?_
  have hP := w_Psw hP
  have hD := w_Dsw hD
  refine w_calli (w := wR r k) (va_runV (cc := cL_law) (Ts := wG) (As := [.int (xs (8 * t + 1)), .int (xs (8 * t + 2))]) (rest := []) ⟨hx, hb, hml, hown, htg⟩ (c_X6_certificate l dC dI r k v _ (law_ct hR).1 (law_ct hR).2 (xs (8 * t + 1)) (xs (8 * t + 2))) (cwV 2 htg (wG_V (fun _ h => h) q_750 q_751 q_752 q_7 q_753) rfl rfl rfl (by decide +kernel) ⟨Nat.le_of_ble_eq_true rfl, Nat.le_of_ble_eq_true rfl⟩) (w_muV hK (w_Pl hP) (w_Dl hD) (ci := 6) (q0 := 0) rfl (wR_g0 r k _) rfl) rfl rfl hl.1 rfl (lv_room (Nat.le_of_ble_eq_true rfl)) dL_law_998 ⟨by show cells + 1 + 0 ≤ 1088; omega, by show slots + 6 + 0 ≤ 17721; omega⟩) hP hD hS hA (fun b9 v9 H locs hq9 hP hD hS => ?_)
  refine lv_istore (lv' := [(6, .int b9), (5, .int r9), (4, .int (nI (8 * t))), (3, .ref o), (2, .ref (r 0)), (1, .ref (a 0)), (0, .ref b)]) hx hb dL_law_1001 hl (by decide) rfl (fun ls hl => ?_)
  refine lv_aload_n hx hb dL_law_1003 rfl (lv_at hl 4 rfl) ?_
  obtain ⟨g1, g2, g3, g4⟩ := hp9 b9 v9 hq9
  refine vp_callSi (W.runV (cc := cL_law) (Ts := wG) (As := []) (rest := []) ⟨hx, hb, hml, hown, htg⟩ (c_X6_thrown l dC dI r k v9) (cwV 0 htg (wG_V (fun _ h => h) q_642 q_643 q_644 q_7 q_645) rfl rfl rfl (by decide +kernel) ⟨Nat.le_of_ble_eq_true rfl, Nat.le_of_ble_eq_true rfl⟩) (w_roV hK (w_Pl hP) (ci := 6) (q0 := 0) rfl (wR_g0 r k _) rfl) rfl rfl hl.1 rfl (lv_room (Nat.le_of_ble_eq_true rfl)) dL_law_1004 ⟨by show cells + 1 + 0 ≤ 1088; omega, by show slots + 6 + 0 ≤ 17721; omega⟩) (fun rt hrt => ?_)
  subst hrt
  refine lv_iload hx hb dL_law_1007 (lv_at hl 1 rfl) ?_
  refine lv_icmp_eq (tgt := 1014) hx hb dL_law_1009 (by decide) (fun c_1009 => ?_) (fun c_1009 => ?_)
  · refine lv_iload hx hb dL_law_1014 (lv_at hl 1 rfl) ?_
    refine lv_if_ne (tgt := 1031) hx hb dL_law_1016 (by decide) (fun c_1016 => ?_) (fun c_1016 => ?_)
    · refine lv_goto (tgt := 1375) hx hb dL_law_1031 (by decide) ?_
      exact kk x9 v9 H locs ls ⟨g3, by omega, w_Psw hP, w_Dsw hD, hS, lv_sub hl [2,3,4,5,6] rfl⟩
    · have c_ne := c_1016
      refine lv_aload_n hx hb dL_law_1019 rfl (lv_at hl 3 rfl) ?_
      refine lv_iconst (v := 0) hx hb dL_law_1020 (by decide) ?_
      refine va_lald hx hb hK hP 42 1 (wL_g26 a o r k _ _) rfl (i := 0) vp_in01 dL_law_1021 ?_
      refine wtopl (x9.2 0) (by rfl) ?_
      refine lv_iload hx hb dL_law_1022 (lv_at hl 0 rfl) ?_
      refine lv_i2l hx hb dL_law_1024 rfl ?_
      refine W.lcmp hx hb dL_law_1025 ?_
      refine wtopi 0 (lg_same (g2 c_ne)) ?_
      refine lv_if_eq (tgt := 1031) hx hb dL_law_1026 (by decide) (fun _ => ?_) (fun h9 => absurd h9 (by decide))
      refine lv_goto (tgt := 1375) hx hb dL_law_1031 (by decide) ?_
      exact kk x9 v9 H locs ls ⟨g3, by omega, w_Psw hP, w_Dsw hD, hS, lv_sub hl [2,3,4,5,6] rfl⟩
  · exact absurd g1.symm c_1009
