set_option maxHeartbeats 8000000 in
set_option maxRecDepth 100000 in
theorem law_right {p : Program} {l : Launch} {e : Env} {s : State} {m : MethodId} {below : List Frame} {meth : Method} {c : Code} {b L : Nat} {xs : Nat → Int32} {dC : Nat → ClassId} {dI : Nat → Nat → Nat} {k : c_K} {a : Nat → Nat} {o : Nat} {r : Nat → Nat} {x : c_X} {v : c_St} {H : Heap} {locs : List Loc} {ls : Array Slot} {cells slots t : Nat} {Q : State → Prop} (hC : law_C p l s m c b L xs dC dI k) (ht : 8 * t + 8 ≤ L) (hI : law_I s b dC dI k a o r x v t t H locs ls) (hcs : cells + 1 ≤ 1088 ∧ slots + 6 ≤ 17721)
    (kk : ∀ (x1 : c_X) (v1 : c_St) (H1 : Heap) (locs1 : List Loc) (ls1 : Array Slot), law_I s b dC dI k a o r x1 v1 (t + 1) t H1 locs1 ls1 → W p l e room_1 s m #[Value.ref b] below meth c H1 locs1 (cells + 1) (slots + 6) Q (F0 m 1375 ls1 [])) : W p l e room_1 s m #[Value.ref b] below meth c H locs cells slots Q (F0 m 1034 ls []) := by
  obtain ⟨hx, hb, hml, hown, htg, hX, hbl, hK, hX0, hNC, hst, hL⟩ := hC
  obtain ⟨hR, hN4, hP, hD, hS, hl⟩ := hI
  have hbA : ¬ s.heap.size ≤ b := by omega
  have hA : ∀ q : Nat, s.heap.size ≤ q → (fun q => s.heap.size ≤ q) q := fun q h => h
  refine lv_aload_n hx hb dL_law_1034 rfl (lv_at hl 3 rfl) ?_
  refine lv_aload_n hx hb dL_law_1035 rfl (lv_at hl 4 rfl) ?_
  refine lv_iload hx hb dL_law_1036 (lv_at hl 0 rfl) ?_
  refine lv_iconst (v := 1) hx hb dL_law_1038 (by decide) ?_
  refine lv_iadd hx hb dL_law_1039 ?_
  refine wtopi (nI (8 * t + 1)) (nI_add (8 * t) 1) ?_
  refine va_sld hx hb hX hbl hbA hS (vp_in_nI (n := 8 * t + 1) (N := L) (by omega) (by omega)) dL_law_1040 ?_
  refine wtopi (xs (8 * t + 1)) (congrArg xs (nI_clamp (n := 8 * t + 1) (by omega))) ?_
  refine lv_aload_n hx hb dL_law_1041 rfl (lv_at hl 4 rfl) ?_
  refine lv_iload hx hb dL_law_1042 (lv_at hl 0 rfl) ?_
  refine lv_iconst (v := 2) hx hb dL_law_1044 (by decide) ?_
  refine lv_iadd hx hb dL_law_1045 ?_
  refine wtopi (nI (8 * t + 2)) (nI_add (8 * t) 2) ?_
  refine va_sld hx hb hX hbl hbA hS (vp_in_nI (n := 8 * t + 2) (N := L) (by omega) (by omega)) dL_law_1046 ?_
  refine wtopi (xs (8 * t + 2)) (congrArg xs (nI_clamp (n := 8 * t + 2) (by omega))) ?_
  refine lv_aload_n hx hb dL_law_1047 rfl (lv_at hl 4 rfl) ?_
  refine lv_iload hx hb dL_law_1048 (lv_at hl 0 rfl) ?_
  refine lv_iconst (v := 3) hx hb dL_law_1050 (by decide) ?_
  refine lv_iadd hx hb dL_law_1051 ?_
  refine wtopi (nI (8 * t + 3)) (nI_add (8 * t) 3) ?_
  refine va_sld hx hb hX hbl hbA hS (vp_in_nI (n := 8 * t + 3) (N := L) (by omega) (by omega)) dL_law_1052 ?_
  refine wtopi (xs (8 * t + 3)) (congrArg xs (nI_clamp (n := 8 * t + 3) (by omega))) ?_
  refine lv_if_eq (tgt := 1060) hx hb dL_law_1053 (by decide) (fun c_1053 => ?_) (fun c_1053 => ?_)
  · refine lv_iconst (v := 0) hx hb dL_law_1060 (by decide) ?_
    refine wtopi (y := bI false) rfl ?_
    have hXx : w_x (va_A (wL a o k x) H.size) s H := (hX0.kept (fun z h1 h2 => hS.2.1 z h1 h2)).narrow (fun q hq => w_F (w_Dl hD) hS hA q hq)
    refine w_calli (w := wL a o k) (x_runSW (cc := cL_law) (Ts := wG) (bytes := cL_right) (maxL := 5) (ret := some .int) (hh := [(0, 7, 10, 13)]) (As := [.ref (a 0), .int (xs (8 * t + 1)), .int (xs (8 * t + 2)), .int (bI false)]) (rest := []) ⟨hx, hb, hml, hown, htg⟩ (u_right l dC dI a k x.1 o x.2 _ hst v hR (by omega) (xs (8 * t + 1)) (xs (8 * t + 2)) false) rfl rfl (Nat.le_of_ble_eq_true rfl) (Nat.le_of_ble_eq_true rfl) (pay_in htg (wG_I (fun _ h => h) q_509)) List.mem_cons_self (htg _ q_509) (htg _ q_0) (htg _ q_508) (htg _ q_507) (by decide +kernel) (show _ = some 4 by decide +kernel) (w_wrS hK (w_Pl hP) (w_Dl hD) hXx hNC) rfl hl.1 rfl (lv_room (Nat.le_of_ble_eq_true rfl)) dL_law_1061 hcs) hP hD hS hA (fun r9 x9 H locs hp9 hP hD hS => ?_)
    refine lv_istore (lv' := [(5, .int r9), (4, .int (nI (8 * t))), (3, .ref o), (2, .ref (r 0)), (1, .ref (a 0)), (0, .ref b)]) hx hb dL_law_1064 hl (by decide) rfl (fun ls hl => ?_)
    refine lv_aload_n hx hb dL_law_1066 rfl (lv_at hl 3 rfl) ?_
    refine lv_aload_n hx hb dL_law_1067 rfl (lv_at hl 5 rfl) ?_
    refine lv_iload hx hb dL_law_1068 (lv_at hl 1 rfl) ?_
    refine lv_iconst (v := 1) hx hb dL_law_1070 (by decide) ?_
    refine lv_iadd hx hb dL_law_1071 ?_
    refine wtopi (nI (8 * t + 1)) (nI_add (8 * t) 1) ?_
    refine va_sld hx hb hX hbl hbA hS (vp_in_nI (n := 8 * t + 1) (N := L) (by omega) (by omega)) dL_law_1072 ?_
    refine wtopi (xs (8 * t + 1)) (congrArg xs (nI_clamp (n := 8 * t + 1) (by omega))) ?_
    refine lv_aload_n hx hb dL_law_1073 rfl (lv_at hl 5 rfl) ?_
    refine lv_iload hx hb dL_law_1074 (lv_at hl 1 rfl) ?_
    refine lv_iconst (v := 2) hx hb dL_law_1076 (by decide) ?_
    refine lv_iadd hx hb dL_law_1077 ?_
    refine wtopi (nI (8 * t + 2)) (nI_add (8 * t) 2) ?_
    refine va_sld hx hb hX hbl hbA hS (vp_in_nI (n := 8 * t + 2) (N := L) (by omega) (by omega)) dL_law_1078 ?_
    refine wtopi (xs (8 * t + 2)) (congrArg xs (nI_clamp (n := 8 * t + 2) (by omega))) ?_
    refine lv_aload_n hx hb dL_law_1079 rfl (lv_at hl 5 rfl) ?_
    refine lv_iload hx hb dL_law_1080 (lv_at hl 1 rfl) ?_
    refine lv_iconst (v := 3) hx hb dL_law_1082 (by decide) ?_
    refine lv_iadd hx hb dL_law_1083 ?_
    refine wtopi (nI (8 * t + 3)) (nI_add (8 * t) 3) ?_
    refine va_sld hx hb hX hbl hbA hS (vp_in_nI (n := 8 * t + 3) (N := L) (by omega) (by omega)) dL_law_1084 ?_
    refine wtopi (xs (8 * t + 3)) (congrArg xs (nI_clamp (n := 8 * t + 3) (by omega))) ?_
    refine lv_if_eq (tgt := 1092) hx hb dL_law_1085 (by decide) (fun _ => ?_) (fun h9 => absurd c_1053 h9)
    refine lv_iconst (v := 0) hx hb dL_law_1092 (by decide) ?_
    refine wtopi (y := bI false) rfl ?_
    have hP := w_Psw hP
    have hD := w_Dsw hD
    refine w_callv (w := wR r k) (va_runV (cc := cL_law) (Ts := wG) (As := [.int (xs (8 * t + 1)), .int (xs (8 * t + 2)), .int (bI false)]) (rest := []) ⟨hx, hb, hml, hown, htg⟩ (c_X6_right l dC dI r k v _  (xs (8 * t + 1)) (xs (8 * t + 2)) false) (cwV 3 htg (wG_V (fun _ h => h) q_754 q_755 q_756 q_7 q_757) rfl rfl rfl (by decide +kernel) ⟨Nat.le_of_ble_eq_true rfl, Nat.le_of_ble_eq_true rfl⟩) (w_muV hK (w_Pl hP) (w_Dl hD) (ci := 6) (q0 := 0) rfl (wR_g0 r k _) rfl) rfl rfl hl.1 rfl (lv_room (Nat.le_of_ble_eq_true rfl)) dL_law_1093 ⟨by show cells + 1 + 0 ≤ 1088; omega, by show slots + 6 + 0 ≤ 17721; omega⟩) hP hD hS hA (fun v9 H locs hq9 hP hD hS => ?_)
    refine lv_aload_n hx hb dL_law_1096 rfl (lv_at hl 3 rfl) ?_
    obtain ⟨g1, g3, g4⟩ := hp9 v9 hq9
    refine vp_callSi (W.runV (cc := cL_law) (Ts := wG) (As := []) (rest := []) ⟨hx, hb, hml, hown, htg⟩ (c_X6_thrown l dC dI r k v9) (cwV 0 htg (wG_V (fun _ h => h) q_642 q_643 q_644 q_7 q_645) rfl rfl rfl (by decide +kernel) ⟨Nat.le_of_ble_eq_true rfl, Nat.le_of_ble_eq_true rfl⟩) (w_roV hK (w_Pl hP) (ci := 6) (q0 := 0) rfl (wR_g0 r k _) rfl) rfl rfl hl.1 rfl (lv_room (Nat.le_of_ble_eq_true rfl)) dL_law_1097 ⟨by show cells + 1 + 0 ≤ 1088; omega, by show slots + 6 + 0 ≤ 17721; omega⟩) (fun rt hrt => ?_)
    subst hrt
    refine lv_iload hx hb dL_law_1100 (lv_at hl 0 rfl) ?_
    refine lv_icmp_eq (tgt := 1107) hx hb dL_law_1102 (by decide) (fun c_1102 => ?_) (fun c_1102 => ?_)
    · refine lv_goto (tgt := 1375) hx hb dL_law_1107 (by decide) ?_
      exact kk x9 v9 H locs ls ⟨g3, by omega, w_Psw hP, w_Dsw hD, hS, lv_sub hl [1,2,3,4,5] rfl⟩
    · exact absurd g1.symm c_1102
  · refine lv_iconst (v := 1) hx hb dL_law_1056 (by decide) ?_
    refine wtopi (y := bI true) rfl ?_
    refine lv_goto (tgt := 1061) hx hb dL_law_1057 (by decide) ?_
    have hXx : w_x (va_A (wL a o k x) H.size) s H := (hX0.kept (fun z h1 h2 => hS.2.1 z h1 h2)).narrow (fun q hq => w_F (w_Dl hD) hS hA q hq)
    refine w_calli (w := wL a o k) (x_runSW (cc := cL_law) (Ts := wG) (bytes := cL_right) (maxL := 5) (ret := some .int) (hh := [(0, 7, 10, 13)]) (As := [.ref (a 0), .int (xs (8 * t + 1)), .int (xs (8 * t + 2)), .int (bI true)]) (rest := []) ⟨hx, hb, hml, hown, htg⟩ (u_right l dC dI a k x.1 o x.2 _ hst v hR (by omega) (xs (8 * t + 1)) (xs (8 * t + 2)) true) rfl rfl (Nat.le_of_ble_eq_true rfl) (Nat.le_of_ble_eq_true rfl) (pay_in htg (wG_I (fun _ h => h) q_509)) List.mem_cons_self (htg _ q_509) (htg _ q_0) (htg _ q_508) (htg _ q_507) (by decide +kernel) (show _ = some 4 by decide +kernel) (w_wrS hK (w_Pl hP) (w_Dl hD) hXx hNC) rfl hl.1 rfl (lv_room (Nat.le_of_ble_eq_true rfl)) dL_law_1061 hcs) hP hD hS hA (fun r9 x9 H locs hp9 hP hD hS => ?_)
    refine lv_istore (lv' := [(5, .int r9), (4, .int (nI (8 * t))), (3, .ref o), (2, .ref (r 0)), (1, .ref (a 0)), (0, .ref b)]) hx hb dL_law_1064 hl (by decide) rfl (fun ls hl => ?_)
    refine lv_aload_n hx hb dL_law_1066 rfl (lv_at hl 3 rfl) ?_
    refine lv_aload_n hx hb dL_law_1067 rfl (lv_at hl 5 rfl) ?_
    refine lv_iload hx hb dL_law_1068 (lv_at hl 1 rfl) ?_
    refine lv_iconst (v := 1) hx hb dL_law_1070 (by decide) ?_
    refine lv_iadd hx hb dL_law_1071 ?_
    refine wtopi (nI (8 * t + 1)) (nI_add (8 * t) 1) ?_
    refine va_sld hx hb hX hbl hbA hS (vp_in_nI (n := 8 * t + 1) (N := L) (by omega) (by omega)) dL_law_1072 ?_
    refine wtopi (xs (8 * t + 1)) (congrArg xs (nI_clamp (n := 8 * t + 1) (by omega))) ?_
    refine lv_aload_n hx hb dL_law_1073 rfl (lv_at hl 5 rfl) ?_
    refine lv_iload hx hb dL_law_1074 (lv_at hl 1 rfl) ?_
    refine lv_iconst (v := 2) hx hb dL_law_1076 (by decide) ?_
    refine lv_iadd hx hb dL_law_1077 ?_
    refine wtopi (nI (8 * t + 2)) (nI_add (8 * t) 2) ?_
    refine va_sld hx hb hX hbl hbA hS (vp_in_nI (n := 8 * t + 2) (N := L) (by omega) (by omega)) dL_law_1078 ?_
    refine wtopi (xs (8 * t + 2)) (congrArg xs (nI_clamp (n := 8 * t + 2) (by omega))) ?_
    refine lv_aload_n hx hb dL_law_1079 rfl (lv_at hl 5 rfl) ?_
    refine lv_iload hx hb dL_law_1080 (lv_at hl 1 rfl) ?_
    refine lv_iconst (v := 3) hx hb dL_law_1082 (by decide) ?_
    refine lv_iadd hx hb dL_law_1083 ?_
    refine wtopi (nI (8 * t + 3)) (nI_add (8 * t) 3) ?_
    refine va_sld hx hb hX hbl hbA hS (vp_in_nI (n := 8 * t + 3) (N := L) (by omega) (by omega)) dL_law_1084 ?_
    refine wtopi (xs (8 * t + 3)) (congrArg xs (nI_clamp (n := 8 * t + 3) (by omega))) ?_
    refine lv_if_eq (tgt := 1092) hx hb dL_law_1085 (by decide) (fun h9 => absurd h9 c_1053) (fun _ => ?_)
    refine lv_iconst (v := 1) hx hb dL_law_1088 (by decide) ?_
    refine wtopi (y := bI true) rfl ?_
    refine lv_goto (tgt := 1093) hx hb dL_law_1089 (by decide) ?_
    have hP := w_Psw hP
    have hD := w_Dsw hD
    refine w_callv (w := wR r k) (va_runV (cc := cL_law) (Ts := wG) (As := [.int (xs (8 * t + 1)), .int (xs (8 * t + 2)), .int (bI true)]) (rest := []) ⟨hx, hb, hml, hown, htg⟩ (c_X6_right l dC dI r k v _  (xs (8 * t + 1)) (xs (8 * t + 2)) true) (cwV 3 htg (wG_V (fun _ h => h) q_754 q_755 q_756 q_7 q_757) rfl rfl rfl (by decide +kernel) ⟨Nat.le_of_ble_eq_true rfl, Nat.le_of_ble_eq_true rfl⟩) (w_muV hK (w_Pl hP) (w_Dl hD) (ci := 6) (q0 := 0) rfl (wR_g0 r k _) rfl) rfl rfl hl.1 rfl (lv_room (Nat.le_of_ble_eq_true rfl)) dL_law_1093 ⟨by show cells + 1 + 0 ≤ 1088; omega, by show slots + 6 + 0 ≤ 17721; omega⟩) hP hD hS hA (fun v9 H locs hq9 hP hD hS => ?_)
    refine lv_aload_n hx hb dL_law_1096 rfl (lv_at hl 3 rfl) ?_
    obtain ⟨g1, g3, g4⟩ := hp9 v9 hq9
    refine vp_callSi (W.runV (cc := cL_law) (Ts := wG) (As := []) (rest := []) ⟨hx, hb, hml, hown, htg⟩ (c_X6_thrown l dC dI r k v9) (cwV 0 htg (wG_V (fun _ h => h) q_642 q_643 q_644 q_7 q_645) rfl rfl rfl (by decide +kernel) ⟨Nat.le_of_ble_eq_true rfl, Nat.le_of_ble_eq_true rfl⟩) (w_roV hK (w_Pl hP) (ci := 6) (q0 := 0) rfl (wR_g0 r k _) rfl) rfl rfl hl.1 rfl (lv_room (Nat.le_of_ble_eq_true rfl)) dL_law_1097 ⟨by show cells + 1 + 0 ≤ 1088; omega, by show slots + 6 + 0 ≤ 17721; omega⟩) (fun rt hrt => ?_)
    subst hrt
    refine lv_iload hx hb dL_law_1100 (lv_at hl 0 rfl) ?_
    refine lv_icmp_eq (tgt := 1107) hx hb dL_law_1102 (by decide) (fun c_1102 => ?_) (fun c_1102 => ?_)
    · refine lv_goto (tgt := 1375) hx hb dL_law_1107 (by decide) ?_
      exact kk x9 v9 H locs ls ⟨g3, by omega, w_Psw hP, w_Dsw hD, hS, lv_sub hl [1,2,3,4,5] rfl⟩
    · exact absurd g1.symm c_1102
set_option maxHeartbeats 8000000 in
set_option maxRecDepth 100000 in
theorem law_listen {p : Program} {l : Launch} {e : Env} {s : State} {m : MethodId} {below : List Frame} {meth : Method} {c : Code} {b L : Nat} {xs : Nat → Int32} {dC : Nat → ClassId} {dI : Nat → Nat → Nat} {k : c_K} {a : Nat → Nat} {o : Nat} {r : Nat → Nat} {x : c_X} {v : c_St} {H : Heap} {locs : List Loc} {ls : Array Slot} {cells slots t : Nat} {Q : State → Prop} (hC : law_C p l s m c b L xs dC dI k) (ht : 8 * t + 8 ≤ L) (hI : law_I s b dC dI k a o r x v t t H locs ls) (hcs : cells + 1 ≤ 1088 ∧ slots + 6 ≤ 17721)
    (kk : ∀ (x1 : c_X) (v1 : c_St) (H1 : Heap) (locs1 : List Loc) (ls1 : Array Slot), law_I s b dC dI k a o r x1 v1 (t + 1) t H1 locs1 ls1 → W p l e room_1 s m #[Value.ref b] below meth c H1 locs1 (cells + 1) (slots + 6) Q (F0 m 1375 ls1 [])) : W p l e room_1 s m #[Value.ref b] below meth c H locs cells slots Q (F0 m 1110 ls []) := by
  obtain ⟨hx, hb, hml, hown, htg, hX, hbl, hK, hX0, hNC, hst, hL⟩ := hC
  obtain ⟨hR, hN4, hP, hD, hS, hl⟩ := hI
  have hbA : ¬ s.heap.size ≤ b := by omega
  have hA : ∀ q : Nat, s.heap.size ≤ q → (fun q => s.heap.size ≤ q) q := fun q h => h
  refine lv_aload_n hx hb dL_law_1110 rfl (lv_at hl 3 rfl) ?_
  refine lv_aload_n hx hb dL_law_1111 rfl (lv_at hl 4 rfl) ?_
  refine lv_iload hx hb dL_law_1112 (lv_at hl 0 rfl) ?_
  refine lv_iconst (v := 1) hx hb dL_law_1114 (by decide) ?_
  refine lv_iadd hx hb dL_law_1115 ?_
  refine wtopi (nI (8 * t + 1)) (nI_add (8 * t) 1) ?_
  refine va_sld hx hb hX hbl hbA hS (vp_in_nI (n := 8 * t + 1) (N := L) (by omega) (by omega)) dL_law_1116 ?_
  refine wtopi (xs (8 * t + 1)) (congrArg xs (nI_clamp (n := 8 * t + 1) (by omega))) ?_
  refine lv_aload_n hx hb dL_law_1117 rfl (lv_at hl 4 rfl) ?_
  refine lv_iload hx hb dL_law_1118 (lv_at hl 0 rfl) ?_
  refine lv_iconst (v := 2) hx hb dL_law_1120 (by decide) ?_
  refine lv_iadd hx hb dL_law_1121 ?_
  refine wtopi (nI (8 * t + 2)) (nI_add (8 * t) 2) ?_
  refine va_sld hx hb hX hbl hbA hS (vp_in_nI (n := 8 * t + 2) (N := L) (by omega) (by omega)) dL_law_1122 ?_
  refine wtopi (xs (8 * t + 2)) (congrArg xs (nI_clamp (n := 8 * t + 2) (by omega))) ?_
  refine lv_aload_n hx hb dL_law_1123 rfl (lv_at hl 1 rfl) ?_
  have hXx : w_x (va_A (wL a o k x) H.size) s H := (hX0.kept (fun z h1 h2 => hS.2.1 z h1 h2)).narrow (fun q hq => w_F (w_Dl hD) hS hA q hq)
  refine w_calli (w := wL a o k) (x_runSW (cc := cL_law) (Ts := wG) (bytes := cL_listen) (maxL := 5) (ret := some .int) (hh := [(0, 10, 13, 13), (0, 10, 17, 37)]) (As := [.ref (a 0), .int (xs (8 * t + 1)), .int (xs (8 * t + 2)), .ref o]) (rest := []) ⟨hx, hb, hml, hown, htg⟩ (u_listen l dC dI a k x.1 o x.2 _ hst v hR (by omega) (xs (8 * t + 1)) (xs (8 * t + 2))) rfl rfl (Nat.le_of_ble_eq_true rfl) (Nat.le_of_ble_eq_true rfl) (pay_in htg (wG_I (fun _ h => h) q_524)) List.mem_cons_self (htg _ q_524) (htg _ q_0) (htg _ q_523) (htg _ q_522) (by decide +kernel) (show _ = some 4 by decide +kernel) (w_wrS hK (w_Pl hP) (w_Dl hD) hXx hNC) rfl hl.1 rfl (lv_room (Nat.le_of_ble_eq_true rfl)) dL_law_1124 hcs) hP hD hS hA (fun r9 x9 H locs hp9 hP hD hS => ?_)
  refine lv_istore (lv' := [(5, .int r9), (4, .int (nI (8 * t))), (3, .ref o), (2, .ref (r 0)), (1, .ref (a 0)), (0, .ref b)]) hx hb dL_law_1127 hl (by decide) rfl (fun ls hl => ?_)
  refine lv_aload_n hx hb dL_law_1129 rfl (lv_at hl 3 rfl) ?_
  refine lv_aload_n hx hb dL_law_1130 rfl (lv_at hl 5 rfl) ?_
  refine lv_iload hx hb dL_law_1131 (lv_at hl 1 rfl) ?_
  refine lv_iconst (v := 1) hx hb dL_law_1133 (by decide) ?_
  refine lv_iadd hx hb dL_law_1134 ?_
  refine wtopi (nI (8 * t + 1)) (nI_add (8 * t) 1) ?_
  refine va_sld hx hb hX hbl hbA hS (vp_in_nI (n := 8 * t + 1) (N := L) (by omega) (by omega)) dL_law_1135 ?_
  refine wtopi (xs (8 * t + 1)) (congrArg xs (nI_clamp (n := 8 * t + 1) (by omega))) ?_
  refine lv_aload_n hx hb dL_law_1136 rfl (lv_at hl 5 rfl) ?_
  refine lv_iload hx hb dL_law_1137 (lv_at hl 1 rfl) ?_
  refine lv_iconst (v := 2) hx hb dL_law_1139 (by decide) ?_
  refine lv_iadd hx hb dL_law_1140 ?_
  refine wtopi (nI (8 * t + 2)) (nI_add (8 * t) 2) ?_
  refine va_sld hx hb hX hbl hbA hS (vp_in_nI (n := 8 * t + 2) (N := L) (by omega) (by omega)) dL_law_1141 ?_
  refine wtopi (xs (8 * t + 2)) (congrArg xs (nI_clamp (n := 8 * t + 2) (by omega))) ?_
  have hP := w_Psw hP
  have hD := w_Dsw hD
  refine w_calli (w := wR r k) (va_runV (cc := cL_law) (Ts := wG) (As := [.int (xs (8 * t + 1)), .int (xs (8 * t + 2))]) (rest := []) ⟨hx, hb, hml, hown, htg⟩ (c_X6_listen l dC dI r k v _ hR.mok (by rw [hR.2.2.1.2.2.2.1]; omega) (xs (8 * t + 1)) (xs (8 * t + 2))) (cwV 2 htg (wG_V (fun _ h => h) q_758 q_759 q_760 q_7 q_761) rfl rfl rfl (by decide +kernel) ⟨Nat.le_of_ble_eq_true rfl, Nat.le_of_ble_eq_true rfl⟩) (w_muV hK (w_Pl hP) (w_Dl hD) (ci := 6) (q0 := 0) rfl (wR_g0 r k _) rfl) rfl rfl hl.1 rfl (lv_room (Nat.le_of_ble_eq_true rfl)) dL_law_1142 ⟨by show cells + 1 + 0 ≤ 1088; omega, by show slots + 6 + 0 ≤ 17721; omega⟩) hP hD hS hA (fun b9 v9 H locs hq9 hP hD hS => ?_)
  refine lv_istore (lv' := [(6, .int b9), (5, .int r9), (4, .int (nI (8 * t))), (3, .ref o), (2, .ref (r 0)), (1, .ref (a 0)), (0, .ref b)]) hx hb dL_law_1145 hl (by decide) rfl (fun ls hl => ?_)
  refine lv_aload_n hx hb dL_law_1147 rfl (lv_at hl 4 rfl) ?_
  obtain ⟨g1, g2, g3, g4⟩ := hp9 b9 v9 hq9
  refine vp_callSi (W.runV (cc := cL_law) (Ts := wG) (As := []) (rest := []) ⟨hx, hb, hml, hown, htg⟩ (c_X6_thrown l dC dI r k v9) (cwV 0 htg (wG_V (fun _ h => h) q_642 q_643 q_644 q_7 q_645) rfl rfl rfl (by decide +kernel) ⟨Nat.le_of_ble_eq_true rfl, Nat.le_of_ble_eq_true rfl⟩) (w_roV hK (w_Pl hP) (ci := 6) (q0 := 0) rfl (wR_g0 r k _) rfl) rfl rfl hl.1 rfl (lv_room (Nat.le_of_ble_eq_true rfl)) dL_law_1148 ⟨by show cells + 1 + 0 ≤ 1088; omega, by show slots + 6 + 0 ≤ 17721; omega⟩) (fun rt hrt => ?_)
  subst hrt
  refine lv_iload hx hb dL_law_1151 (lv_at hl 1 rfl) ?_
  refine lv_icmp_eq (tgt := 1158) hx hb dL_law_1153 (by decide) (fun c_1153 => ?_) (fun c_1153 => ?_)
  · refine lv_iload hx hb dL_law_1158 (lv_at hl 1 rfl) ?_
    refine lv_if_ne (tgt := 1175) hx hb dL_law_1160 (by decide) (fun c_1160 => ?_) (fun c_1160 => ?_)
    · refine lv_goto (tgt := 1375) hx hb dL_law_1175 (by decide) ?_
      exact kk x9 v9 H locs ls ⟨g3, by omega, w_Psw hP, w_Dsw hD, hS, lv_sub hl [2,3,4,5,6] rfl⟩
    · have c_ne := c_1160
      refine lv_aload_n hx hb dL_law_1163 rfl (lv_at hl 3 rfl) ?_
      refine lv_iconst (v := 0) hx hb dL_law_1164 (by decide) ?_
      refine va_lald hx hb hK hP 42 1 (wL_g26 a o r k _ _) rfl (i := 0) vp_in01 dL_law_1165 ?_
      refine wtopl (x9.2 0) (by rfl) ?_
      refine lv_iload hx hb dL_law_1166 (lv_at hl 0 rfl) ?_
      refine lv_i2l hx hb dL_law_1168 rfl ?_
      refine W.lcmp hx hb dL_law_1169 ?_
      refine wtopi 0 (lg_same (g2 c_ne)) ?_
      refine lv_if_eq (tgt := 1175) hx hb dL_law_1170 (by decide) (fun _ => ?_) (fun h9 => absurd h9 (by decide))
      refine lv_goto (tgt := 1375) hx hb dL_law_1175 (by decide) ?_
      exact kk x9 v9 H locs ls ⟨g3, by omega, w_Psw hP, w_Dsw hD, hS, lv_sub hl [2,3,4,5,6] rfl⟩
  · exact absurd g1.symm c_1153
set_option maxHeartbeats 8000000 in
set_option maxRecDepth 100000 in
theorem law_row {p : Program} {l : Launch} {e : Env} {s : State} {m : MethodId} {below : List Frame} {meth : Method} {c : Code} {b L : Nat} {xs : Nat → Int32} {dC : Nat → ClassId} {dI : Nat → Nat → Nat} {k : c_K} {a : Nat → Nat} {o : Nat} {r : Nat → Nat} {x : c_X} {v : c_St} {H : Heap} {locs : List Loc} {ls : Array Slot} {cells slots t : Nat} {Q : State → Prop} (hC : law_C p l s m c b L xs dC dI k) (ht : 8 * t + 8 ≤ L) (hI : law_I s b dC dI k a o r x v t t H locs ls) (hcs : cells + 1 ≤ 1088 ∧ slots + 6 ≤ 17721)
    (kk : ∀ (x1 : c_X) (v1 : c_St) (H1 : Heap) (locs1 : List Loc) (ls1 : Array Slot), law_I s b dC dI k a o r x1 v1 (t + 1) t H1 locs1 ls1 → W p l e room_1 s m #[Value.ref b] below meth c H1 locs1 (cells + 1) (slots + 6) Q (F0 m 1375 ls1 [])) : W p l e room_1 s m #[Value.ref b] below meth c H locs cells slots Q (F0 m 1178 ls []) := by
  obtain ⟨hx, hb, hml, hown, htg, hX, hbl, hK, hX0, hNC, hst, hL⟩ := hC
  obtain ⟨hR, hN4, hP, hD, hS, hl⟩ := hI
  have hbA : ¬ s.heap.size ≤ b := by omega
  have hA : ∀ q : Nat, s.heap.size ≤ q → (fun q => s.heap.size ≤ q) q := fun q h => h
  refine lv_aload_n hx hb dL_law_1178 rfl (lv_at hl 3 rfl) ?_
  refine lv_aload_n hx hb dL_law_1179 rfl (lv_at hl 4 rfl) ?_
  refine lv_iload hx hb dL_law_1180 (lv_at hl 0 rfl) ?_
  refine lv_iconst (v := 1) hx hb dL_law_1182 (by decide) ?_
  refine lv_iadd hx hb dL_law_1183 ?_
  refine wtopi (nI (8 * t + 1)) (nI_add (8 * t) 1) ?_
  refine va_sld hx hb hX hbl hbA hS (vp_in_nI (n := 8 * t + 1) (N := L) (by omega) (by omega)) dL_law_1184 ?_
  refine wtopi (xs (8 * t + 1)) (congrArg xs (nI_clamp (n := 8 * t + 1) (by omega))) ?_
  refine lv_aload_n hx hb dL_law_1185 rfl (lv_at hl 4 rfl) ?_
  refine lv_iload hx hb dL_law_1186 (lv_at hl 0 rfl) ?_
  refine lv_iconst (v := 2) hx hb dL_law_1188 (by decide) ?_
  refine lv_iadd hx hb dL_law_1189 ?_
  refine wtopi (nI (8 * t + 2)) (nI_add (8 * t) 2) ?_
  refine va_sld hx hb hX hbl hbA hS (vp_in_nI (n := 8 * t + 2) (N := L) (by omega) (by omega)) dL_law_1190 ?_
  refine wtopi (xs (8 * t + 2)) (congrArg xs (nI_clamp (n := 8 * t + 2) (by omega))) ?_
  refine lv_aload_n hx hb dL_law_1191 rfl (lv_at hl 1 rfl) ?_
  have hXx : w_x (va_A (wL a o k x) H.size) s H := (hX0.kept (fun z h1 h2 => hS.2.1 z h1 h2)).narrow (fun q hq => w_F (w_Dl hD) hS hA q hq)
  refine w_calli (w := wL a o k) (x_runSW (cc := cL_law) (Ts := wG) (bytes := cL_row) (maxL := 5) (ret := some .int) (hh := [(0, 10, 13, 13)]) (As := [.ref (a 0), .int (xs (8 * t + 1)), .int (xs (8 * t + 2)), .ref o]) (rest := []) ⟨hx, hb, hml, hown, htg⟩ (u_row l dC dI a k x.1 o x.2 _ hst v hR (by omega) (xs (8 * t + 1)) (xs (8 * t + 2))) rfl rfl (Nat.le_of_ble_eq_true rfl) (Nat.le_of_ble_eq_true rfl) (pay_in htg (wG_I (fun _ h => h) q_543)) List.mem_cons_self (htg _ q_543) (htg _ q_0) (htg _ q_542) (htg _ q_541) (by decide +kernel) (show _ = some 4 by decide +kernel) (w_wrS hK (w_Pl hP) (w_Dl hD) hXx hNC) rfl hl.1 rfl (lv_room (Nat.le_of_ble_eq_true rfl)) dL_law_1192 hcs) hP hD hS hA (fun r9 x9 H locs hp9 hP hD hS => ?_)
  refine lv_istore (lv' := [(5, .int r9), (4, .int (nI (8 * t))), (3, .ref o), (2, .ref (r 0)), (1, .ref (a 0)), (0, .ref b)]) hx hb dL_law_1195 hl (by decide) rfl (fun ls hl => ?_)
  refine lv_aload_n hx hb dL_law_1197 rfl (lv_at hl 3 rfl) ?_
  refine lv_aload_n hx hb dL_law_1198 rfl (lv_at hl 5 rfl) ?_
  refine lv_iload hx hb dL_law_1199 (lv_at hl 1 rfl) ?_
  refine lv_iconst (v := 1) hx hb dL_law_1201 (by decide) ?_
  refine lv_iadd hx hb dL_law_1202 ?_
  refine wtopi (nI (8 * t + 1)) (nI_add (8 * t) 1) ?_
  refine va_sld hx hb hX hbl hbA hS (vp_in_nI (n := 8 * t + 1) (N := L) (by omega) (by omega)) dL_law_1203 ?_
  refine wtopi (xs (8 * t + 1)) (congrArg xs (nI_clamp (n := 8 * t + 1) (by omega))) ?_
  refine lv_aload_n hx hb dL_law_1204 rfl (lv_at hl 5 rfl) ?_
  refine lv_iload hx hb dL_law_1205 (lv_at hl 1 rfl) ?_
  refine lv_iconst (v := 2) hx hb dL_law_1207 (by decide) ?_
  refine lv_iadd hx hb dL_law_1208 ?_
  refine wtopi (nI (8 * t + 2)) (nI_add (8 * t) 2) ?_
  refine va_sld hx hb hX hbl hbA hS (vp_in_nI (n := 8 * t + 2) (N := L) (by omega) (by omega)) dL_law_1209 ?_
  refine wtopi (xs (8 * t + 2)) (congrArg xs (nI_clamp (n := 8 * t + 2) (by omega))) ?_
  have hP := w_Psw hP
  have hD := w_Dsw hD
  refine w_calli (w := wR r k) (va_runV (cc := cL_law) (Ts := wG) (As := [.int (xs (8 * t + 1)), .int (xs (8 * t + 2))]) (rest := []) ⟨hx, hb, hml, hown, htg⟩ (c_X6_row l dC dI r k v _ (by rw [hR.2.2.1.2.2.2.1]; omega) (xs (8 * t + 1)) (xs (8 * t + 2))) (cwV 2 htg (wG_V (fun _ h => h) q_762 q_763 q_764 q_7 q_765) rfl rfl rfl (by decide +kernel) ⟨Nat.le_of_ble_eq_true rfl, Nat.le_of_ble_eq_true rfl⟩) (w_muV hK (w_Pl hP) (w_Dl hD) (ci := 6) (q0 := 0) rfl (wR_g0 r k _) rfl) rfl rfl hl.1 rfl (lv_room (Nat.le_of_ble_eq_true rfl)) dL_law_1210 ⟨by show cells + 1 + 0 ≤ 1088; omega, by show slots + 6 + 0 ≤ 17721; omega⟩) hP hD hS hA (fun b9 v9 H locs hq9 hP hD hS => ?_)
  refine lv_istore (lv' := [(6, .int b9), (5, .int r9), (4, .int (nI (8 * t))), (3, .ref o), (2, .ref (r 0)), (1, .ref (a 0)), (0, .ref b)]) hx hb dL_law_1213 hl (by decide) rfl (fun ls hl => ?_)
  refine lv_aload_n hx hb dL_law_1215 rfl (lv_at hl 4 rfl) ?_
  obtain ⟨g1, g2, g3, g4⟩ := hp9 b9 v9 hq9
  refine vp_callSi (W.runV (cc := cL_law) (Ts := wG) (As := []) (rest := []) ⟨hx, hb, hml, hown, htg⟩ (c_X6_thrown l dC dI r k v9) (cwV 0 htg (wG_V (fun _ h => h) q_642 q_643 q_644 q_7 q_645) rfl rfl rfl (by decide +kernel) ⟨Nat.le_of_ble_eq_true rfl, Nat.le_of_ble_eq_true rfl⟩) (w_roV hK (w_Pl hP) (ci := 6) (q0 := 0) rfl (wR_g0 r k _) rfl) rfl rfl hl.1 rfl (lv_room (Nat.le_of_ble_eq_true rfl)) dL_law_1216 ⟨by show cells + 1 + 0 ≤ 1088; omega, by show slots + 6 + 0 ≤ 17721; omega⟩) (fun rt hrt => ?_)
  subst hrt
  refine lv_iload hx hb dL_law_1219 (lv_at hl 1 rfl) ?_
  refine lv_icmp_eq (tgt := 1226) hx hb dL_law_1221 (by decide) (fun c_1221 => ?_) (fun c_1221 => ?_)
  · refine lv_iload hx hb dL_law_1226 (lv_at hl 1 rfl) ?_
    refine lv_if_ne (tgt := 1243) hx hb dL_law_1228 (by decide) (fun c_1228 => ?_) (fun c_1228 => ?_)
    · refine lv_goto (tgt := 1375) hx hb dL_law_1243 (by decide) ?_
      exact kk x9 v9 H locs ls ⟨g3, by omega, w_Psw hP, w_Dsw hD, hS, lv_sub hl [2,3,4,5,6] rfl⟩
    · have c_ne := c_1228
      refine lv_aload_n hx hb dL_law_1231 rfl (lv_at hl 3 rfl) ?_
      refine lv_iconst (v := 0) hx hb dL_law_1232 (by decide) ?_
      refine va_lald hx hb hK hP 42 1 (wL_g26 a o r k _ _) rfl (i := 0) vp_in01 dL_law_1233 ?_
      refine wtopl (x9.2 0) (by rfl) ?_
      refine lv_iload hx hb dL_law_1234 (lv_at hl 0 rfl) ?_
      refine lv_i2l hx hb dL_law_1236 rfl ?_
      refine W.lcmp hx hb dL_law_1237 ?_
      refine wtopi 0 (lg_same (g2 c_ne)) ?_
      refine lv_if_eq (tgt := 1243) hx hb dL_law_1238 (by decide) (fun _ => ?_) (fun h9 => absurd h9 (by decide))
      refine lv_goto (tgt := 1375) hx hb dL_law_1243 (by decide) ?_
      exact kk x9 v9 H locs ls ⟨g3, by omega, w_Psw hP, w_Dsw hD, hS, lv_sub hl [2,3,4,5,6] rfl⟩
  · exact absurd g1.symm c_1221
set_option maxHeartbeats 8000000 in
set_option maxRecDepth 100000 in
theorem law_poke {p : Program} {l : Launch} {e : Env} {s : State} {m : MethodId} {below : List Frame} {meth : Method} {c : Code} {b L : Nat} {xs : Nat → Int32} {dC : Nat → ClassId} {dI : Nat → Nat → Nat} {k : c_K} {a : Nat → Nat} {o : Nat} {r : Nat → Nat} {x : c_X} {v : c_St} {H : Heap} {locs : List Loc} {ls : Array Slot} {cells slots t : Nat} {Q : State → Prop} (hC : law_C p l s m c b L xs dC dI k) (ht : 8 * t + 8 ≤ L) (hI : law_I s b dC dI k a o r x v t t H locs ls) (hcs : cells + 1 ≤ 1088 ∧ slots + 6 ≤ 17721)
    (kk : ∀ (x1 : c_X) (v1 : c_St) (H1 : Heap) (locs1 : List Loc) (ls1 : Array Slot), law_I s b dC dI k a o r x1 v1 (t + 1) t H1 locs1 ls1 → W p l e room_1 s m #[Value.ref b] below meth c H1 locs1 (cells + 1) (slots + 6) Q (F0 m 1375 ls1 [])) : W p l e room_1 s m #[Value.ref b] below meth c H locs cells slots Q (F0 m 1246 ls []) := by
  obtain ⟨hx, hb, hml, hown, htg, hX, hbl, hK, hX0, hNC, hst, hL⟩ := hC
  obtain ⟨hR, hN4, hP, hD, hS, hl⟩ := hI
  have hbA : ¬ s.heap.size ≤ b := by omega
  have hA : ∀ q : Nat, s.heap.size ≤ q → (fun q => s.heap.size ≤ q) q := fun q h => h
  refine lv_aload_n hx hb dL_law_1246 rfl (lv_at hl 3 rfl) ?_
  refine lv_aload_n hx hb dL_law_1247 rfl (lv_at hl 4 rfl) ?_
  refine lv_iload hx hb dL_law_1248 (lv_at hl 0 rfl) ?_
  refine lv_iconst (v := 1) hx hb dL_law_1250 (by decide) ?_
  refine lv_iadd hx hb dL_law_1251 ?_
  refine wtopi (nI (8 * t + 1)) (nI_add (8 * t) 1) ?_
  refine va_sld hx hb hX hbl hbA hS (vp_in_nI (n := 8 * t + 1) (N := L) (by omega) (by omega)) dL_law_1252 ?_
  refine wtopi (xs (8 * t + 1)) (congrArg xs (nI_clamp (n := 8 * t + 1) (by omega))) ?_
  refine lv_aload_n hx hb dL_law_1253 rfl (lv_at hl 4 rfl) ?_
  refine lv_iload hx hb dL_law_1254 (lv_at hl 0 rfl) ?_
  refine lv_iconst (v := 2) hx hb dL_law_1256 (by decide) ?_
  refine lv_iadd hx hb dL_law_1257 ?_
  refine wtopi (nI (8 * t + 2)) (nI_add (8 * t) 2) ?_
  refine va_sld hx hb hX hbl hbA hS (vp_in_nI (n := 8 * t + 2) (N := L) (by omega) (by omega)) dL_law_1258 ?_
  refine wtopi (xs (8 * t + 2)) (congrArg xs (nI_clamp (n := 8 * t + 2) (by omega))) ?_
  refine lv_aload_n hx hb dL_law_1259 rfl (lv_at hl 4 rfl) ?_
  refine lv_iload hx hb dL_law_1260 (lv_at hl 0 rfl) ?_
  refine lv_iconst (v := 3) hx hb dL_law_1262 (by decide) ?_
  refine lv_iadd hx hb dL_law_1263 ?_
  refine wtopi (nI (8 * t + 3)) (nI_add (8 * t) 3) ?_
  refine va_sld hx hb hX hbl hbA hS (vp_in_nI (n := 8 * t + 3) (N := L) (by omega) (by omega)) dL_law_1264 ?_
  refine wtopi (xs (8 * t + 3)) (congrArg xs (nI_clamp (n := 8 * t + 3) (by omega))) ?_
  have hXx : w_x (va_A (wL a o k x) H.size) s H := (hX0.kept (fun z h1 h2 => hS.2.1 z h1 h2)).narrow (fun q hq => w_F (w_Dl hD) hS hA q hq)
  refine w_calli (w := wL a o k) (x_runSW (cc := cL_law) (Ts := wG) (bytes := cL_poke) (maxL := 5) (ret := some .int) (hh := [(0, 7, 10, 13), (0, 7, 14, 15), (0, 7, 18, 37)]) (As := [.ref (a 0), .int (xs (8 * t + 1)), .int (xs (8 * t + 2)), .int (xs (8 * t + 3))]) (rest := []) ⟨hx, hb, hml, hown, htg⟩ (u_poke l dC dI a k x.1 o x.2 _ hst v hR (by omega) (xs (8 * t + 1)) (xs (8 * t + 2)) (xs (8 * t + 3))) rfl rfl (Nat.le_of_ble_eq_true rfl) (Nat.le_of_ble_eq_true rfl) (pay_in htg (wG_I (fun _ h => h) q_556)) List.mem_cons_self (htg _ q_556) (htg _ q_0) (htg _ q_555) (htg _ q_554) (by decide +kernel) (show _ = some 4 by decide +kernel) (w_wrS hK (w_Pl hP) (w_Dl hD) hXx hNC) rfl hl.1 rfl (lv_room (Nat.le_of_ble_eq_true rfl)) dL_law_1265 hcs) hP hD hS hA (fun r9 x9 H locs hp9 hP hD hS => ?_)
  refine lv_istore (lv' := [(5, .int r9), (4, .int (nI (8 * t))), (3, .ref o), (2, .ref (r 0)), (1, .ref (a 0)), (0, .ref b)]) hx hb dL_law_1268 hl (by decide) rfl (fun ls hl => ?_)
  refine lv_aload_n hx hb dL_law_1270 rfl (lv_at hl 3 rfl) ?_
  refine lv_aload_n hx hb dL_law_1271 rfl (lv_at hl 5 rfl) ?_
  refine lv_iload hx hb dL_law_1272 (lv_at hl 1 rfl) ?_
  refine lv_iconst (v := 1) hx hb dL_law_1274 (by decide) ?_
  refine lv_iadd hx hb dL_law_1275 ?_
  refine wtopi (nI (8 * t + 1)) (nI_add (8 * t) 1) ?_
  refine va_sld hx hb hX hbl hbA hS (vp_in_nI (n := 8 * t + 1) (N := L) (by omega) (by omega)) dL_law_1276 ?_
  refine wtopi (xs (8 * t + 1)) (congrArg xs (nI_clamp (n := 8 * t + 1) (by omega))) ?_
  refine lv_aload_n hx hb dL_law_1277 rfl (lv_at hl 5 rfl) ?_
  refine lv_iload hx hb dL_law_1278 (lv_at hl 1 rfl) ?_
  refine lv_iconst (v := 2) hx hb dL_law_1280 (by decide) ?_
  refine lv_iadd hx hb dL_law_1281 ?_
  refine wtopi (nI (8 * t + 2)) (nI_add (8 * t) 2) ?_
  refine va_sld hx hb hX hbl hbA hS (vp_in_nI (n := 8 * t + 2) (N := L) (by omega) (by omega)) dL_law_1282 ?_
  refine wtopi (xs (8 * t + 2)) (congrArg xs (nI_clamp (n := 8 * t + 2) (by omega))) ?_
  refine lv_aload_n hx hb dL_law_1283 rfl (lv_at hl 5 rfl) ?_
  refine lv_iload hx hb dL_law_1284 (lv_at hl 1 rfl) ?_
  refine lv_iconst (v := 3) hx hb dL_law_1286 (by decide) ?_
  refine lv_iadd hx hb dL_law_1287 ?_
  refine wtopi (nI (8 * t + 3)) (nI_add (8 * t) 3) ?_
  refine va_sld hx hb hX hbl hbA hS (vp_in_nI (n := 8 * t + 3) (N := L) (by omega) (by omega)) dL_law_1288 ?_
  refine wtopi (xs (8 * t + 3)) (congrArg xs (nI_clamp (n := 8 * t + 3) (by omega))) ?_
  have hP := w_Psw hP
  have hD := w_Dsw hD
  refine w_callv (w := wR r k) (va_runV (cc := cL_law) (Ts := wG) (As := [.int (xs (8 * t + 1)), .int (xs (8 * t + 2)), .int (xs (8 * t + 3))]) (rest := []) ⟨hx, hb, hml, hown, htg⟩ (c_X6_poke l dC dI r k v _ hR.mok (xs (8 * t + 1)) (xs (8 * t + 2)) (xs (8 * t + 3))) (cwV 3 htg (wG_V (fun _ h => h) q_766 q_767 q_768 q_7 q_769) rfl rfl rfl (by decide +kernel) ⟨Nat.le_of_ble_eq_true rfl, Nat.le_of_ble_eq_true rfl⟩) (w_muV hK (w_Pl hP) (w_Dl hD) (ci := 6) (q0 := 0) rfl (wR_g0 r k _) rfl) rfl rfl hl.1 rfl (lv_room (Nat.le_of_ble_eq_true rfl)) dL_law_1289 ⟨by show cells + 1 + 0 ≤ 1088; omega, by show slots + 6 + 0 ≤ 17721; omega⟩) hP hD hS hA (fun v9 H locs hq9 hP hD hS => ?_)
  refine lv_aload_n hx hb dL_law_1292 rfl (lv_at hl 3 rfl) ?_
  obtain ⟨g1, g3, g4⟩ := hp9 v9 hq9
  refine vp_callSi (W.runV (cc := cL_law) (Ts := wG) (As := []) (rest := []) ⟨hx, hb, hml, hown, htg⟩ (c_X6_thrown l dC dI r k v9) (cwV 0 htg (wG_V (fun _ h => h) q_642 q_643 q_644 q_7 q_645) rfl rfl rfl (by decide +kernel) ⟨Nat.le_of_ble_eq_true rfl, Nat.le_of_ble_eq_true rfl⟩) (w_roV hK (w_Pl hP) (ci := 6) (q0 := 0) rfl (wR_g0 r k _) rfl) rfl rfl hl.1 rfl (lv_room (Nat.le_of_ble_eq_true rfl)) dL_law_1293 ⟨by show cells + 1 + 0 ≤ 1088; omega, by show slots + 6 + 0 ≤ 17721; omega⟩) (fun rt hrt => ?_)
  subst hrt
  refine lv_iload hx hb dL_law_1296 (lv_at hl 0 rfl) ?_
  refine lv_icmp_eq (tgt := 1303) hx hb dL_law_1298 (by decide) (fun c_1298 => ?_) (fun c_1298 => ?_)
  · refine lv_goto (tgt := 1375) hx hb dL_law_1303 (by decide) ?_
    exact kk x9 v9 H locs ls ⟨g3, by omega, w_Psw hP, w_Dsw hD, hS, lv_sub hl [1,2,3,4,5] rfl⟩
  · exact absurd g1.symm c_1298
set_option maxHeartbeats 8000000 in
set_option maxRecDepth 100000 in
theorem law_verify {p : Program} {l : Launch} {e : Env} {s : State} {m : MethodId} {below : List Frame} {meth : Method} {c : Code} {b L : Nat} {xs : Nat → Int32} {dC : Nat → ClassId} {dI : Nat → Nat → Nat} {k : c_K} {a : Nat → Nat} {o : Nat} {r : Nat → Nat} {x : c_X} {v : c_St} {H : Heap} {locs : List Loc} {ls : Array Slot} {cells slots t : Nat} {Q : State → Prop} (hC : law_C p l s m c b L xs dC dI k) (ht : 8 * t + 8 ≤ L) (hI : law_I s b dC dI k a o r x v t t H locs ls) (hcs : cells + 1 ≤ 1088 ∧ slots + 6 ≤ 17721)
    (kk : ∀ (x1 : c_X) (v1 : c_St) (H1 : Heap) (locs1 : List Loc) (ls1 : Array Slot), law_I s b dC dI k a o r x1 v1 (t + 1) t H1 locs1 ls1 → W p l e room_1 s m #[Value.ref b] below meth c H1 locs1 (cells + 1) (slots + 6) Q (F0 m 1375 ls1 [])) : W p l e room_1 s m #[Value.ref b] below meth c H locs cells slots Q (F0 m 1306 ls []) := by
  obtain ⟨hx, hb, hml, hown, htg, hX, hbl, hK, hX0, hNC, hst, hL⟩ := hC
  obtain ⟨hR, hN4, hP, hD, hS, hl⟩ := hI
  have hbA : ¬ s.heap.size ≤ b := by omega
  have hA : ∀ q : Nat, s.heap.size ≤ q → (fun q => s.heap.size ≤ q) q := fun q h => h
  refine lv_aload_n hx hb dL_law_1306 rfl (lv_at hl 3 rfl) ?_
  have hPc : va_P (dC, dI) vwCl (wC a k x.1 ++ wO o k x.2) H := w_Pl hP
  refine vp_callSi (W.runV (cc := cL_law) (Ts := wG) (As := []) (rest := []) ⟨hx, hb, hml, hown, htg⟩ (c_X5_verify l dC dI a k x.1 hR.1 ) (cwV 0 htg (wG_V (fun _ h => h) q_222 q_223 q_224 q_1 q_225) rfl rfl rfl (by decide +kernel) ⟨Nat.le_of_ble_eq_true rfl, Nat.le_of_ble_eq_true rfl⟩) (w_roV hK (w_Pl hPc) (ci := 5) (q0 := 0) rfl (wC_g0 a k _) rfl) rfl rfl hl.1 rfl (lv_room (Nat.le_of_ble_eq_true rfl)) dL_law_1307 ⟨by show cells + 0 ≤ 1088; omega, by show slots + 0 ≤ 17721; omega⟩) (fun rt hrt => ?_)
  subst hrt
  refine lv_aload_n hx hb dL_law_1310 rfl (lv_at hl 2 rfl) ?_
  have hP := w_Psw hP
  have hD := w_Dsw hD
  refine w_calli (w := wR r k) (va_runV (cc := cL_law) (Ts := wG) (As := []) (rest := [.int (iI (c_vf x.1 (cu_N x.1 0)))]) ⟨hx, hb, hml, hown, htg⟩ (c_X6_verify l dC dI r k v _ hR.mok ) (cwV 0 htg (wG_V (fun _ h => h) q_770 q_771 q_772 q_7 q_773) rfl rfl rfl (by decide +kernel) ⟨Nat.le_of_ble_eq_true rfl, Nat.le_of_ble_eq_true rfl⟩) (w_muV hK (w_Pl hP) (w_Dl hD) (ci := 6) (q0 := 0) rfl (wR_g0 r k _) rfl) rfl rfl hl.1 rfl (lv_room (Nat.le_of_ble_eq_true rfl)) dL_law_1311 ⟨by show cells + 0 ≤ 1088; omega, by show slots + 0 ≤ 17721; omega⟩) hP hD hS hA (fun b9 v9 H locs hq9 hP hD hS => ?_)
  obtain ⟨e1, e2⟩ := hq9
  subst e1
  have e9 : iI (c_vf x.1 (cu_N x.1 0)) = b9 := by rw [e2, (hR.th 0).vf (by show cu_N v 0 ≤ cu_N x.1 0; rw [hR.2.2.1.1]; exact Nat.le_refl _), show cu_N (cs_N v 4 0) 0 = cu_N x.1 0 from hR.2.2.1.1]
  refine lv_icmp_eq (tgt := 1375) hx hb dL_law_1314 (by decide) (fun c_1314 => ?_) (fun c_1314 => ?_)
  · refine W.widen (k := cells + 1) (n := slots + 6) (by omega) (by omega) ?_
    exact kk x (cs_N v 4 0) H locs ls ⟨hR.th 0, by omega, w_Psw hP, w_Dsw hD, hS, lv_sub hl [0,1,2,3,4] rfl⟩
  · exact absurd e9 c_1314
set_option maxHeartbeats 8000000 in
set_option maxRecDepth 100000 in
theorem law_count {p : Program} {l : Launch} {e : Env} {s : State} {m : MethodId} {below : List Frame} {meth : Method} {c : Code} {b L : Nat} {xs : Nat → Int32} {dC : Nat → ClassId} {dI : Nat → Nat → Nat} {k : c_K} {a : Nat → Nat} {o : Nat} {r : Nat → Nat} {x : c_X} {v : c_St} {H : Heap} {locs : List Loc} {ls : Array Slot} {cells slots t : Nat} {Q : State → Prop} (hC : law_C p l s m c b L xs dC dI k) (ht : 8 * t + 8 ≤ L) (hI : law_I s b dC dI k a o r x v t t H locs ls) (hcs : cells + 1 ≤ 1088 ∧ slots + 6 ≤ 17721)
    (kk : ∀ (x1 : c_X) (v1 : c_St) (H1 : Heap) (locs1 : List Loc) (ls1 : Array Slot), law_I s b dC dI k a o r x1 v1 (t + 1) t H1 locs1 ls1 → W p l e room_1 s m #[Value.ref b] below meth c H1 locs1 (cells + 1) (slots + 6) Q (F0 m 1375 ls1 [])) : W p l e room_1 s m #[Value.ref b] below meth c H locs cells slots Q (F0 m 1319 ls []) := by
  obtain ⟨hx, hb, hml, hown, htg, hX, hbl, hK, hX0, hNC, hst, hL⟩ := hC
  obtain ⟨hR, hN4, hP, hD, hS, hl⟩ := hI
  have hbA : ¬ s.heap.size ≤ b := by omega
  have hA : ∀ q : Nat, s.heap.size ≤ q → (fun q => s.heap.size ≤ q) q := fun q h => h
  refine lv_aload_n hx hb dL_law_1319 rfl (lv_at hl 3 rfl) ?_
  refine lv_aload_n hx hb dL_law_1320 rfl (lv_at hl 4 rfl) ?_
  refine lv_iload hx hb dL_law_1321 (lv_at hl 0 rfl) ?_
  refine lv_iconst (v := 1) hx hb dL_law_1323 (by decide) ?_
  refine lv_iadd hx hb dL_law_1324 ?_
  refine wtopi (nI (8 * t + 1)) (nI_add (8 * t) 1) ?_
  refine va_sld hx hb hX hbl hbA hS (vp_in_nI (n := 8 * t + 1) (N := L) (by omega) (by omega)) dL_law_1325 ?_
  refine wtopi (xs (8 * t + 1)) (congrArg xs (nI_clamp (n := 8 * t + 1) (by omega))) ?_
  refine lv_aload_n hx hb dL_law_1326 rfl (lv_at hl 1 rfl) ?_
  have hXx : w_x (va_A (wL a o k x) H.size) s H := (hX0.kept (fun z h1 h2 => hS.2.1 z h1 h2)).narrow (fun q hq => w_F (w_Dl hD) hS hA q hq)
  refine w_calli (w := wL a o k) (x_runSW (cc := cL_law) (Ts := wG) (bytes := cL_count) (maxL := 4) (ret := some .int) (hh := [(0, 9, 12, 13)]) (As := [.ref (a 0), .int (xs (8 * t + 1)), .ref o]) (rest := []) ⟨hx, hb, hml, hown, htg⟩ (u_count l dC dI a k x.1 o x.2 _ hst v hR (by omega) (xs (8 * t + 1))) rfl rfl (Nat.le_of_ble_eq_true rfl) (Nat.le_of_ble_eq_true rfl) (pay_in htg (wG_I (fun _ h => h) q_569)) List.mem_cons_self (htg _ q_569) (htg _ q_0) (htg _ q_568) (htg _ q_567) (by decide +kernel) (show _ = some 3 by decide +kernel) (w_wrS hK (w_Pl hP) (w_Dl hD) hXx hNC) rfl hl.1 rfl (lv_room (Nat.le_of_ble_eq_true rfl)) dL_law_1327 hcs) hP hD hS hA (fun r9 x9 H locs hp9 hP hD hS => ?_)
  refine lv_istore (lv' := [(5, .int r9), (4, .int (nI (8 * t))), (3, .ref o), (2, .ref (r 0)), (1, .ref (a 0)), (0, .ref b)]) hx hb dL_law_1330 hl (by decide) rfl (fun ls hl => ?_)
  refine lv_aload_n hx hb dL_law_1332 rfl (lv_at hl 3 rfl) ?_
  refine lv_aload_n hx hb dL_law_1333 rfl (lv_at hl 5 rfl) ?_
  refine lv_iload hx hb dL_law_1334 (lv_at hl 1 rfl) ?_
  refine lv_iconst (v := 1) hx hb dL_law_1336 (by decide) ?_
  refine lv_iadd hx hb dL_law_1337 ?_
  refine wtopi (nI (8 * t + 1)) (nI_add (8 * t) 1) ?_
  refine va_sld hx hb hX hbl hbA hS (vp_in_nI (n := 8 * t + 1) (N := L) (by omega) (by omega)) dL_law_1338 ?_
  refine wtopi (xs (8 * t + 1)) (congrArg xs (nI_clamp (n := 8 * t + 1) (by omega))) ?_
  have hP := w_Psw hP
  have hD := w_Dsw hD
  refine w_calli (w := wR r k) (va_runV (cc := cL_law) (Ts := wG) (As := [.int (xs (8 * t + 1))]) (rest := []) ⟨hx, hb, hml, hown, htg⟩ (c_X6_count l dC dI r k v _ hR.mok (xs (8 * t + 1))) (cwV 1 htg (wG_V (fun _ h => h) q_774 q_775 q_776 q_7 q_777) rfl rfl rfl (by decide +kernel) ⟨Nat.le_of_ble_eq_true rfl, Nat.le_of_ble_eq_true rfl⟩) (w_muV hK (w_Pl hP) (w_Dl hD) (ci := 6) (q0 := 0) rfl (wR_g0 r k _) rfl) rfl rfl hl.1 rfl (lv_room (Nat.le_of_ble_eq_true rfl)) dL_law_1339 ⟨by show cells + 1 + 0 ≤ 1088; omega, by show slots + 6 + 0 ≤ 17721; omega⟩) hP hD hS hA (fun b9 v9 H locs hq9 hP hD hS => ?_)
  refine lv_istore (lv' := [(6, .int b9), (5, .int r9), (4, .int (nI (8 * t))), (3, .ref o), (2, .ref (r 0)), (1, .ref (a 0)), (0, .ref b)]) hx hb dL_law_1342 hl (by decide) rfl (fun ls hl => ?_)
  refine lv_aload_n hx hb dL_law_1344 rfl (lv_at hl 4 rfl) ?_
  obtain ⟨g1, g2, g3, g4⟩ := hp9 b9 v9 hq9
  refine vp_callSi (W.runV (cc := cL_law) (Ts := wG) (As := []) (rest := []) ⟨hx, hb, hml, hown, htg⟩ (c_X6_thrown l dC dI r k v9) (cwV 0 htg (wG_V (fun _ h => h) q_642 q_643 q_644 q_7 q_645) rfl rfl rfl (by decide +kernel) ⟨Nat.le_of_ble_eq_true rfl, Nat.le_of_ble_eq_true rfl⟩) (w_roV hK (w_Pl hP) (ci := 6) (q0 := 0) rfl (wR_g0 r k _) rfl) rfl rfl hl.1 rfl (lv_room (Nat.le_of_ble_eq_true rfl)) dL_law_1345 ⟨by show cells + 1 + 0 ≤ 1088; omega, by show slots + 6 + 0 ≤ 17721; omega⟩) (fun rt hrt => ?_)
  subst hrt
  refine lv_iload hx hb dL_law_1348 (lv_at hl 1 rfl) ?_
  refine lv_icmp_eq (tgt := 1355) hx hb dL_law_1350 (by decide) (fun c_1350 => ?_) (fun c_1350 => ?_)
  · refine lv_iload hx hb dL_law_1355 (lv_at hl 1 rfl) ?_
    refine lv_if_ne (tgt := 1372) hx hb dL_law_1357 (by decide) (fun c_1357 => ?_) (fun c_1357 => ?_)
    · refine lv_goto (tgt := 1375) hx hb dL_law_1372 (by decide) ?_
      exact kk x9 v9 H locs ls ⟨g3, by omega, w_Psw hP, w_Dsw hD, hS, lv_sub hl [2,3,4,5,6] rfl⟩
    · have c_ne := c_1357
      refine lv_aload_n hx hb dL_law_1360 rfl (lv_at hl 3 rfl) ?_
      refine lv_iconst (v := 0) hx hb dL_law_1361 (by decide) ?_
      refine va_lald hx hb hK hP 42 1 (wL_g26 a o r k _ _) rfl (i := 0) vp_in01 dL_law_1362 ?_
      refine wtopl (x9.2 0) (by rfl) ?_
      refine lv_iload hx hb dL_law_1363 (lv_at hl 0 rfl) ?_
      refine lv_i2l hx hb dL_law_1365 rfl ?_
      refine W.lcmp hx hb dL_law_1366 ?_
      refine wtopi 0 (lg_same (g2 c_ne)) ?_
      refine lv_if_eq (tgt := 1372) hx hb dL_law_1367 (by decide) (fun _ => ?_) (fun h9 => absurd h9 (by decide))
      refine lv_goto (tgt := 1375) hx hb dL_law_1372 (by decide) ?_
      exact kk x9 v9 H locs ls ⟨g3, by omega, w_Psw hP, w_Dsw hD, hS, lv_sub hl [2,3,4,5,6] rfl⟩
  · exact absurd g1.symm c_1350
