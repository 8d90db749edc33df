/-! the law's loop -/
section LOO
theorem and31 (x : Int32) : ∃ j : Nat, j ≤ 31 ∧ x &&& 31 = nI j := by
  refine ⟨(x &&& 31).toBitVec.toNat, ?_, Int32.toBitVec_inj.mp ?_⟩
  · rw [Int32.toBitVec_and, BitVec.toNat_and]
    exact Nat.and_le_right
  · show _ = BitVec.ofNat 32 _
    rw [BitVec.ofNat_toNat, BitVec.setWidth_eq]
variable {p : Program} {l : Launch} {e : Env} {s : State} {m : MethodId} {below : List Frame} {meth : Method} {c : Code} {b L : Nat} {xs : Nat → Int32} {dC : Nat → ClassId} {dI : Nat → Nat → Nat} {k : c_K} {a : Nat → Nat} {o : Nat} {r : Nat → Nat} {x : c_X} {v : c_St} {H : Heap} {locs : List Loc} {ls : Array Slot} {cells slots t : Nat} {Q : State → Prop}
set_option maxHeartbeats 8000000 in
set_option maxRecDepth 100000 in
theorem law_body (hC : law_C p l s m c b L xs dC dI k) (ht : 8 * t + 8 ≤ L) (hI : law_I s b dC dI k a o r x v t t H locs ls) (hcs : cells + 1 ≤ 1088 ∧ slots + 6 ≤ 17721)
    (kk : ∀ (x1 : c_X) (v1 : c_St) (H1 : Heap) (locs1 : List Loc) (ls1 : Array Slot), law_I s b dC dI k a o r x1 v1 (t + 1) t H1 locs1 ls1 → W p l e room_1 s m #[Value.ref b] below meth c H1 locs1 (cells + 1) (slots + 6) Q (F0 m 1375 ls1 [])) : W p l e room_1 s m #[Value.ref b] below meth c H locs cells slots Q (F0 m 33 ls []) := by
  have hC9 := hC
  have hI9 := hI
  obtain ⟨hx, hb, hml, hown, htg, hX, hbl, hK, hX0, hNC, hst, hL⟩ := hC9
  obtain ⟨hR, hN4, hP, hD, hS, hl⟩ := hI9
  have hbA : ¬ s.heap.size ≤ b := by omega
  refine lv_aload_n hx hb dL_law_33 rfl (lv_at hl 4 rfl) ?_
  refine lv_iload hx hb dL_law_34 (lv_at hl 0 rfl) ?_
  refine va_sld hx hb hX hbl hbA hS (vp_in_nI (n := 8 * t) (N := L) (by omega) (by omega)) dL_law_36 ?_
  refine lv_bipush (v := 31) hx hb dL_law_37 (by decide) ?_
  refine lv_iand hx hb dL_law_39 ?_
  obtain ⟨j, hj, ej⟩ := and31 (xs (nI (8 * t)).toNatClampNeg)
  refine wtopi (nI j) ej ?_
  by_cases hj2 : j ≤ 18
  · rcases (show j = 0 ∨ j = 1 ∨ j = 2 ∨ j = 3 ∨ j = 4 ∨ j = 5 ∨ j = 6 ∨ j = 7 ∨ j = 8 ∨ j = 9 ∨ j = 10 ∨ j = 11 ∨ j = 12 ∨ j = 13 ∨ j = 14 ∨ j = 15 ∨ j = 16 ∨ j = 17 ∨ j = 18 by omega) with rfl | rfl | rfl | rfl | rfl | rfl | rfl | rfl | rfl | rfl | rfl | rfl | rfl | rfl | rfl | rfl | rfl | rfl | rfl
    · refine lv_tableIn hx hb dL_law_40 (by decide) (by decide) (off := 92) (by rfl) (tgt := 132) (by decide) ?_
      exact law_slot hC ht hI hcs kk
    · refine lv_tableIn hx hb dL_law_40 (by decide) (by decide) (off := 244) (by rfl) (tgt := 284) (by decide) ?_
      exact law_mark hC ht hI hcs kk
    · refine lv_tableIn hx hb dL_law_40 (by decide) (by decide) (off := 324) (by rfl) (tgt := 364) (by decide) ?_
      exact law_offset hC ht hI hcs kk
    · refine lv_tableIn hx hb dL_law_40 (by decide) (by decide) (off := 380) (by rfl) (tgt := 420) (by decide) ?_
      exact law_contradiction hC ht hI hcs kk
    · refine lv_tableIn hx hb dL_law_40 (by decide) (by decide) (off := 436) (by rfl) (tgt := 476) (by decide) ?_
      exact law_find hC ht hI hcs kk
    · refine lv_tableIn hx hb dL_law_40 (by decide) (by decide) (off := 540) (by rfl) (tgt := 580) (by decide) ?_
      exact law_time hC ht hI hcs kk
    · refine lv_tableIn hx hb dL_law_40 (by decide) (by decide) (off := 596) (by rfl) (tgt := 636) (by decide) ?_
      exact law_sum hC ht hI hcs kk
    · refine lv_tableIn hx hb dL_law_40 (by decide) (by decide) (off := 652) (by rfl) (tgt := 692) (by decide) ?_
      exact law_part hC ht hI hcs kk
    · refine lv_tableIn hx hb dL_law_40 (by decide) (by decide) (off := 732) (by rfl) (tgt := 772) (by decide) ?_
      exact law_size hC ht hI hcs kk
    · refine lv_tableIn hx hb dL_law_40 (by decide) (by decide) (off := 769) (by rfl) (tgt := 809) (by decide) ?_
      exact law_export hC ht hI hcs kk
    · refine lv_tableIn hx hb dL_law_40 (by decide) (by decide) (off := 806) (by rfl) (tgt := 846) (by decide) ?_
      exact law_hold hC ht hI hcs kk
    · refine lv_tableIn hx hb dL_law_40 (by decide) (by decide) (off := 870) (by rfl) (tgt := 910) (by decide) ?_
      exact law_drop hC ht hI hcs kk
    · refine lv_tableIn hx hb dL_law_40 (by decide) (by decide) (off := 926) (by rfl) (tgt := 966) (by decide) ?_
      exact law_certificate hC ht hI hcs kk
    · refine lv_tableIn hx hb dL_law_40 (by decide) (by decide) (off := 994) (by rfl) (tgt := 1034) (by decide) ?_
      exact law_right hC ht hI hcs kk
    · refine lv_tableIn hx hb dL_law_40 (by decide) (by decide) (off := 1070) (by rfl) (tgt := 1110) (by decide) ?_
      exact law_listen hC ht hI hcs kk
    · refine lv_tableIn hx hb dL_law_40 (by decide) (by decide) (off := 1138) (by rfl) (tgt := 1178) (by decide) ?_
      exact law_row hC ht hI hcs kk
    · refine lv_tableIn hx hb dL_law_40 (by decide) (by decide) (off := 1206) (by rfl) (tgt := 1246) (by decide) ?_
      exact law_poke hC ht hI hcs kk
    · refine lv_tableIn hx hb dL_law_40 (by decide) (by decide) (off := 1266) (by rfl) (tgt := 1306) (by decide) ?_
      exact law_verify hC ht hI hcs kk
    · refine lv_tableIn hx hb dL_law_40 (by decide) (by decide) (off := 1279) (by rfl) (tgt := 1319) (by decide) ?_
      exact law_count hC ht hI hcs kk
  · refine lv_tableOut hx hb dL_law_40 (Or.inr (by rw [nI_toInt (by omega)]; omega)) (tgt := 1375) (by decide) ?_
    refine W.widen (k := cells + 1) (n := slots + 6) (by omega) (by omega) ?_
    exact kk x v H locs ls ⟨hR, by omega, hP, hD, hS, hl⟩
set_option maxHeartbeats 8000000 in
theorem law_loop (hC : law_C p l s m c b L xs dC dI k) (hr : meth.sig.returnType = ret) (hlocks : meth.locks = false) : ∀ (d t : Nat) (x : c_X) (v : c_St) (H : Heap) (locs : List Loc) (ls : Array Slot) (cells slots : Nat), L ≤ 8 * (t + d) → t ≤ 512 → cells + (512 - t) ≤ 1088 → slots + 6 * (512 - t) ≤ 17721 →
    law_I s b dC dI k a o r x v t t H locs ls → W p l e room_1 s m #[Value.ref b] below meth c H locs cells slots (lw_Z below #[Value.ref b] s) (F0 m 23 ls []) := by
  have hC9 := hC
  obtain ⟨hx, hb, hml, hown, htg, hX, hbl, hK, hX0, hNC, hst, hL⟩ := hC9
  have hbA : ¬ s.heap.size ≤ b := by omega
  intro d
  induction d with
  | zero =>
    intro t x v H locs ls cells slots hd ht hc hs hI
    have hI9 := hI
    obtain ⟨hR, hN4, hP, hD, hS, hl⟩ := hI9
    refine lv_iload hx hb dL_law_23 (lv_at hl 0 rfl) ?_
    refine wtopi (iI ((8 * t : Nat) : Int)) (nI_iI _) ?_
    refine lv_aload_n hx hb dL_law_25 rfl (lv_at hl 4 rfl) ?_
    refine va_slen hx hb hX hbl hbA hS dL_law_26 ?_
    refine lv_bipush (v := 8) hx hb dL_law_27 (by decide) ?_
    refine lv_isub hx hb dL_law_29 ?_
    refine wtopi (iI ((L : Int) - 8)) (by rw [show (8 : Int32) = iI 8 from rfl, show Int32.ofNat L = nI L from rfl, nI_iI, iI_sub]) ?_
    refine ib_gt (a := ((8 * t : Nat) : Int)) (b := (L : Int) - 8) (tgt := 1381) hx hb (by omega) (by omega) (by omega) (by omega) rfl rfl dL_law_30 (by decide) (fun c_30 => ?_) (fun c_30 => ?_)
    · refine lv_iconst (v := 1) hx hb dL_law_1381 (by decide) ?_
      refine va_forget hS.2.2 ?_
      refine W.widen (k := 1088) (n := 17721) (by omega) (by omega) ?_
      exact lw_ret hx hb hr hlocks dL_law_1382
    · exact absurd c_30 (by omega)
  | succ d ih =>
    intro t x v H locs ls cells slots hd ht hc hs hI
    have hI9 := hI
    obtain ⟨hR, hN4, hP, hD, hS, hl⟩ := hI9
    refine lv_iload hx hb dL_law_23 (lv_at hl 0 rfl) ?_
    refine wtopi (iI ((8 * t : Nat) : Int)) (nI_iI _) ?_
    refine lv_aload_n hx hb dL_law_25 rfl (lv_at hl 4 rfl) ?_
    refine va_slen hx hb hX hbl hbA hS dL_law_26 ?_
    refine lv_bipush (v := 8) hx hb dL_law_27 (by decide) ?_
    refine lv_isub hx hb dL_law_29 ?_
    refine wtopi (iI ((L : Int) - 8)) (by rw [show (8 : Int32) = iI 8 from rfl, show Int32.ofNat L = nI L from rfl, nI_iI, iI_sub]) ?_
    refine ib_gt (a := ((8 * t : Nat) : Int)) (b := (L : Int) - 8) (tgt := 1381) hx hb (by omega) (by omega) (by omega) (by omega) rfl rfl dL_law_30 (by decide) (fun c_30 => ?_) (fun c_30 => ?_)
    · refine lv_iconst (v := 1) hx hb dL_law_1381 (by decide) ?_
      refine va_forget hS.2.2 ?_
      refine W.widen (k := 1088) (n := 17721) (by omega) (by omega) ?_
      exact lw_ret hx hb hr hlocks dL_law_1382
    · refine law_body hC (by omega) hI ⟨by omega, by omega⟩ (fun x1 v1 H1 locs1 ls1 hI1 => ?_)
      obtain ⟨hR, hN4, hP, hD, hS, hl⟩ := hI1
      refine lv_iinc (v := nI (8 * (t + 1))) (lv' := [(4, .int (nI (8 * (t + 1)))), (3, .ref o), (2, .ref (r 0)), (1, .ref (a 0)), (0, .ref b)]) hx hb dL_law_1375 hl (k := 0) rfl (by show nI (8 * t) + nI 8 = nI (8 * (t + 1)); rw [nI_add, show 8 * t + 8 = 8 * (t + 1) by omega]) (by decide) rfl (fun ls hl => ?_)
      refine lv_goto (tgt := 23) hx hb dL_law_1378 (by decide) ?_
      exact ih (t + 1) x1 v1 H1 locs1 ls (cells + 1) (slots + 6) (by omega) (by omega) (by omega) (by omega) ⟨hR, hN4, hP, hD, hS, hl⟩
end LOO
