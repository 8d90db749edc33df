/-! the law's loop: its cases -/
section LAW
/-- what holds all through the law -/
def law_C (p : Program) (l : Launch) (s : State) (m : MethodId) (c : Code) (b L : Nat) (xs : Nat → Int32) (dC : Nat → ClassId) (dI : Nat → Nat → Nat) (k : c_K) : Prop :=
  p.tables.exec = Jvm.exec ∧ c.code = code ∧ c.maxLocals = 7 ∧ s.vm.findClass RL = some m.cls ∧ (∀ w ∈ wG, w.before #[Value.ref b] s = true) ∧ va_X b L xs s s.heap ∧ b < s.heap.size ∧ va_K (dC, dI) vwCl (tC k) s ∧ w_x (fun q => s.heap.size ≤ q) s s.heap ∧ x_ncs s ∧ l.stackTraces = false ∧ L ≤ 4096
/-- what holds between two calls -/
def law_I (s : State) (b : Nat) (dC : Nat → ClassId) (dI : Nat → Nat → Nat) (k : c_K) (a : Nat → Nat) (o : Nat) (r : Nat → Nat) (x : c_X) (v : c_St) (tn ti : Nat) (H : Heap) (locs : List Loc) (ls : Array Slot) : Prop :=
  Rel x.1 v ∧ cu_N x.1 4 ≤ tn ∧ va_P (dC, dI) vwCl (wL a o k x ++ wR r k v) H ∧ va_D (fun q => s.heap.size ≤ q) (wL a o k x ++ wR r k v) ∧ va_S (fun q => s.heap.size ≤ q) s.heap H locs ∧ lv_has ls 7 [(4, .int (nI (8 * ti))), (3, .ref o), (2, .ref (r 0)), (1, .ref (a 0)), (0, .ref b)]
theorem lg_same {x y : Int64} (h : x = y) : lg_cmp x y = 0 := by subst h; simp [lg_cmp]
theorem wL_g26 (a : Nat → Nat) (o : Nat) (r : Nat → Nat) (k : c_K) (x : c_X) (v : c_St) : (wR r k v ++ wL a o k x)[42]? = some (o, .inl (k.2.1, 1, .inr (.inl x.2))) := rfl
end LAW
theorem law_cert {u v : c_St} (hR : Rel u v) {n : Nat} (hn : n < cu_N v 0) (hb : cu_B v 0 n = false) : cu_N v 2 < 200 := by
  obtain ⟨e0, -, e2, -, e4⟩ := hR.2.2.1
  rw [e0] at hn
  rw [hR.gone hn] at hb
  have hb2 : cu_B u 0 n = true := by cases h : cu_B u 0 n with
    | true => rfl
    | false => rw [h] at hb; cases hb
  obtain ⟨j, hj, -⟩ := hR.2.1.2.2.1 n hn hb2
  have := hR.1.1
  omega
theorem law_ct {u v : c_St} (hR : Rel u v) : cu_N v 2 ≤ 200 ∧ ∀ j, j < cu_N v 2 → cu_F v 6 j < 200 := by
  obtain ⟨e0, -, e2, -, e4⟩ := hR.2.2.1
  have := hR.1.1
  refine ⟨by omega, fun j hj => ?_⟩
  obtain ⟨a1, a2, -⟩ := hR.2.2.2.2.2.1 j (by omega)
  rw [a1]; omega
set_option maxHeartbeats 8000000 in
set_option maxRecDepth 100000 in
theorem law_slot {p : Program} {l : Launch} {e : Env} {s : State} {m : MethodId} {below : List Frame} {meth : Method} {c : Code} {b L : Nat} {xs : Nat → Int32} {dC : Nat → ClassId} {dI : Nat → Nat → Nat} {k : c_K} {a : Nat → Nat} {o : Nat} {r : Nat → Nat} {x : c_X} {v : c_St} {H : Heap} {locs : List Loc} {ls : Array Slot} {cells slots t : Nat} {Q : State → Prop} (hC : law_C p l s m c b L xs dC dI k) (ht : 8 * t + 8 ≤ L) (hI : law_I s b dC dI k a o r x v t t H locs ls) (hcs : cells + 1 ≤ 1088 ∧ slots + 6 ≤ 17721)
    (kk : ∀ (x1 : c_X) (v1 : c_St) (H1 : Heap) (locs1 : List Loc) (ls1 : Array Slot), law_I s b dC dI k a o r x1 v1 (t + 1) t H1 locs1 ls1 → W p l e room_1 s m #[Value.ref b] below meth c H1 locs1 (cells + 1) (slots + 6) Q (F0 m 1375 ls1 [])) : W p l e room_1 s m #[Value.ref b] below meth c H locs cells slots Q (F0 m 132 ls []) := by
  obtain ⟨hx, hb, hml, hown, htg, hX, hbl, hK, hX0, hNC, hst, hL⟩ := hC
  obtain ⟨hR, hN4, hP, hD, hS, hl⟩ := hI
  have hbA : ¬ s.heap.size ≤ b := by omega
  have hA : ∀ q : Nat, s.heap.size ≤ q → (fun q => s.heap.size ≤ q) q := fun q h => h
  refine lv_aload_n hx hb dL_law_132 rfl (lv_at hl 3 rfl) ?_
  refine lv_aload_n hx hb dL_law_133 rfl (lv_at hl 4 rfl) ?_
  refine lv_iload hx hb dL_law_134 (lv_at hl 0 rfl) ?_
  refine lv_iconst (v := 1) hx hb dL_law_136 (by decide) ?_
  refine lv_iadd hx hb dL_law_137 ?_
  refine wtopi (nI (8 * t + 1)) (nI_add (8 * t) 1) ?_
  refine va_sld hx hb hX hbl hbA hS (vp_in_nI (n := 8 * t + 1) (N := L) (by omega) (by omega)) dL_law_138 ?_
  refine wtopi (xs (8 * t + 1)) (congrArg xs (nI_clamp (n := 8 * t + 1) (by omega))) ?_
  refine lv_aload_n hx hb dL_law_139 rfl (lv_at hl 4 rfl) ?_
  refine lv_iload hx hb dL_law_140 (lv_at hl 0 rfl) ?_
  refine lv_iconst (v := 2) hx hb dL_law_142 (by decide) ?_
  refine lv_iadd hx hb dL_law_143 ?_
  refine wtopi (nI (8 * t + 2)) (nI_add (8 * t) 2) ?_
  refine va_sld hx hb hX hbl hbA hS (vp_in_nI (n := 8 * t + 2) (N := L) (by omega) (by omega)) dL_law_144 ?_
  refine wtopi (xs (8 * t + 2)) (congrArg xs (nI_clamp (n := 8 * t + 2) (by omega))) ?_
  refine lv_aload_n hx hb dL_law_145 rfl (lv_at hl 4 rfl) ?_
  refine lv_iload hx hb dL_law_146 (lv_at hl 0 rfl) ?_
  refine lv_iconst (v := 3) hx hb dL_law_148 (by decide) ?_
  refine lv_iadd hx hb dL_law_149 ?_
  refine wtopi (nI (8 * t + 3)) (nI_add (8 * t) 3) ?_
  refine va_sld hx hb hX hbl hbA hS (vp_in_nI (n := 8 * t + 3) (N := L) (by omega) (by omega)) dL_law_150 ?_
  refine wtopi (xs (8 * t + 3)) (congrArg xs (nI_clamp (n := 8 * t + 3) (by omega))) ?_
  refine lv_aload_n hx hb dL_law_151 rfl (lv_at hl 4 rfl) ?_
  refine lv_iload hx hb dL_law_152 (lv_at hl 0 rfl) ?_
  refine lv_iconst (v := 4) hx hb dL_law_154 (by decide) ?_
  refine lv_iadd hx hb dL_law_155 ?_
  refine wtopi (nI (8 * t + 4)) (nI_add (8 * t) 4) ?_
  refine va_sld hx hb hX hbl hbA hS (vp_in_nI (n := 8 * t + 4) (N := L) (by omega) (by omega)) dL_law_156 ?_
  refine wtopi (xs (8 * t + 4)) (congrArg xs (nI_clamp (n := 8 * t + 4) (by omega))) ?_
  refine lv_i2l hx hb dL_law_157 rfl ?_
  refine lv_bipush (v := 32) hx hb dL_law_158 (by decide) ?_
  refine lv_lshl hx hb dL_law_160 rfl ?_
  refine lv_aload_n hx hb dL_law_161 rfl (lv_at hl 4 rfl) ?_
  refine lv_iload hx hb dL_law_162 (lv_at hl 0 rfl) ?_
  refine lv_iconst (v := 5) hx hb dL_law_164 (by decide) ?_
  refine lv_iadd hx hb dL_law_165 ?_
  refine wtopi (nI (8 * t + 5)) (nI_add (8 * t) 5) ?_
  refine va_sld hx hb hX hbl hbA hS (vp_in_nI (n := 8 * t + 5) (N := L) (by omega) (by omega)) dL_law_166 ?_
  refine wtopi (xs (8 * t + 5)) (congrArg xs (nI_clamp (n := 8 * t + 5) (by omega))) ?_
  refine lv_i2l hx hb dL_law_167 rfl ?_
  refine lv_ldc2 (v := 4294967295) hx hb hown (htg _ q_778) dL_law_168 ?_
  refine lv_land hx hb dL_law_171 ?_
  refine lv_lor hx hb dL_law_172 ?_
  refine lv_aload_n hx hb dL_law_173 rfl (lv_at hl 4 rfl) ?_
  refine lv_iload hx hb dL_law_174 (lv_at hl 0 rfl) ?_
  refine lv_bipush (v := 6) hx hb dL_law_176 (by decide) ?_
  refine lv_iadd hx hb dL_law_178 ?_
  refine wtopi (nI (8 * t + 6)) (nI_add (8 * t) 6) ?_
  refine va_sld hx hb hX hbl hbA hS (vp_in_nI (n := 8 * t + 6) (N := L) (by omega) (by omega)) dL_law_179 ?_
  refine wtopi (xs (8 * t + 6)) (congrArg xs (nI_clamp (n := 8 * t + 6) (by omega))) ?_
  refine lv_aload_n hx hb dL_law_180 rfl (lv_at hl 4 rfl) ?_
  refine lv_iload hx hb dL_law_181 (lv_at hl 0 rfl) ?_
  refine lv_bipush (v := 7) hx hb dL_law_183 (by decide) ?_
  refine lv_iadd hx hb dL_law_185 ?_
  refine wtopi (nI (8 * t + 7)) (nI_add (8 * t) 7) ?_
  refine va_sld hx hb hX hbl hbA hS (vp_in_nI (n := 8 * t + 7) (N := L) (by omega) (by omega)) dL_law_186 ?_
  refine wtopi (xs (8 * t + 7)) (congrArg xs (nI_clamp (n := 8 * t + 7) (by omega))) ?_
  refine lv_aload_n hx hb dL_law_187 rfl (lv_at hl 1 rfl) ?_
  have hXx : w_x (va_A (wL a o k x) H.size) s H := (hX0.kept (fun z h1 h2 => hS.2.1 z h1 h2)).narrow (fun q hq => w_F (w_Dl hD) hS hA q hq)
  refine w_calli (w := wL a o k) (x_runSW (cc := cL_law) (Ts := wG) (bytes := cL_slot) (maxL := 10) (ret := some .int) (hh := [(0, 18, 21, 13), (0, 18, 25, 15), (0, 18, 29, 17)]) (As := [.ref (a 0), .int (xs (8 * t + 1)), .int (xs (8 * t + 2)), .int (xs (8 * t + 3)), .long ((((xs (8 * t + 4)).toInt64) <<< ((32 : Int32).toInt64 &&& 63)) ||| (((xs (8 * t + 5)).toInt64) &&& 4294967295)), .int (xs (8 * t + 6)), .int (xs (8 * t + 7)), .ref o]) (rest := []) ⟨hx, hb, hml, hown, htg⟩ (u_slot l dC dI a k x.1 o x.2 _ hst v hR (by omega) (xs (8 * t + 1)) (xs (8 * t + 2)) (xs (8 * t + 3)) ((((xs (8 * t + 4)).toInt64) <<< ((32 : Int32).toInt64 &&& 63)) ||| (((xs (8 * t + 5)).toInt64) &&& 4294967295)) (xs (8 * t + 6)) (xs (8 * t + 7))) rfl rfl (Nat.le_of_ble_eq_true rfl) (Nat.le_of_ble_eq_true rfl) (pay_in htg (wG_I (fun _ h => h) q_233)) List.mem_cons_self (htg _ q_233) (htg _ q_0) (htg _ q_232) (htg _ q_231) (by decide +kernel) (show _ = some 8 by decide +kernel) (w_wrS hK (w_Pl hP) (w_Dl hD) hXx hNC) rfl hl.1 rfl (lv_room (Nat.le_of_ble_eq_true rfl)) dL_law_188 hcs) hP hD hS hA (fun r9 x9 H locs hp9 hP hD hS => ?_)
  refine lv_istore (lv' := [(5, .int r9), (4, .int (nI (8 * t))), (3, .ref o), (2, .ref (r 0)), (1, .ref (a 0)), (0, .ref b)]) hx hb dL_law_191 hl (by decide) rfl (fun ls hl => ?_)
  refine lv_aload_n hx hb dL_law_193 rfl (lv_at hl 3 rfl) ?_
  refine lv_aload_n hx hb dL_law_194 rfl (lv_at hl 5 rfl) ?_
  refine lv_iload hx hb dL_law_195 (lv_at hl 1 rfl) ?_
  refine lv_iconst (v := 1) hx hb dL_law_197 (by decide) ?_
  refine lv_iadd hx hb dL_law_198 ?_
  refine wtopi (nI (8 * t + 1)) (nI_add (8 * t) 1) ?_
  refine va_sld hx hb hX hbl hbA hS (vp_in_nI (n := 8 * t + 1) (N := L) (by omega) (by omega)) dL_law_199 ?_
  refine wtopi (xs (8 * t + 1)) (congrArg xs (nI_clamp (n := 8 * t + 1) (by omega))) ?_
  refine lv_aload_n hx hb dL_law_200 rfl (lv_at hl 5 rfl) ?_
  refine lv_iload hx hb dL_law_201 (lv_at hl 1 rfl) ?_
  refine lv_iconst (v := 2) hx hb dL_law_203 (by decide) ?_
  refine lv_iadd hx hb dL_law_204 ?_
  refine wtopi (nI (8 * t + 2)) (nI_add (8 * t) 2) ?_
  refine va_sld hx hb hX hbl hbA hS (vp_in_nI (n := 8 * t + 2) (N := L) (by omega) (by omega)) dL_law_205 ?_
  refine wtopi (xs (8 * t + 2)) (congrArg xs (nI_clamp (n := 8 * t + 2) (by omega))) ?_
  refine lv_aload_n hx hb dL_law_206 rfl (lv_at hl 5 rfl) ?_
  refine lv_iload hx hb dL_law_207 (lv_at hl 1 rfl) ?_
  refine lv_iconst (v := 3) hx hb dL_law_209 (by decide) ?_
  refine lv_iadd hx hb dL_law_210 ?_
  refine wtopi (nI (8 * t + 3)) (nI_add (8 * t) 3) ?_
  refine va_sld hx hb hX hbl hbA hS (vp_in_nI (n := 8 * t + 3) (N := L) (by omega) (by omega)) dL_law_211 ?_
  refine wtopi (xs (8 * t + 3)) (congrArg xs (nI_clamp (n := 8 * t + 3) (by omega))) ?_
  refine lv_aload_n hx hb dL_law_212 rfl (lv_at hl 5 rfl) ?_
  refine lv_iload hx hb dL_law_213 (lv_at hl 1 rfl) ?_
  refine lv_iconst (v := 4) hx hb dL_law_215 (by decide) ?_
  refine lv_iadd hx hb dL_law_216 ?_
  refine wtopi (nI (8 * t + 4)) (nI_add (8 * t) 4) ?_
  refine va_sld hx hb hX hbl hbA hS (vp_in_nI (n := 8 * t + 4) (N := L) (by omega) (by omega)) dL_law_217 ?_
  refine wtopi (xs (8 * t + 4)) (congrArg xs (nI_clamp (n := 8 * t + 4) (by omega))) ?_
  refine lv_i2l hx hb dL_law_218 rfl ?_
  refine lv_bipush (v := 32) hx hb dL_law_219 (by decide) ?_
  refine lv_lshl hx hb dL_law_221 rfl ?_
  refine lv_aload_n hx hb dL_law_222 rfl (lv_at hl 5 rfl) ?_
  refine lv_iload hx hb dL_law_223 (lv_at hl 1 rfl) ?_
  refine lv_iconst (v := 5) hx hb dL_law_225 (by decide) ?_
  refine lv_iadd hx hb dL_law_226 ?_
  refine wtopi (nI (8 * t + 5)) (nI_add (8 * t) 5) ?_
  refine va_sld hx hb hX hbl hbA hS (vp_in_nI (n := 8 * t + 5) (N := L) (by omega) (by omega)) dL_law_227 ?_
  refine wtopi (xs (8 * t + 5)) (congrArg xs (nI_clamp (n := 8 * t + 5) (by omega))) ?_
  refine lv_i2l hx hb dL_law_228 rfl ?_
  refine lv_ldc2 (v := 4294967295) hx hb hown (htg _ q_778) dL_law_229 ?_
  refine lv_land hx hb dL_law_232 ?_
  refine lv_lor hx hb dL_law_233 ?_
  refine lv_aload_n hx hb dL_law_234 rfl (lv_at hl 5 rfl) ?_
  refine lv_iload hx hb dL_law_235 (lv_at hl 1 rfl) ?_
  refine lv_bipush (v := 6) hx hb dL_law_237 (by decide) ?_
  refine lv_iadd hx hb dL_law_239 ?_
  refine wtopi (nI (8 * t + 6)) (nI_add (8 * t) 6) ?_
  refine va_sld hx hb hX hbl hbA hS (vp_in_nI (n := 8 * t + 6) (N := L) (by omega) (by omega)) dL_law_240 ?_
  refine wtopi (xs (8 * t + 6)) (congrArg xs (nI_clamp (n := 8 * t + 6) (by omega))) ?_
  refine lv_aload_n hx hb dL_law_241 rfl (lv_at hl 5 rfl) ?_
  refine lv_iload hx hb dL_law_242 (lv_at hl 1 rfl) ?_
  refine lv_bipush (v := 7) hx hb dL_law_244 (by decide) ?_
  refine lv_iadd hx hb dL_law_246 ?_
  refine wtopi (nI (8 * t + 7)) (nI_add (8 * t) 7) ?_
  refine va_sld hx hb hX hbl hbA hS (vp_in_nI (n := 8 * t + 7) (N := L) (by omega) (by omega)) dL_law_247 ?_
  refine wtopi (xs (8 * t + 7)) (congrArg xs (nI_clamp (n := 8 * t + 7) (by omega))) ?_
  have hP := w_Psw hP
  have hD := w_Dsw hD
  refine w_calli (w := wR r k) (va_runV (cc := cL_law) (Ts := wG) (As := [.int (xs (8 * t + 1)), .int (xs (8 * t + 2)), .int (xs (8 * t + 3)), .long ((((xs (8 * t + 4)).toInt64) <<< ((32 : Int32).toInt64 &&& 63)) ||| (((xs (8 * t + 5)).toInt64) &&& 4294967295)), .int (xs (8 * t + 6)), .int (xs (8 * t + 7))]) (rest := []) ⟨hx, hb, hml, hown, htg⟩ (c_X6_slot l dC dI r k v _ hR.mok.1 (xs (8 * t + 1)) (xs (8 * t + 2)) (xs (8 * t + 3)) ((((xs (8 * t + 4)).toInt64) <<< ((32 : Int32).toInt64 &&& 63)) ||| (((xs (8 * t + 5)).toInt64) &&& 4294967295)) (xs (8 * t + 6)) (xs (8 * t + 7))) (cwV 6 htg (wG_V (fun _ h => h) q_646 q_647 q_648 q_7 q_649) rfl rfl rfl (by decide +kernel) ⟨Nat.le_of_ble_eq_true rfl, Nat.le_of_ble_eq_true rfl⟩) (w_muV hK (w_Pl hP) (w_Dl hD) (ci := 6) (q0 := 0) rfl (wR_g0 r k _) rfl) rfl rfl hl.1 rfl (lv_room (Nat.le_of_ble_eq_true rfl)) dL_law_248 ⟨by show cells + 1 + 0 ≤ 1088; omega, by show slots + 6 + 0 ≤ 17721; omega⟩) hP hD hS hA (fun b9 v9 H locs hq9 hP hD hS => ?_)
  refine lv_istore (lv' := [(6, .int b9), (5, .int r9), (4, .int (nI (8 * t))), (3, .ref o), (2, .ref (r 0)), (1, .ref (a 0)), (0, .ref b)]) hx hb dL_law_251 hl (by decide) rfl (fun ls hl => ?_)
  refine lv_aload_n hx hb dL_law_253 rfl (lv_at hl 4 rfl) ?_
  obtain ⟨g1, g2, g3, g4⟩ := hp9 b9 v9 hq9
  refine vp_callSi (W.runV (cc := cL_law) (Ts := wG) (As := []) (rest := []) ⟨hx, hb, hml, hown, htg⟩ (c_X6_thrown l dC dI r k v9) (cwV 0 htg (wG_V (fun _ h => h) q_642 q_643 q_644 q_7 q_645) rfl rfl rfl (by decide +kernel) ⟨Nat.le_of_ble_eq_true rfl, Nat.le_of_ble_eq_true rfl⟩) (w_roV hK (w_Pl hP) (ci := 6) (q0 := 0) rfl (wR_g0 r k _) rfl) rfl rfl hl.1 rfl (lv_room (Nat.le_of_ble_eq_true rfl)) dL_law_254 ⟨by show cells + 1 + 0 ≤ 1088; omega, by show slots + 6 + 0 ≤ 17721; omega⟩) (fun rt hrt => ?_)
  subst hrt
  refine lv_iload hx hb dL_law_257 (lv_at hl 1 rfl) ?_
  refine lv_icmp_eq (tgt := 264) hx hb dL_law_259 (by decide) (fun c_259 => ?_) (fun c_259 => ?_)
  · refine lv_iload hx hb dL_law_264 (lv_at hl 1 rfl) ?_
    refine lv_if_ne (tgt := 281) hx hb dL_law_266 (by decide) (fun c_266 => ?_) (fun c_266 => ?_)
    · refine lv_goto (tgt := 1375) hx hb dL_law_281 (by decide) ?_
      exact kk x9 v9 H locs ls ⟨g3, by omega, w_Psw hP, w_Dsw hD, hS, lv_sub hl [2,3,4,5,6] rfl⟩
    · have c_ne := c_266
      refine lv_aload_n hx hb dL_law_269 rfl (lv_at hl 3 rfl) ?_
      refine lv_iconst (v := 0) hx hb dL_law_270 (by decide) ?_
      refine va_lald hx hb hK hP 42 1 (wL_g26 a o r k _ _) rfl (i := 0) vp_in01 dL_law_271 ?_
      refine wtopl (x9.2 0) (by rfl) ?_
      refine lv_iload hx hb dL_law_272 (lv_at hl 0 rfl) ?_
      refine lv_i2l hx hb dL_law_274 rfl ?_
      refine W.lcmp hx hb dL_law_275 ?_
      refine wtopi 0 (lg_same (g2 c_ne)) ?_
      refine lv_if_eq (tgt := 281) hx hb dL_law_276 (by decide) (fun _ => ?_) (fun h9 => absurd h9 (by decide))
      refine lv_goto (tgt := 1375) hx hb dL_law_281 (by decide) ?_
      exact kk x9 v9 H locs ls ⟨g3, by omega, w_Psw hP, w_Dsw hD, hS, lv_sub hl [2,3,4,5,6] rfl⟩
  · exact absurd g1.symm c_259
set_option maxHeartbeats 8000000 in
set_option maxRecDepth 100000 in
theorem law_mark {p : Program} {l : Launch} {e : Env} {s : State} {m : MethodId} {below : List Frame} {meth : Method} {c : Code} {b L : Nat} {xs : Nat → Int32} {dC : Nat → ClassId} {dI : Nat → Nat → Nat} {k : c_K} {a : Nat → Nat} {o : Nat} {r : Nat → Nat} {x : c_X} {v : c_St} {H : Heap} {locs : List Loc} {ls : Array Slot} {cells slots t : Nat} {Q : State → Prop} (hC : law_C p l s m c b L xs dC dI k) (ht : 8 * t + 8 ≤ L) (hI : law_I s b dC dI k a o r x v t t H locs ls) (hcs : cells + 1 ≤ 1088 ∧ slots + 6 ≤ 17721)
    (kk : ∀ (x1 : c_X) (v1 : c_St) (H1 : Heap) (locs1 : List Loc) (ls1 : Array Slot), law_I s b dC dI k a o r x1 v1 (t + 1) t H1 locs1 ls1 → W p l e room_1 s m #[Value.ref b] below meth c H1 locs1 (cells + 1) (slots + 6) Q (F0 m 1375 ls1 [])) : W p l e room_1 s m #[Value.ref b] below meth c H locs cells slots Q (F0 m 284 ls []) := by
  obtain ⟨hx, hb, hml, hown, htg, hX, hbl, hK, hX0, hNC, hst, hL⟩ := hC
  obtain ⟨hR, hN4, hP, hD, hS, hl⟩ := hI
  have hbA : ¬ s.heap.size ≤ b := by omega
  have hA : ∀ q : Nat, s.heap.size ≤ q → (fun q => s.heap.size ≤ q) q := fun q h => h
  refine lv_aload_n hx hb dL_law_284 rfl (lv_at hl 3 rfl) ?_
  refine lv_aload_n hx hb dL_law_285 rfl (lv_at hl 4 rfl) ?_
  refine lv_iload hx hb dL_law_286 (lv_at hl 0 rfl) ?_
  refine lv_iconst (v := 1) hx hb dL_law_288 (by decide) ?_
  refine lv_iadd hx hb dL_law_289 ?_
  refine wtopi (nI (8 * t + 1)) (nI_add (8 * t) 1) ?_
  refine va_sld hx hb hX hbl hbA hS (vp_in_nI (n := 8 * t + 1) (N := L) (by omega) (by omega)) dL_law_290 ?_
  refine wtopi (xs (8 * t + 1)) (congrArg xs (nI_clamp (n := 8 * t + 1) (by omega))) ?_
  refine lv_aload_n hx hb dL_law_291 rfl (lv_at hl 4 rfl) ?_
  refine lv_iload hx hb dL_law_292 (lv_at hl 0 rfl) ?_
  refine lv_iconst (v := 2) hx hb dL_law_294 (by decide) ?_
  refine lv_iadd hx hb dL_law_295 ?_
  refine wtopi (nI (8 * t + 2)) (nI_add (8 * t) 2) ?_
  refine va_sld hx hb hX hbl hbA hS (vp_in_nI (n := 8 * t + 2) (N := L) (by omega) (by omega)) dL_law_296 ?_
  refine wtopi (xs (8 * t + 2)) (congrArg xs (nI_clamp (n := 8 * t + 2) (by omega))) ?_
  refine lv_aload_n hx hb dL_law_297 rfl (lv_at hl 4 rfl) ?_
  refine lv_iload hx hb dL_law_298 (lv_at hl 0 rfl) ?_
  refine lv_iconst (v := 3) hx hb dL_law_300 (by decide) ?_
  refine lv_iadd hx hb dL_law_301 ?_
  refine wtopi (nI (8 * t + 3)) (nI_add (8 * t) 3) ?_
  refine va_sld hx hb hX hbl hbA hS (vp_in_nI (n := 8 * t + 3) (N := L) (by omega) (by omega)) dL_law_302 ?_
  refine wtopi (xs (8 * t + 3)) (congrArg xs (nI_clamp (n := 8 * t + 3) (by omega))) ?_
  refine lv_aload_n hx hb dL_law_303 rfl (lv_at hl 1 rfl) ?_
  have hXx : w_x (va_A (wL a o k x) H.size) s H := (hX0.kept (fun z h1 h2 => hS.2.1 z h1 h2)).narrow (fun q hq => w_F (w_Dl hD) hS hA q hq)
  refine w_calli (w := wL a o k) (x_runSW (cc := cL_law) (Ts := wG) (bytes := cL_mark) (maxL := 6) (ret := some .int) (hh := [(0, 12, 15, 13), (0, 12, 19, 15), (0, 12, 23, 17)]) (As := [.ref (a 0), .int (xs (8 * t + 1)), .int (xs (8 * t + 2)), .int (xs (8 * t + 3)), .ref o]) (rest := []) ⟨hx, hb, hml, hown, htg⟩ (u_mark l dC dI a k x.1 o x.2 _ hst v hR (by omega) (xs (8 * t + 1)) (xs (8 * t + 2)) (xs (8 * t + 3))) rfl rfl (Nat.le_of_ble_eq_true rfl) (Nat.le_of_ble_eq_true rfl) (pay_in htg (wG_I (fun _ h => h) q_377)) List.mem_cons_self (htg _ q_377) (htg _ q_0) (htg _ q_376) (htg _ q_375) (by decide +kernel) (show _ = some 5 by decide +kernel) (w_wrS hK (w_Pl hP) (w_Dl hD) hXx hNC) rfl hl.1 rfl (lv_room (Nat.le_of_ble_eq_true rfl)) dL_law_304 hcs) hP hD hS hA (fun r9 x9 H locs hp9 hP hD hS => ?_)
  refine lv_istore (lv' := [(5, .int r9), (4, .int (nI (8 * t))), (3, .ref o), (2, .ref (r 0)), (1, .ref (a 0)), (0, .ref b)]) hx hb dL_law_307 hl (by decide) rfl (fun ls hl => ?_)
  refine lv_aload_n hx hb dL_law_309 rfl (lv_at hl 3 rfl) ?_
  refine lv_aload_n hx hb dL_law_310 rfl (lv_at hl 5 rfl) ?_
  refine lv_iload hx hb dL_law_311 (lv_at hl 1 rfl) ?_
  refine lv_iconst (v := 1) hx hb dL_law_313 (by decide) ?_
  refine lv_iadd hx hb dL_law_314 ?_
  refine wtopi (nI (8 * t + 1)) (nI_add (8 * t) 1) ?_
  refine va_sld hx hb hX hbl hbA hS (vp_in_nI (n := 8 * t + 1) (N := L) (by omega) (by omega)) dL_law_315 ?_
  refine wtopi (xs (8 * t + 1)) (congrArg xs (nI_clamp (n := 8 * t + 1) (by omega))) ?_
  refine lv_aload_n hx hb dL_law_316 rfl (lv_at hl 5 rfl) ?_
  refine lv_iload hx hb dL_law_317 (lv_at hl 1 rfl) ?_
  refine lv_iconst (v := 2) hx hb dL_law_319 (by decide) ?_
  refine lv_iadd hx hb dL_law_320 ?_
  refine wtopi (nI (8 * t + 2)) (nI_add (8 * t) 2) ?_
  refine va_sld hx hb hX hbl hbA hS (vp_in_nI (n := 8 * t + 2) (N := L) (by omega) (by omega)) dL_law_321 ?_
  refine wtopi (xs (8 * t + 2)) (congrArg xs (nI_clamp (n := 8 * t + 2) (by omega))) ?_
  refine lv_aload_n hx hb dL_law_322 rfl (lv_at hl 5 rfl) ?_
  refine lv_iload hx hb dL_law_323 (lv_at hl 1 rfl) ?_
  refine lv_iconst (v := 3) hx hb dL_law_325 (by decide) ?_
  refine lv_iadd hx hb dL_law_326 ?_
  refine wtopi (nI (8 * t + 3)) (nI_add (8 * t) 3) ?_
  refine va_sld hx hb hX hbl hbA hS (vp_in_nI (n := 8 * t + 3) (N := L) (by omega) (by omega)) dL_law_327 ?_
  refine wtopi (xs (8 * t + 3)) (congrArg xs (nI_clamp (n := 8 * t + 3) (by omega))) ?_
  have hP := w_Psw hP
  have hD := w_Dsw hD
  refine w_calli (w := wR r k) (va_runV (cc := cL_law) (Ts := wG) (As := [.int (xs (8 * t + 1)), .int (xs (8 * t + 2)), .int (xs (8 * t + 3))]) (rest := []) ⟨hx, hb, hml, hown, htg⟩ (c_X6_mark l dC dI r k v _ hR.mok.2.1 (xs (8 * t + 1)) (xs (8 * t + 2)) (xs (8 * t + 3))) (cwV 3 htg (wG_V (fun _ h => h) q_666 q_667 q_668 q_7 q_669) rfl rfl rfl (by decide +kernel) ⟨Nat.le_of_ble_eq_true rfl, Nat.le_of_ble_eq_true rfl⟩) (w_muV hK (w_Pl hP) (w_Dl hD) (ci := 6) (q0 := 0) rfl (wR_g0 r k _) rfl) rfl rfl hl.1 rfl (lv_room (Nat.le_of_ble_eq_true rfl)) dL_law_328 ⟨by show cells + 1 + 0 ≤ 1088; omega, by show slots + 6 + 0 ≤ 17721; omega⟩) hP hD hS hA (fun b9 v9 H locs hq9 hP hD hS => ?_)
  refine lv_istore (lv' := [(6, .int b9), (5, .int r9), (4, .int (nI (8 * t))), (3, .ref o), (2, .ref (r 0)), (1, .ref (a 0)), (0, .ref b)]) hx hb dL_law_331 hl (by decide) rfl (fun ls hl => ?_)
  refine lv_aload_n hx hb dL_law_333 rfl (lv_at hl 4 rfl) ?_
  obtain ⟨g1, g2, g3, g4⟩ := hp9 b9 v9 hq9
  refine vp_callSi (W.runV (cc := cL_law) (Ts := wG) (As := []) (rest := []) ⟨hx, hb, hml, hown, htg⟩ (c_X6_thrown l dC dI r k v9) (cwV 0 htg (wG_V (fun _ h => h) q_642 q_643 q_644 q_7 q_645) rfl rfl rfl (by decide +kernel) ⟨Nat.le_of_ble_eq_true rfl, Nat.le_of_ble_eq_true rfl⟩) (w_roV hK (w_Pl hP) (ci := 6) (q0 := 0) rfl (wR_g0 r k _) rfl) rfl rfl hl.1 rfl (lv_room (Nat.le_of_ble_eq_true rfl)) dL_law_334 ⟨by show cells + 1 + 0 ≤ 1088; omega, by show slots + 6 + 0 ≤ 17721; omega⟩) (fun rt hrt => ?_)
  subst hrt
  refine lv_iload hx hb dL_law_337 (lv_at hl 1 rfl) ?_
  refine lv_icmp_eq (tgt := 344) hx hb dL_law_339 (by decide) (fun c_339 => ?_) (fun c_339 => ?_)
  · refine lv_iload hx hb dL_law_344 (lv_at hl 1 rfl) ?_
    refine lv_if_ne (tgt := 361) hx hb dL_law_346 (by decide) (fun c_346 => ?_) (fun c_346 => ?_)
    · refine lv_goto (tgt := 1375) hx hb dL_law_361 (by decide) ?_
      exact kk x9 v9 H locs ls ⟨g3, by omega, w_Psw hP, w_Dsw hD, hS, lv_sub hl [2,3,4,5,6] rfl⟩
    · have c_ne := c_346
      refine lv_aload_n hx hb dL_law_349 rfl (lv_at hl 3 rfl) ?_
      refine lv_iconst (v := 0) hx hb dL_law_350 (by decide) ?_
      refine va_lald hx hb hK hP 42 1 (wL_g26 a o r k _ _) rfl (i := 0) vp_in01 dL_law_351 ?_
      refine wtopl (x9.2 0) (by rfl) ?_
      refine lv_iload hx hb dL_law_352 (lv_at hl 0 rfl) ?_
      refine lv_i2l hx hb dL_law_354 rfl ?_
      refine W.lcmp hx hb dL_law_355 ?_
      refine wtopi 0 (lg_same (g2 c_ne)) ?_
      refine lv_if_eq (tgt := 361) hx hb dL_law_356 (by decide) (fun _ => ?_) (fun h9 => absurd h9 (by decide))
      refine lv_goto (tgt := 1375) hx hb dL_law_361 (by decide) ?_
      exact kk x9 v9 H locs ls ⟨g3, by omega, w_Psw hP, w_Dsw hD, hS, lv_sub hl [2,3,4,5,6] rfl⟩
  · exact absurd g1.symm c_339
set_option maxHeartbeats 8000000 in
set_option maxRecDepth 100000 in
theorem law_offset {p : Program} {l : Launch} {e : Env} {s : State} {m : MethodId} {below : List Frame} {meth : Method} {c : Code} {b L : Nat} {xs : Nat → Int32} {dC : Nat → ClassId} {dI : Nat → Nat → Nat} {k : c_K} {a : Nat → Nat} {o : Nat} {r : Nat → Nat} {x : c_X} {v : c_St} {H : Heap} {locs : List Loc} {ls : Array Slot} {cells slots t : Nat} {Q : State → Prop} (hC : law_C p l s m c b L xs dC dI k) (ht : 8 * t + 8 ≤ L) (hI : law_I s b dC dI k a o r x v t t H locs ls) (hcs : cells + 1 ≤ 1088 ∧ slots + 6 ≤ 17721)
    (kk : ∀ (x1 : c_X) (v1 : c_St) (H1 : Heap) (locs1 : List Loc) (ls1 : Array Slot), law_I s b dC dI k a o r x1 v1 (t + 1) t H1 locs1 ls1 → W p l e room_1 s m #[Value.ref b] below meth c H1 locs1 (cells + 1) (slots + 6) Q (F0 m 1375 ls1 [])) : W p l e room_1 s m #[Value.ref b] below meth c H locs cells slots Q (F0 m 364 ls []) := by
  obtain ⟨hx, hb, hml, hown, htg, hX, hbl, hK, hX0, hNC, hst, hL⟩ := hC
  obtain ⟨hR, hN4, hP, hD, hS, hl⟩ := hI
  have hbA : ¬ s.heap.size ≤ b := by omega
  have hA : ∀ q : Nat, s.heap.size ≤ q → (fun q => s.heap.size ≤ q) q := fun q h => h
  refine lv_aload_n hx hb dL_law_364 rfl (lv_at hl 3 rfl) ?_
  refine lv_aload_n hx hb dL_law_365 rfl (lv_at hl 4 rfl) ?_
  refine lv_iload hx hb dL_law_366 (lv_at hl 0 rfl) ?_
  refine lv_iconst (v := 1) hx hb dL_law_368 (by decide) ?_
  refine lv_iadd hx hb dL_law_369 ?_
  refine wtopi (nI (8 * t + 1)) (nI_add (8 * t) 1) ?_
  refine va_sld hx hb hX hbl hbA hS (vp_in_nI (n := 8 * t + 1) (N := L) (by omega) (by omega)) dL_law_370 ?_
  refine wtopi (xs (8 * t + 1)) (congrArg xs (nI_clamp (n := 8 * t + 1) (by omega))) ?_
  refine lv_aload_n hx hb dL_law_371 rfl (lv_at hl 1 rfl) ?_
  have hXx : w_x (va_A (wL a o k x) H.size) s H := (hX0.kept (fun z h1 h2 => hS.2.1 z h1 h2)).narrow (fun q hq => w_F (w_Dl hD) hS hA q hq)
  refine w_calli (w := wL a o k) (x_runSW (cc := cL_law) (Ts := wG) (bytes := cL_offset) (maxL := 4) (ret := some .int) (hh := [(0, 9, 12, 13)]) (As := [.ref (a 0), .int (xs (8 * t + 1)), .ref o]) (rest := []) ⟨hx, hb, hml, hown, htg⟩ (u_offset l dC dI a k x.1 o x.2 _ hst v hR (by omega) (xs (8 * t + 1))) rfl rfl (Nat.le_of_ble_eq_true rfl) (Nat.le_of_ble_eq_true rfl) (pay_in htg (wG_I (fun _ h => h) q_393)) List.mem_cons_self (htg _ q_393) (htg _ q_0) (htg _ q_392) (htg _ q_391) (by decide +kernel) (show _ = some 3 by decide +kernel) (w_wrS hK (w_Pl hP) (w_Dl hD) hXx hNC) rfl hl.1 rfl (lv_room (Nat.le_of_ble_eq_true rfl)) dL_law_372 hcs) hP hD hS hA (fun r9 x9 H locs hp9 hP hD hS => ?_)
  refine lv_istore (lv' := [(5, .int r9), (4, .int (nI (8 * t))), (3, .ref o), (2, .ref (r 0)), (1, .ref (a 0)), (0, .ref b)]) hx hb dL_law_375 hl (by decide) rfl (fun ls hl => ?_)
  refine lv_aload_n hx hb dL_law_377 rfl (lv_at hl 3 rfl) ?_
  refine lv_aload_n hx hb dL_law_378 rfl (lv_at hl 5 rfl) ?_
  refine lv_iload hx hb dL_law_379 (lv_at hl 1 rfl) ?_
  refine lv_iconst (v := 1) hx hb dL_law_381 (by decide) ?_
  refine lv_iadd hx hb dL_law_382 ?_
  refine wtopi (nI (8 * t + 1)) (nI_add (8 * t) 1) ?_
  refine va_sld hx hb hX hbl hbA hS (vp_in_nI (n := 8 * t + 1) (N := L) (by omega) (by omega)) dL_law_383 ?_
  refine wtopi (xs (8 * t + 1)) (congrArg xs (nI_clamp (n := 8 * t + 1) (by omega))) ?_
  have hP := w_Psw hP
  have hD := w_Dsw hD
  refine w_calli (w := wR r k) (va_runV (cc := cL_law) (Ts := wG) (As := [.int (xs (8 * t + 1))]) (rest := []) ⟨hx, hb, hml, hown, htg⟩ (c_X6_offset l dC dI r k v _ hR.mok (xs (8 * t + 1))) (cwV 1 htg (wG_V (fun _ h => h) q_670 q_671 q_672 q_7 q_673) rfl rfl rfl (by decide +kernel) ⟨Nat.le_of_ble_eq_true rfl, Nat.le_of_ble_eq_true rfl⟩) (w_muV hK (w_Pl hP) (w_Dl hD) (ci := 6) (q0 := 0) rfl (wR_g0 r k _) rfl) rfl rfl hl.1 rfl (lv_room (Nat.le_of_ble_eq_true rfl)) dL_law_384 ⟨by show cells + 1 + 0 ≤ 1088; omega, by show slots + 6 + 0 ≤ 17721; omega⟩) hP hD hS hA (fun b9 v9 H locs hq9 hP hD hS => ?_)
  refine lv_istore (lv' := [(6, .int b9), (5, .int r9), (4, .int (nI (8 * t))), (3, .ref o), (2, .ref (r 0)), (1, .ref (a 0)), (0, .ref b)]) hx hb dL_law_387 hl (by decide) rfl (fun ls hl => ?_)
  refine lv_aload_n hx hb dL_law_389 rfl (lv_at hl 4 rfl) ?_
  obtain ⟨g1, g2, g3, g4⟩ := hp9 b9 v9 hq9
  refine vp_callSi (W.runV (cc := cL_law) (Ts := wG) (As := []) (rest := []) ⟨hx, hb, hml, hown, htg⟩ (c_X6_thrown l dC dI r k v9) (cwV 0 htg (wG_V (fun _ h => h) q_642 q_643 q_644 q_7 q_645) rfl rfl rfl (by decide +kernel) ⟨Nat.le_of_ble_eq_true rfl, Nat.le_of_ble_eq_true rfl⟩) (w_roV hK (w_Pl hP) (ci := 6) (q0 := 0) rfl (wR_g0 r k _) rfl) rfl rfl hl.1 rfl (lv_room (Nat.le_of_ble_eq_true rfl)) dL_law_390 ⟨by show cells + 1 + 0 ≤ 1088; omega, by show slots + 6 + 0 ≤ 17721; omega⟩) (fun rt hrt => ?_)
  subst hrt
  refine lv_iload hx hb dL_law_393 (lv_at hl 1 rfl) ?_
  refine lv_icmp_eq (tgt := 400) hx hb dL_law_395 (by decide) (fun c_395 => ?_) (fun c_395 => ?_)
  · refine lv_iload hx hb dL_law_400 (lv_at hl 1 rfl) ?_
    refine lv_if_ne (tgt := 417) hx hb dL_law_402 (by decide) (fun c_402 => ?_) (fun c_402 => ?_)
    · refine lv_goto (tgt := 1375) hx hb dL_law_417 (by decide) ?_
      exact kk x9 v9 H locs ls ⟨g3, by omega, w_Psw hP, w_Dsw hD, hS, lv_sub hl [2,3,4,5,6] rfl⟩
    · have c_ne := c_402
      refine lv_aload_n hx hb dL_law_405 rfl (lv_at hl 3 rfl) ?_
      refine lv_iconst (v := 0) hx hb dL_law_406 (by decide) ?_
      refine va_lald hx hb hK hP 42 1 (wL_g26 a o r k _ _) rfl (i := 0) vp_in01 dL_law_407 ?_
      refine wtopl (x9.2 0) (by rfl) ?_
      refine lv_iload hx hb dL_law_408 (lv_at hl 0 rfl) ?_
      refine lv_i2l hx hb dL_law_410 rfl ?_
      refine W.lcmp hx hb dL_law_411 ?_
      refine wtopi 0 (lg_same (g2 c_ne)) ?_
      refine lv_if_eq (tgt := 417) hx hb dL_law_412 (by decide) (fun _ => ?_) (fun h9 => absurd h9 (by decide))
      refine lv_goto (tgt := 1375) hx hb dL_law_417 (by decide) ?_
      exact kk x9 v9 H locs ls ⟨g3, by omega, w_Psw hP, w_Dsw hD, hS, lv_sub hl [2,3,4,5,6] rfl⟩
  · exact absurd g1.symm c_395
set_option maxHeartbeats 8000000 in
set_option maxRecDepth 100000 in
theorem law_contradiction {p : Program} {l : Launch} {e : Env} {s : State} {m : MethodId} {below : List Frame} {meth : Method} {c : Code} {b L : Nat} {xs : Nat → Int32} {dC : Nat → ClassId} {dI : Nat → Nat → Nat} {k : c_K} {a : Nat → Nat} {o : Nat} {r : Nat → Nat} {x : c_X} {v : c_St} {H : Heap} {locs : List Loc} {ls : Array Slot} {cells slots t : Nat} {Q : State → Prop} (hC : law_C p l s m c b L xs dC dI k) (ht : 8 * t + 8 ≤ L) (hI : law_I s b dC dI k a o r x v t t H locs ls) (hcs : cells + 1 ≤ 1088 ∧ slots + 6 ≤ 17721)
    (kk : ∀ (x1 : c_X) (v1 : c_St) (H1 : Heap) (locs1 : List Loc) (ls1 : Array Slot), law_I s b dC dI k a o r x1 v1 (t + 1) t H1 locs1 ls1 → W p l e room_1 s m #[Value.ref b] below meth c H1 locs1 (cells + 1) (slots + 6) Q (F0 m 1375 ls1 [])) : W p l e room_1 s m #[Value.ref b] below meth c H locs cells slots Q (F0 m 420 ls []) := by
  obtain ⟨hx, hb, hml, hown, htg, hX, hbl, hK, hX0, hNC, hst, hL⟩ := hC
  obtain ⟨hR, hN4, hP, hD, hS, hl⟩ := hI
  have hbA : ¬ s.heap.size ≤ b := by omega
  have hA : ∀ q : Nat, s.heap.size ≤ q → (fun q => s.heap.size ≤ q) q := fun q h => h
  refine lv_aload_n hx hb dL_law_420 rfl (lv_at hl 3 rfl) ?_
  refine lv_aload_n hx hb dL_law_421 rfl (lv_at hl 4 rfl) ?_
  refine lv_iload hx hb dL_law_422 (lv_at hl 0 rfl) ?_
  refine lv_iconst (v := 1) hx hb dL_law_424 (by decide) ?_
  refine lv_iadd hx hb dL_law_425 ?_
  refine wtopi (nI (8 * t + 1)) (nI_add (8 * t) 1) ?_
  refine va_sld hx hb hX hbl hbA hS (vp_in_nI (n := 8 * t + 1) (N := L) (by omega) (by omega)) dL_law_426 ?_
  refine wtopi (xs (8 * t + 1)) (congrArg xs (nI_clamp (n := 8 * t + 1) (by omega))) ?_
  refine lv_aload_n hx hb dL_law_427 rfl (lv_at hl 1 rfl) ?_
  have hXx : w_x (va_A (wL a o k x) H.size) s H := (hX0.kept (fun z h1 h2 => hS.2.1 z h1 h2)).narrow (fun q hq => w_F (w_Dl hD) hS hA q hq)
  refine w_calli (w := wL a o k) (x_runSW (cc := cL_law) (Ts := wG) (bytes := cL_contradiction) (maxL := 4) (ret := some .int) (hh := [(0, 9, 12, 15)]) (As := [.ref (a 0), .int (xs (8 * t + 1)), .ref o]) (rest := []) ⟨hx, hb, hml, hown, htg⟩ (u_contradiction l dC dI a k x.1 o x.2 _ hst v hR (by omega) (xs (8 * t + 1))) rfl rfl (Nat.le_of_ble_eq_true rfl) (Nat.le_of_ble_eq_true rfl) (pay_in htg (wG_I (fun _ h => h) q_401)) List.mem_cons_self (htg _ q_401) (htg _ q_0) (htg _ q_400) (htg _ q_399) (by decide +kernel) (show _ = some 3 by decide +kernel) (w_wrS hK (w_Pl hP) (w_Dl hD) hXx hNC) rfl hl.1 rfl (lv_room (Nat.le_of_ble_eq_true rfl)) dL_law_428 hcs) hP hD hS hA (fun r9 x9 H locs hp9 hP hD hS => ?_)
  refine lv_istore (lv' := [(5, .int r9), (4, .int (nI (8 * t))), (3, .ref o), (2, .ref (r 0)), (1, .ref (a 0)), (0, .ref b)]) hx hb dL_law_431 hl (by decide) rfl (fun ls hl => ?_)
  refine lv_aload_n hx hb dL_law_433 rfl (lv_at hl 3 rfl) ?_
  refine lv_aload_n hx hb dL_law_434 rfl (lv_at hl 5 rfl) ?_
  refine lv_iload hx hb dL_law_435 (lv_at hl 1 rfl) ?_
  refine lv_iconst (v := 1) hx hb dL_law_437 (by decide) ?_
  refine lv_iadd hx hb dL_law_438 ?_
  refine wtopi (nI (8 * t + 1)) (nI_add (8 * t) 1) ?_
  refine va_sld hx hb hX hbl hbA hS (vp_in_nI (n := 8 * t + 1) (N := L) (by omega) (by omega)) dL_law_439 ?_
  refine wtopi (xs (8 * t + 1)) (congrArg xs (nI_clamp (n := 8 * t + 1) (by omega))) ?_
  have hP := w_Psw hP
  have hD := w_Dsw hD
  refine w_calli (w := wR r k) (va_runV (cc := cL_law) (Ts := wG) (As := [.int (xs (8 * t + 1))]) (rest := []) ⟨hx, hb, hml, hown, htg⟩ (c_X6_contradiction l dC dI r k v _ hR.mok (xs (8 * t + 1))) (cwV 1 htg (wG_V (fun _ h => h) q_682 q_683 q_684 q_7 q_685) rfl rfl rfl (by decide +kernel) ⟨Nat.le_of_ble_eq_true rfl, Nat.le_of_ble_eq_true rfl⟩) (w_muV hK (w_Pl hP) (w_Dl hD) (ci := 6) (q0 := 0) rfl (wR_g0 r k _) rfl) rfl rfl hl.1 rfl (lv_room (Nat.le_of_ble_eq_true rfl)) dL_law_440 ⟨by show cells + 1 + 0 ≤ 1088; omega, by show slots + 6 + 0 ≤ 17721; omega⟩) hP hD hS hA (fun b9 v9 H locs hq9 hP hD hS => ?_)
  refine lv_istore (lv' := [(6, .int b9), (5, .int r9), (4, .int (nI (8 * t))), (3, .ref o), (2, .ref (r 0)), (1, .ref (a 0)), (0, .ref b)]) hx hb dL_law_443 hl (by decide) rfl (fun ls hl => ?_)
  refine lv_aload_n hx hb dL_law_445 rfl (lv_at hl 4 rfl) ?_
  obtain ⟨g1, g2, g3, g4⟩ := hp9 b9 v9 hq9
  refine vp_callSi (W.runV (cc := cL_law) (Ts := wG) (As := []) (rest := []) ⟨hx, hb, hml, hown, htg⟩ (c_X6_thrown l dC dI r k v9) (cwV 0 htg (wG_V (fun _ h => h) q_642 q_643 q_644 q_7 q_645) rfl rfl rfl (by decide +kernel) ⟨Nat.le_of_ble_eq_true rfl, Nat.le_of_ble_eq_true rfl⟩) (w_roV hK (w_Pl hP) (ci := 6) (q0 := 0) rfl (wR_g0 r k _) rfl) rfl rfl hl.1 rfl (lv_room (Nat.le_of_ble_eq_true rfl)) dL_law_446 ⟨by show cells + 1 + 0 ≤ 1088; omega, by show slots + 6 + 0 ≤ 17721; omega⟩) (fun rt hrt => ?_)
  subst hrt
  refine lv_iload hx hb dL_law_449 (lv_at hl 1 rfl) ?_
  refine lv_icmp_eq (tgt := 456) hx hb dL_law_451 (by decide) (fun c_451 => ?_) (fun c_451 => ?_)
  · refine lv_iload hx hb dL_law_456 (lv_at hl 1 rfl) ?_
    refine lv_if_ne (tgt := 473) hx hb dL_law_458 (by decide) (fun c_458 => ?_) (fun c_458 => ?_)
    · refine lv_goto (tgt := 1375) hx hb dL_law_473 (by decide) ?_
      exact kk x9 v9 H locs ls ⟨g3, by omega, w_Psw hP, w_Dsw hD, hS, lv_sub hl [2,3,4,5,6] rfl⟩
    · have c_ne := c_458
      refine lv_aload_n hx hb dL_law_461 rfl (lv_at hl 3 rfl) ?_
      refine lv_iconst (v := 0) hx hb dL_law_462 (by decide) ?_
      refine va_lald hx hb hK hP 42 1 (wL_g26 a o r k _ _) rfl (i := 0) vp_in01 dL_law_463 ?_
      refine wtopl (x9.2 0) (by rfl) ?_
      refine lv_iload hx hb dL_law_464 (lv_at hl 0 rfl) ?_
      refine lv_i2l hx hb dL_law_466 rfl ?_
      refine W.lcmp hx hb dL_law_467 ?_
      refine wtopi 0 (lg_same (g2 c_ne)) ?_
      refine lv_if_eq (tgt := 473) hx hb dL_law_468 (by decide) (fun _ => ?_) (fun h9 => absurd h9 (by decide))
      refine lv_goto (tgt := 1375) hx hb dL_law_473 (by decide) ?_
      exact kk x9 v9 H locs ls ⟨g3, by omega, w_Psw hP, w_Dsw hD, hS, lv_sub hl [2,3,4,5,6] rfl⟩
  · exact absurd g1.symm c_451
set_option maxHeartbeats 8000000 in
set_option maxRecDepth 100000 in
theorem law_find {p : Program} {l : Launch} {e : Env} {s : State} {m : MethodId} {below : List Frame} {meth : Method} {c : Code} {b L : Nat} {xs : Nat → Int32} {dC : Nat → ClassId} {dI : Nat → Nat → Nat} {k : c_K} {a : Nat → Nat} {o : Nat} {r : Nat → Nat} {x : c_X} {v : c_St} {H : Heap} {locs : List Loc} {ls : Array Slot} {cells slots t : Nat} {Q : State → Prop} (hC : law_C p l s m c b L xs dC dI k) (ht : 8 * t + 8 ≤ L) (hI : law_I s b dC dI k a o r x v t t H locs ls) (hcs : cells + 1 ≤ 1088 ∧ slots + 6 ≤ 17721)
    (kk : ∀ (x1 : c_X) (v1 : c_St) (H1 : Heap) (locs1 : List Loc) (ls1 : Array Slot), law_I s b dC dI k a o r x1 v1 (t + 1) t H1 locs1 ls1 → W p l e room_1 s m #[Value.ref b] below meth c H1 locs1 (cells + 1) (slots + 6) Q (F0 m 1375 ls1 [])) : W p l e room_1 s m #[Value.ref b] below meth c H locs cells slots Q (F0 m 476 ls []) := by
  obtain ⟨hx, hb, hml, hown, htg, hX, hbl, hK, hX0, hNC, hst, hL⟩ := hC
  obtain ⟨hR, hN4, hP, hD, hS, hl⟩ := hI
  have hbA : ¬ s.heap.size ≤ b := by omega
  have hA : ∀ q : Nat, s.heap.size ≤ q → (fun q => s.heap.size ≤ q) q := fun q h => h
  refine lv_aload_n hx hb dL_law_476 rfl (lv_at hl 3 rfl) ?_
  refine lv_aload_n hx hb dL_law_477 rfl (lv_at hl 4 rfl) ?_
  refine lv_iload hx hb dL_law_478 (lv_at hl 0 rfl) ?_
  refine lv_iconst (v := 1) hx hb dL_law_480 (by decide) ?_
  refine lv_iadd hx hb dL_law_481 ?_
  refine wtopi (nI (8 * t + 1)) (nI_add (8 * t) 1) ?_
  refine va_sld hx hb hX hbl hbA hS (vp_in_nI (n := 8 * t + 1) (N := L) (by omega) (by omega)) dL_law_482 ?_
  refine wtopi (xs (8 * t + 1)) (congrArg xs (nI_clamp (n := 8 * t + 1) (by omega))) ?_
  refine lv_aload_n hx hb dL_law_483 rfl (lv_at hl 4 rfl) ?_
  refine lv_iload hx hb dL_law_484 (lv_at hl 0 rfl) ?_
  refine lv_iconst (v := 2) hx hb dL_law_486 (by decide) ?_
  refine lv_iadd hx hb dL_law_487 ?_
  refine wtopi (nI (8 * t + 2)) (nI_add (8 * t) 2) ?_
  refine va_sld hx hb hX hbl hbA hS (vp_in_nI (n := 8 * t + 2) (N := L) (by omega) (by omega)) dL_law_488 ?_
  refine wtopi (xs (8 * t + 2)) (congrArg xs (nI_clamp (n := 8 * t + 2) (by omega))) ?_
  refine lv_aload_n hx hb dL_law_489 rfl (lv_at hl 4 rfl) ?_
  refine lv_iload hx hb dL_law_490 (lv_at hl 0 rfl) ?_
  refine lv_iconst (v := 3) hx hb dL_law_492 (by decide) ?_
  refine lv_iadd hx hb dL_law_493 ?_
  refine wtopi (nI (8 * t + 3)) (nI_add (8 * t) 3) ?_
  refine va_sld hx hb hX hbl hbA hS (vp_in_nI (n := 8 * t + 3) (N := L) (by omega) (by omega)) dL_law_494 ?_
  refine wtopi (xs (8 * t + 3)) (congrArg xs (nI_clamp (n := 8 * t + 3) (by omega))) ?_
  refine lv_aload_n hx hb dL_law_495 rfl (lv_at hl 4 rfl) ?_
  refine lv_iload hx hb dL_law_496 (lv_at hl 0 rfl) ?_
  refine lv_iconst (v := 4) hx hb dL_law_498 (by decide) ?_
  refine lv_iadd hx hb dL_law_499 ?_
  refine wtopi (nI (8 * t + 4)) (nI_add (8 * t) 4) ?_
  refine va_sld hx hb hX hbl hbA hS (vp_in_nI (n := 8 * t + 4) (N := L) (by omega) (by omega)) dL_law_500 ?_
  refine wtopi (xs (8 * t + 4)) (congrArg xs (nI_clamp (n := 8 * t + 4) (by omega))) ?_
  refine lv_aload_n hx hb dL_law_501 rfl (lv_at hl 4 rfl) ?_
  refine lv_iload hx hb dL_law_502 (lv_at hl 0 rfl) ?_
  refine lv_iconst (v := 5) hx hb dL_law_504 (by decide) ?_
  refine lv_iadd hx hb dL_law_505 ?_
  refine wtopi (nI (8 * t + 5)) (nI_add (8 * t) 5) ?_
  refine va_sld hx hb hX hbl hbA hS (vp_in_nI (n := 8 * t + 5) (N := L) (by omega) (by omega)) dL_law_506 ?_
  refine wtopi (xs (8 * t + 5)) (congrArg xs (nI_clamp (n := 8 * t + 5) (by omega))) ?_
  refine lv_aload_n hx hb dL_law_507 rfl (lv_at hl 1 rfl) ?_
  have hXx : w_x (va_A (wL a o k x) H.size) s H := (hX0.kept (fun z h1 h2 => hS.2.1 z h1 h2)).narrow (fun q hq => w_F (w_Dl hD) hS hA q hq)
  refine w_calli (w := wL a o k) (x_runSW (cc := cL_law) (Ts := wG) (bytes := cL_find) (maxL := 8) (ret := some .int) (hh := [(0, 16, 19, 13), (0, 16, 23, 15)]) (As := [.ref (a 0), .int (xs (8 * t + 1)), .int (xs (8 * t + 2)), .int (xs (8 * t + 3)), .int (xs (8 * t + 4)), .int (xs (8 * t + 5)), .ref o]) (rest := []) ⟨hx, hb, hml, hown, htg⟩ (u_find l dC dI a k x.1 o x.2 _ hst v hR (by omega) (xs (8 * t + 1)) (xs (8 * t + 2)) (xs (8 * t + 3)) (xs (8 * t + 4)) (xs (8 * t + 5))) rfl rfl (Nat.le_of_ble_eq_true rfl) (Nat.le_of_ble_eq_true rfl) (pay_in htg (wG_I (fun _ h => h) q_417)) List.mem_cons_self (htg _ q_417) (htg _ q_0) (htg _ q_416) (htg _ q_415) (by decide +kernel) (show _ = some 7 by decide +kernel) (w_wrS hK (w_Pl hP) (w_Dl hD) hXx hNC) rfl hl.1 rfl (lv_room (Nat.le_of_ble_eq_true rfl)) dL_law_508 hcs) hP hD hS hA (fun r9 x9 H locs hp9 hP hD hS => ?_)
  refine lv_istore (lv' := [(5, .int r9), (4, .int (nI (8 * t))), (3, .ref o), (2, .ref (r 0)), (1, .ref (a 0)), (0, .ref b)]) hx hb dL_law_511 hl (by decide) rfl (fun ls hl => ?_)
  refine lv_aload_n hx hb dL_law_513 rfl (lv_at hl 3 rfl) ?_
  refine lv_aload_n hx hb dL_law_514 rfl (lv_at hl 5 rfl) ?_
  refine lv_iload hx hb dL_law_515 (lv_at hl 1 rfl) ?_
  refine lv_iconst (v := 1) hx hb dL_law_517 (by decide) ?_
  refine lv_iadd hx hb dL_law_518 ?_
  refine wtopi (nI (8 * t + 1)) (nI_add (8 * t) 1) ?_
  refine va_sld hx hb hX hbl hbA hS (vp_in_nI (n := 8 * t + 1) (N := L) (by omega) (by omega)) dL_law_519 ?_
  refine wtopi (xs (8 * t + 1)) (congrArg xs (nI_clamp (n := 8 * t + 1) (by omega))) ?_
  refine lv_aload_n hx hb dL_law_520 rfl (lv_at hl 5 rfl) ?_
  refine lv_iload hx hb dL_law_521 (lv_at hl 1 rfl) ?_
  refine lv_iconst (v := 2) hx hb dL_law_523 (by decide) ?_
  refine lv_iadd hx hb dL_law_524 ?_
  refine wtopi (nI (8 * t + 2)) (nI_add (8 * t) 2) ?_
  refine va_sld hx hb hX hbl hbA hS (vp_in_nI (n := 8 * t + 2) (N := L) (by omega) (by omega)) dL_law_525 ?_
  refine wtopi (xs (8 * t + 2)) (congrArg xs (nI_clamp (n := 8 * t + 2) (by omega))) ?_
  refine lv_aload_n hx hb dL_law_526 rfl (lv_at hl 5 rfl) ?_
  refine lv_iload hx hb dL_law_527 (lv_at hl 1 rfl) ?_
  refine lv_iconst (v := 3) hx hb dL_law_529 (by decide) ?_
  refine lv_iadd hx hb dL_law_530 ?_
  refine wtopi (nI (8 * t + 3)) (nI_add (8 * t) 3) ?_
  refine va_sld hx hb hX hbl hbA hS (vp_in_nI (n := 8 * t + 3) (N := L) (by omega) (by omega)) dL_law_531 ?_
  refine wtopi (xs (8 * t + 3)) (congrArg xs (nI_clamp (n := 8 * t + 3) (by omega))) ?_
  refine lv_aload_n hx hb dL_law_532 rfl (lv_at hl 5 rfl) ?_
  refine lv_iload hx hb dL_law_533 (lv_at hl 1 rfl) ?_
  refine lv_iconst (v := 4) hx hb dL_law_535 (by decide) ?_
  refine lv_iadd hx hb dL_law_536 ?_
  refine wtopi (nI (8 * t + 4)) (nI_add (8 * t) 4) ?_
  refine va_sld hx hb hX hbl hbA hS (vp_in_nI (n := 8 * t + 4) (N := L) (by omega) (by omega)) dL_law_537 ?_
  refine wtopi (xs (8 * t + 4)) (congrArg xs (nI_clamp (n := 8 * t + 4) (by omega))) ?_
  refine lv_aload_n hx hb dL_law_538 rfl (lv_at hl 5 rfl) ?_
  refine lv_iload hx hb dL_law_539 (lv_at hl 1 rfl) ?_
  refine lv_iconst (v := 5) hx hb dL_law_541 (by decide) ?_
  refine lv_iadd hx hb dL_law_542 ?_
  refine wtopi (nI (8 * t + 5)) (nI_add (8 * t) 5) ?_
  refine va_sld hx hb hX hbl hbA hS (vp_in_nI (n := 8 * t + 5) (N := L) (by omega) (by omega)) dL_law_543 ?_
  refine wtopi (xs (8 * t + 5)) (congrArg xs (nI_clamp (n := 8 * t + 5) (by omega))) ?_
  have hP := w_Psw hP
  have hD := w_Dsw hD
  refine w_calli (w := wR r k) (va_runV (cc := cL_law) (Ts := wG) (As := [.int (xs (8 * t + 1)), .int (xs (8 * t + 2)), .int (xs (8 * t + 3)), .int (xs (8 * t + 4)), .int (xs (8 * t + 5))]) (rest := []) ⟨hx, hb, hml, hown, htg⟩ (c_X6_find l dC dI r k v _ hR.mok (xs (8 * t + 1)) (xs (8 * t + 2)) (xs (8 * t + 3)) (xs (8 * t + 4)) (xs (8 * t + 5))) (cwV 5 htg (wG_V (fun _ h => h) q_686 q_687 q_688 q_7 q_689) rfl rfl rfl (by decide +kernel) ⟨Nat.le_of_ble_eq_true rfl, Nat.le_of_ble_eq_true rfl⟩) (w_muV hK (w_Pl hP) (w_Dl hD) (ci := 6) (q0 := 0) rfl (wR_g0 r k _) rfl) rfl rfl hl.1 rfl (lv_room (Nat.le_of_ble_eq_true rfl)) dL_law_544 ⟨by show cells + 1 + 0 ≤ 1088; omega, by show slots + 6 + 0 ≤ 17721; omega⟩) hP hD hS hA (fun b9 v9 H locs hq9 hP hD hS => ?_)
  refine lv_istore (lv' := [(6, .int b9), (5, .int r9), (4, .int (nI (8 * t))), (3, .ref o), (2, .ref (r 0)), (1, .ref (a 0)), (0, .ref b)]) hx hb dL_law_547 hl (by decide) rfl (fun ls hl => ?_)
  refine lv_aload_n hx hb dL_law_549 rfl (lv_at hl 4 rfl) ?_
  obtain ⟨g1, g2, g3, g4⟩ := hp9 b9 v9 hq9
  refine vp_callSi (W.runV (cc := cL_law) (Ts := wG) (As := []) (rest := []) ⟨hx, hb, hml, hown, htg⟩ (c_X6_thrown l dC dI r k v9) (cwV 0 htg (wG_V (fun _ h => h) q_642 q_643 q_644 q_7 q_645) rfl rfl rfl (by decide +kernel) ⟨Nat.le_of_ble_eq_true rfl, Nat.le_of_ble_eq_true rfl⟩) (w_roV hK (w_Pl hP) (ci := 6) (q0 := 0) rfl (wR_g0 r k _) rfl) rfl rfl hl.1 rfl (lv_room (Nat.le_of_ble_eq_true rfl)) dL_law_550 ⟨by show cells + 1 + 0 ≤ 1088; omega, by show slots + 6 + 0 ≤ 17721; omega⟩) (fun rt hrt => ?_)
  subst hrt
  refine lv_iload hx hb dL_law_553 (lv_at hl 1 rfl) ?_
  refine lv_icmp_eq (tgt := 560) hx hb dL_law_555 (by decide) (fun c_555 => ?_) (fun c_555 => ?_)
  · refine lv_iload hx hb dL_law_560 (lv_at hl 1 rfl) ?_
    refine lv_if_ne (tgt := 577) hx hb dL_law_562 (by decide) (fun c_562 => ?_) (fun c_562 => ?_)
    · refine lv_goto (tgt := 1375) hx hb dL_law_577 (by decide) ?_
      exact kk x9 v9 H locs ls ⟨g3, by omega, w_Psw hP, w_Dsw hD, hS, lv_sub hl [2,3,4,5,6] rfl⟩
    · have c_ne := c_562
      refine lv_aload_n hx hb dL_law_565 rfl (lv_at hl 3 rfl) ?_
      refine lv_iconst (v := 0) hx hb dL_law_566 (by decide) ?_
      refine va_lald hx hb hK hP 42 1 (wL_g26 a o r k _ _) rfl (i := 0) vp_in01 dL_law_567 ?_
      refine wtopl (x9.2 0) (by rfl) ?_
      refine lv_iload hx hb dL_law_568 (lv_at hl 0 rfl) ?_
      refine lv_i2l hx hb dL_law_570 rfl ?_
      refine W.lcmp hx hb dL_law_571 ?_
      refine wtopi 0 (lg_same (g2 c_ne)) ?_
      refine lv_if_eq (tgt := 577) hx hb dL_law_572 (by decide) (fun _ => ?_) (fun h9 => absurd h9 (by decide))
      refine lv_goto (tgt := 1375) hx hb dL_law_577 (by decide) ?_
      exact kk x9 v9 H locs ls ⟨g3, by omega, w_Psw hP, w_Dsw hD, hS, lv_sub hl [2,3,4,5,6] rfl⟩
  · exact absurd g1.symm c_555
set_option maxHeartbeats 8000000 in
set_option maxRecDepth 100000 in
theorem law_time {p : Program} {l : Launch} {e : Env} {s : State} {m : MethodId} {below : List Frame} {meth : Method} {c : Code} {b L : Nat} {xs : Nat → Int32} {dC : Nat → ClassId} {dI : Nat → Nat → Nat} {k : c_K} {a : Nat → Nat} {o : Nat} {r : Nat → Nat} {x : c_X} {v : c_St} {H : Heap} {locs : List Loc} {ls : Array Slot} {cells slots t : Nat} {Q : State → Prop} (hC : law_C p l s m c b L xs dC dI k) (ht : 8 * t + 8 ≤ L) (hI : law_I s b dC dI k a o r x v t t H locs ls) (hcs : cells + 1 ≤ 1088 ∧ slots + 6 ≤ 17721)
    (kk : ∀ (x1 : c_X) (v1 : c_St) (H1 : Heap) (locs1 : List Loc) (ls1 : Array Slot), law_I s b dC dI k a o r x1 v1 (t + 1) t H1 locs1 ls1 → W p l e room_1 s m #[Value.ref b] below meth c H1 locs1 (cells + 1) (slots + 6) Q (F0 m 1375 ls1 [])) : W p l e room_1 s m #[Value.ref b] below meth c H locs cells slots Q (F0 m 580 ls []) := by
  obtain ⟨hx, hb, hml, hown, htg, hX, hbl, hK, hX0, hNC, hst, hL⟩ := hC
  obtain ⟨hR, hN4, hP, hD, hS, hl⟩ := hI
  have hbA : ¬ s.heap.size ≤ b := by omega
  have hA : ∀ q : Nat, s.heap.size ≤ q → (fun q => s.heap.size ≤ q) q := fun q h => h
  refine lv_aload_n hx hb dL_law_580 rfl (lv_at hl 3 rfl) ?_
  refine lv_aload_n hx hb dL_law_581 rfl (lv_at hl 4 rfl) ?_
  refine lv_iload hx hb dL_law_582 (lv_at hl 0 rfl) ?_
  refine lv_iconst (v := 1) hx hb dL_law_584 (by decide) ?_
  refine lv_iadd hx hb dL_law_585 ?_
  refine wtopi (nI (8 * t + 1)) (nI_add (8 * t) 1) ?_
  refine va_sld hx hb hX hbl hbA hS (vp_in_nI (n := 8 * t + 1) (N := L) (by omega) (by omega)) dL_law_586 ?_
  refine wtopi (xs (8 * t + 1)) (congrArg xs (nI_clamp (n := 8 * t + 1) (by omega))) ?_
  refine lv_aload_n hx hb dL_law_587 rfl (lv_at hl 1 rfl) ?_
  have hXx : w_x (va_A (wL a o k x) H.size) s H := (hX0.kept (fun z h1 h2 => hS.2.1 z h1 h2)).narrow (fun q hq => w_F (w_Dl hD) hS hA q hq)
  refine w_calli (w := wL a o k) (x_runSW (cc := cL_law) (Ts := wG) (bytes := cL_time) (maxL := 4) (ret := some .int) (hh := [(0, 9, 12, 13), (0, 9, 15, 37)]) (As := [.ref (a 0), .int (xs (8 * t + 1)), .ref o]) (rest := []) ⟨hx, hb, hml, hown, htg⟩ (u_time l dC dI a k x.1 o x.2 _ hst v hR (by omega) (xs (8 * t + 1))) rfl rfl (Nat.le_of_ble_eq_true rfl) (Nat.le_of_ble_eq_true rfl) (pay_in htg (wG_I (fun _ h => h) q_428)) List.mem_cons_self (htg _ q_428) (htg _ q_0) (htg _ q_427) (htg _ q_426) (by decide +kernel) (show _ = some 3 by decide +kernel) (w_wrS hK (w_Pl hP) (w_Dl hD) hXx hNC) rfl hl.1 rfl (lv_room (Nat.le_of_ble_eq_true rfl)) dL_law_588 hcs) hP hD hS hA (fun r9 x9 H locs hp9 hP hD hS => ?_)
  refine lv_istore (lv' := [(5, .int r9), (4, .int (nI (8 * t))), (3, .ref o), (2, .ref (r 0)), (1, .ref (a 0)), (0, .ref b)]) hx hb dL_law_591 hl (by decide) rfl (fun ls hl => ?_)
  refine lv_aload_n hx hb dL_law_593 rfl (lv_at hl 3 rfl) ?_
  refine lv_aload_n hx hb dL_law_594 rfl (lv_at hl 5 rfl) ?_
  refine lv_iload hx hb dL_law_595 (lv_at hl 1 rfl) ?_
  refine lv_iconst (v := 1) hx hb dL_law_597 (by decide) ?_
  refine lv_iadd hx hb dL_law_598 ?_
  refine wtopi (nI (8 * t + 1)) (nI_add (8 * t) 1) ?_
  refine va_sld hx hb hX hbl hbA hS (vp_in_nI (n := 8 * t + 1) (N := L) (by omega) (by omega)) dL_law_599 ?_
  refine wtopi (xs (8 * t + 1)) (congrArg xs (nI_clamp (n := 8 * t + 1) (by omega))) ?_
  have hP := w_Psw hP
  have hD := w_Dsw hD
  refine w_calli (w := wR r k) (va_runV (cc := cL_law) (Ts := wG) (As := [.int (xs (8 * t + 1))]) (rest := []) ⟨hx, hb, hml, hown, htg⟩ (c_X6_time l dC dI r k v _ hR.mok (xs (8 * t + 1))) (cwV 1 htg (wG_V (fun _ h => h) q_710 q_711 q_712 q_7 q_713) rfl rfl rfl (by decide +kernel) ⟨Nat.le_of_ble_eq_true rfl, Nat.le_of_ble_eq_true rfl⟩) (w_muV hK (w_Pl hP) (w_Dl hD) (ci := 6) (q0 := 0) rfl (wR_g0 r k _) rfl) rfl rfl hl.1 rfl (lv_room (Nat.le_of_ble_eq_true rfl)) dL_law_600 ⟨by show cells + 1 + 0 ≤ 1088; omega, by show slots + 6 + 0 ≤ 17721; omega⟩) hP hD hS hA (fun b9 v9 H locs hq9 hP hD hS => ?_)
  refine lv_istore (lv' := [(6, .int b9), (5, .int r9), (4, .int (nI (8 * t))), (3, .ref o), (2, .ref (r 0)), (1, .ref (a 0)), (0, .ref b)]) hx hb dL_law_603 hl (by decide) rfl (fun ls hl => ?_)
  refine lv_aload_n hx hb dL_law_605 rfl (lv_at hl 4 rfl) ?_
  obtain ⟨g1, g2, g3, g4⟩ := hp9 b9 v9 hq9
  refine vp_callSi (W.runV (cc := cL_law) (Ts := wG) (As := []) (rest := []) ⟨hx, hb, hml, hown, htg⟩ (c_X6_thrown l dC dI r k v9) (cwV 0 htg (wG_V (fun _ h => h) q_642 q_643 q_644 q_7 q_645) rfl rfl rfl (by decide +kernel) ⟨Nat.le_of_ble_eq_true rfl, Nat.le_of_ble_eq_true rfl⟩) (w_roV hK (w_Pl hP) (ci := 6) (q0 := 0) rfl (wR_g0 r k _) rfl) rfl rfl hl.1 rfl (lv_room (Nat.le_of_ble_eq_true rfl)) dL_law_606 ⟨by show cells + 1 + 0 ≤ 1088; omega, by show slots + 6 + 0 ≤ 17721; omega⟩) (fun rt hrt => ?_)
  subst hrt
  refine lv_iload hx hb dL_law_609 (lv_at hl 1 rfl) ?_
  refine lv_icmp_eq (tgt := 616) hx hb dL_law_611 (by decide) (fun c_611 => ?_) (fun c_611 => ?_)
  · refine lv_iload hx hb dL_law_616 (lv_at hl 1 rfl) ?_
    refine lv_if_ne (tgt := 633) hx hb dL_law_618 (by decide) (fun c_618 => ?_) (fun c_618 => ?_)
    · refine lv_goto (tgt := 1375) hx hb dL_law_633 (by decide) ?_
      exact kk x9 v9 H locs ls ⟨g3, by omega, w_Psw hP, w_Dsw hD, hS, lv_sub hl [2,3,4,5,6] rfl⟩
    · have c_ne := c_618
      refine lv_aload_n hx hb dL_law_621 rfl (lv_at hl 3 rfl) ?_
      refine lv_iconst (v := 0) hx hb dL_law_622 (by decide) ?_
      refine va_lald hx hb hK hP 42 1 (wL_g26 a o r k _ _) rfl (i := 0) vp_in01 dL_law_623 ?_
      refine wtopl (x9.2 0) (by rfl) ?_
      refine lv_iload hx hb dL_law_624 (lv_at hl 0 rfl) ?_
      refine lv_i2l hx hb dL_law_626 rfl ?_
      refine W.lcmp hx hb dL_law_627 ?_
      refine wtopi 0 (lg_same (g2 c_ne)) ?_
      refine lv_if_eq (tgt := 633) hx hb dL_law_628 (by decide) (fun _ => ?_) (fun h9 => absurd h9 (by decide))
      refine lv_goto (tgt := 1375) hx hb dL_law_633 (by decide) ?_
      exact kk x9 v9 H locs ls ⟨g3, by omega, w_Psw hP, w_Dsw hD, hS, lv_sub hl [2,3,4,5,6] rfl⟩
  · exact absurd g1.symm c_611
set_option maxHeartbeats 8000000 in
set_option maxRecDepth 100000 in
theorem law_sum {p : Program} {l : Launch} {e : Env} {s : State} {m : MethodId} {below : List Frame} {meth : Method} {c : Code} {b L : Nat} {xs : Nat → Int32} {dC : Nat → ClassId} {dI : Nat → Nat → Nat} {k : c_K} {a : Nat → Nat} {o : Nat} {r : Nat → Nat} {x : c_X} {v : c_St} {H : Heap} {locs : List Loc} {ls : Array Slot} {cells slots t : Nat} {Q : State → Prop} (hC : law_C p l s m c b L xs dC dI k) (ht : 8 * t + 8 ≤ L) (hI : law_I s b dC dI k a o r x v t t H locs ls) (hcs : cells + 1 ≤ 1088 ∧ slots + 6 ≤ 17721)
    (kk : ∀ (x1 : c_X) (v1 : c_St) (H1 : Heap) (locs1 : List Loc) (ls1 : Array Slot), law_I s b dC dI k a o r x1 v1 (t + 1) t H1 locs1 ls1 → W p l e room_1 s m #[Value.ref b] below meth c H1 locs1 (cells + 1) (slots + 6) Q (F0 m 1375 ls1 [])) : W p l e room_1 s m #[Value.ref b] below meth c H locs cells slots Q (F0 m 636 ls []) := by
  obtain ⟨hx, hb, hml, hown, htg, hX, hbl, hK, hX0, hNC, hst, hL⟩ := hC
  obtain ⟨hR, hN4, hP, hD, hS, hl⟩ := hI
  have hbA : ¬ s.heap.size ≤ b := by omega
  have hA : ∀ q : Nat, s.heap.size ≤ q → (fun q => s.heap.size ≤ q) q := fun q h => h
  refine lv_aload_n hx hb dL_law_636 rfl (lv_at hl 3 rfl) ?_
  refine lv_aload_n hx hb dL_law_637 rfl (lv_at hl 4 rfl) ?_
  refine lv_iload hx hb dL_law_638 (lv_at hl 0 rfl) ?_
  refine lv_iconst (v := 1) hx hb dL_law_640 (by decide) ?_
  refine lv_iadd hx hb dL_law_641 ?_
  refine wtopi (nI (8 * t + 1)) (nI_add (8 * t) 1) ?_
  refine va_sld hx hb hX hbl hbA hS (vp_in_nI (n := 8 * t + 1) (N := L) (by omega) (by omega)) dL_law_642 ?_
  refine wtopi (xs (8 * t + 1)) (congrArg xs (nI_clamp (n := 8 * t + 1) (by omega))) ?_
  refine lv_aload_n hx hb dL_law_643 rfl (lv_at hl 1 rfl) ?_
  have hXx : w_x (va_A (wL a o k x) H.size) s H := (hX0.kept (fun z h1 h2 => hS.2.1 z h1 h2)).narrow (fun q hq => w_F (w_Dl hD) hS hA q hq)
  refine w_calli (w := wL a o k) (x_runSW (cc := cL_law) (Ts := wG) (bytes := cL_sum) (maxL := 4) (ret := some .int) (hh := [(0, 9, 12, 13), (0, 9, 15, 37)]) (As := [.ref (a 0), .int (xs (8 * t + 1)), .ref o]) (rest := []) ⟨hx, hb, hml, hown, htg⟩ (u_sum l dC dI a k x.1 o x.2 _ hst v hR (by omega) (xs (8 * t + 1))) rfl rfl (Nat.le_of_ble_eq_true rfl) (Nat.le_of_ble_eq_true rfl) (pay_in htg (wG_I (fun _ h => h) q_462)) List.mem_cons_self (htg _ q_462) (htg _ q_0) (htg _ q_461) (htg _ q_460) (by decide +kernel) (show _ = some 3 by decide +kernel) (w_wrS hK (w_Pl hP) (w_Dl hD) hXx hNC) rfl hl.1 rfl (lv_room (Nat.le_of_ble_eq_true rfl)) dL_law_644 hcs) hP hD hS hA (fun r9 x9 H locs hp9 hP hD hS => ?_)
  refine lv_istore (lv' := [(5, .int r9), (4, .int (nI (8 * t))), (3, .ref o), (2, .ref (r 0)), (1, .ref (a 0)), (0, .ref b)]) hx hb dL_law_647 hl (by decide) rfl (fun ls hl => ?_)
  refine lv_aload_n hx hb dL_law_649 rfl (lv_at hl 3 rfl) ?_
  refine lv_aload_n hx hb dL_law_650 rfl (lv_at hl 5 rfl) ?_
  refine lv_iload hx hb dL_law_651 (lv_at hl 1 rfl) ?_
  refine lv_iconst (v := 1) hx hb dL_law_653 (by decide) ?_
  refine lv_iadd hx hb dL_law_654 ?_
  refine wtopi (nI (8 * t + 1)) (nI_add (8 * t) 1) ?_
  refine va_sld hx hb hX hbl hbA hS (vp_in_nI (n := 8 * t + 1) (N := L) (by omega) (by omega)) dL_law_655 ?_
  refine wtopi (xs (8 * t + 1)) (congrArg xs (nI_clamp (n := 8 * t + 1) (by omega))) ?_
  have hP := w_Psw hP
  have hD := w_Dsw hD
  refine w_calli (w := wR r k) (va_runV (cc := cL_law) (Ts := wG) (As := [.int (xs (8 * t + 1))]) (rest := []) ⟨hx, hb, hml, hown, htg⟩ (c_X6_sum l dC dI r k v _ hR.mok (xs (8 * t + 1))) (cwV 1 htg (wG_V (fun _ h => h) q_722 q_723 q_724 q_7 q_725) rfl rfl rfl (by decide +kernel) ⟨Nat.le_of_ble_eq_true rfl, Nat.le_of_ble_eq_true rfl⟩) (w_muV hK (w_Pl hP) (w_Dl hD) (ci := 6) (q0 := 0) rfl (wR_g0 r k _) rfl) rfl rfl hl.1 rfl (lv_room (Nat.le_of_ble_eq_true rfl)) dL_law_656 ⟨by show cells + 1 + 0 ≤ 1088; omega, by show slots + 6 + 0 ≤ 17721; omega⟩) hP hD hS hA (fun b9 v9 H locs hq9 hP hD hS => ?_)
  refine lv_istore (lv' := [(6, .int b9), (5, .int r9), (4, .int (nI (8 * t))), (3, .ref o), (2, .ref (r 0)), (1, .ref (a 0)), (0, .ref b)]) hx hb dL_law_659 hl (by decide) rfl (fun ls hl => ?_)
  refine lv_aload_n hx hb dL_law_661 rfl (lv_at hl 4 rfl) ?_
  obtain ⟨g1, g2, g3, g4⟩ := hp9 b9 v9 hq9
  refine vp_callSi (W.runV (cc := cL_law) (Ts := wG) (As := []) (rest := []) ⟨hx, hb, hml, hown, htg⟩ (c_X6_thrown l dC dI r k v9) (cwV 0 htg (wG_V (fun _ h => h) q_642 q_643 q_644 q_7 q_645) rfl rfl rfl (by decide +kernel) ⟨Nat.le_of_ble_eq_true rfl, Nat.le_of_ble_eq_true rfl⟩) (w_roV hK (w_Pl hP) (ci := 6) (q0 := 0) rfl (wR_g0 r k _) rfl) rfl rfl hl.1 rfl (lv_room (Nat.le_of_ble_eq_true rfl)) dL_law_662 ⟨by show cells + 1 + 0 ≤ 1088; omega, by show slots + 6 + 0 ≤ 17721; omega⟩) (fun rt hrt => ?_)
  subst hrt
  refine lv_iload hx hb dL_law_665 (lv_at hl 1 rfl) ?_
  refine lv_icmp_eq (tgt := 672) hx hb dL_law_667 (by decide) (fun c_667 => ?_) (fun c_667 => ?_)
  · refine lv_iload hx hb dL_law_672 (lv_at hl 1 rfl) ?_
    refine lv_if_ne (tgt := 689) hx hb dL_law_674 (by decide) (fun c_674 => ?_) (fun c_674 => ?_)
    · refine lv_goto (tgt := 1375) hx hb dL_law_689 (by decide) ?_
      exact kk x9 v9 H locs ls ⟨g3, by omega, w_Psw hP, w_Dsw hD, hS, lv_sub hl [2,3,4,5,6] rfl⟩
    · have c_ne := c_674
      refine lv_aload_n hx hb dL_law_677 rfl (lv_at hl 3 rfl) ?_
      refine lv_iconst (v := 0) hx hb dL_law_678 (by decide) ?_
      refine va_lald hx hb hK hP 42 1 (wL_g26 a o r k _ _) rfl (i := 0) vp_in01 dL_law_679 ?_
      refine wtopl (x9.2 0) (by rfl) ?_
      refine lv_iload hx hb dL_law_680 (lv_at hl 0 rfl) ?_
      refine lv_i2l hx hb dL_law_682 rfl ?_
      refine W.lcmp hx hb dL_law_683 ?_
      refine wtopi 0 (lg_same (g2 c_ne)) ?_
      refine lv_if_eq (tgt := 689) hx hb dL_law_684 (by decide) (fun _ => ?_) (fun h9 => absurd h9 (by decide))
      refine lv_goto (tgt := 1375) hx hb dL_law_689 (by decide) ?_
      exact kk x9 v9 H locs ls ⟨g3, by omega, w_Psw hP, w_Dsw hD, hS, lv_sub hl [2,3,4,5,6] rfl⟩
  · exact absurd g1.symm c_667
