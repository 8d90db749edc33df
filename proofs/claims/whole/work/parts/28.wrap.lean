/-! the law's own methods around the class's: what they answer, road by road -/
def wO (o : Nat) (k : c_K) (f : Nat → Int64) : va_W := [(o, .inl (k.2.1, 1, .inr (.inl f)))]
abbrev c_X : Type := c_St × (Nat → Int64)
def wL (a : Nat → Nat) (o : Nat) (k : c_K) (x : c_X) : va_W := wC a k x.1 ++ wO o k x.2
theorem wL_s26 (a : Nat → Nat) (o : Nat) (k : c_K) (u : c_St) (f g : Nat → Int64) : (wC a k u ++ wO o k f).set 26 (o, .inl (k.2.1, 1, .inr (.inl g))) = wC a k u ++ wO o k g := rfl
theorem vp_in01 : vp_in 0 1 := by unfold vp_in; decide
theorem wO_0 (f : Nat → Int64) (v : Int64) : vp_updL f (0 : Int32).toNatClampNeg v 0 = v := if_pos (by decide)
theorem va_Al {ws wr : va_W} {sz q : Nat} (h : va_A ws sz q) : va_A (ws ++ wr) sz q := by
  rcases h with ⟨k, e, h⟩ | h
  · exact Or.inl ⟨k, e, by rw [List.getElem?_append_left (List.getElem?_eq_some_iff.mp h).1]; exact h⟩
  · exact Or.inr h
theorem x_cIAE {A : Nat → Prop} {U : State} {H : Heap} {args : Array Value} (h : w_x A U H) : (Cond.castable eIAE eIAE).before args U = true := va_Nw.use rfl (h.1 _ (by decide +kernel))
theorem x_cIOE {A : Nat → Prop} {U : State} {H : Heap} {args : Array Value} (h : w_x A U H) : (Cond.castable eIOE eIOE).before args U = true := va_Nw.use rfl (h.1 _ (by decide +kernel))
theorem x_cUOE {A : Nat → Prop} {U : State} {H : Heap} {args : Array Value} (h : w_x A U H) : (Cond.castable eUOE eUOE).before args U = true := va_Nw.use rfl (h.1 _ (by decide +kernel))
theorem x_cISE {A : Nat → Prop} {U : State} {H : Heap} {args : Array Value} (h : w_x A U H) : (Cond.castable eISE eISE).before args U = true := va_Nw.use rfl (h.1 _ (by decide +kernel))
theorem x_back {D : va_G} {cl : List vw_C} {ws : va_W} {s st₀ t : State} {H1 : Heap} {q : Addr} {E : String} {L : List Loc} {A : Nat → Prop} (h0 : st₀.heap = s.heap) (hfc : ∀ z : String, st₀.vm.findClass z = s.vm.findClass z) (ht : t.heap = H1) (hx : x_C E s.heap.size q st₀ t) (hL : ∀ z ∈ L, va_A [] s.heap.size z.base) (hP : va_P D cl ws s.heap) (hA : ∀ q : Nat, s.heap.size ≤ q → A q) :
    (∃ ce : Cell, H1[q]? = some ce ∧ ce.vm = .none ∧ s.vm.findClass E = some ce.cls) ∧ va_P D cl ws H1 ∧ va_S A s.heap H1 ([] ++ L) := by
  obtain ⟨⟨ce, h1, h2, h3⟩, h4, h5⟩ := hx
  rw [h0, ht] at h4 h5
  rw [ht] at h1
  rw [hfc] at h3
  exact ⟨⟨ce, h1, h2, h3⟩, w_keep hP h5, h4, fun z z1 _ => h5 z z1 (va_A0n z1), fun z hz => hA _ (va_A0.mp (hL z (by simpa using hz)))⟩
theorem x_backM {D : va_G} {cl : List vw_C} {ty : List (ClassId × FieldType)} {ws wr : va_W} {S : Type} {w : S → va_W} {post : S → Prop} {s st₀ t : State} {H1 : Heap} {q : Addr} {E : String} {L : List Loc} {A : Nat → Prop} (h0 : st₀.heap = s.heap) (hfc : ∀ z : String, st₀.vm.findClass z = s.vm.findClass z) (ht : t.heap = H1)
    (hx : x_CM E (va_A ws s.heap.size) post (w_at D cl w ty (va_A ws s.heap.size)) q st₀ t) (hL : ∀ z ∈ L, va_A ws s.heap.size z.base) (hP : va_P D cl (ws ++ wr) s.heap) (hD : va_D A (ws ++ wr)) (hF : ∀ q, va_A ws s.heap.size q → A q) :
    (∃ ce : Cell, H1[q]? = some ce ∧ ce.vm = .none ∧ s.vm.findClass E = some ce.cls) ∧ ∃ u1 : S, post u1 ∧ va_P D cl (w u1 ++ wr) H1 ∧ va_D A (w u1 ++ wr) ∧ va_S A s.heap H1 ([] ++ L) := by
  obtain ⟨⟨ce, h1, h2, h3⟩, ⟨u1, hp, b1, b2, b3⟩, h4, h5⟩ := hx
  rw [h0, ht] at h4 h5
  rw [ht] at h1 b1
  rw [hfc] at h3
  obtain ⟨j1, j2⟩ := w_join hP hD hF h5 b1 b3
  exact ⟨⟨ce, h1, h2, h3⟩, u1, hp, j1, j2, h4, fun z z1 z2 => h5 z z1 (fun z3 => z2 (hF z z3)), fun z hz => hF _ (hL z (by simpa using hz))⟩
set_option maxHeartbeats 4000000 in
set_option maxRecDepth 100000 in
theorem r_slot_0 (l : Launch) (dC : Nat → ClassId) (dI : Nat → Nat → Nat) (a : Nat → Nat) (k : c_K) (u : c_St) (o : Nat) (f : Nat → Int64) (sz : Nat) (hst : l.stackTraces = false)   (h : c_ok u) (hN : cu_N u 0 < 200) (hp : cu_N u 2 ≤ cu_N u 0) (ho : ∀ j, j < cu_N u 2 → cu_F u 6 j < cu_N u 0) (sc tm n : Nat) (bt : Int64) (un ic : Nat) (h1 : sc ≤ 9) (h2 : tm ≤ 9999999) (h3 : 1 ≤ n) (h4 : n ≤ 8) (h5 : un ≤ 99) (h6 : ic ≤ 49) (post : Int32 → c_X → Prop) (hpost : ∀ (r : Int32) (u1 : c_St) (g : Nat → Int64), (r = nI (cu_N u 0) ∧ ∃ t : Nat, t ≤ cu_N u 2 ∧ u1 = cs_N (cs_F (c_shift (cs_F (c_add u sc tm n bt un ic) 6 (cu_N u 2) (cu_N u 0)) t (cu_N u 2)) 6 t (cu_N u 0)) 2 (cu_N u 2 + 1) ∧ (t = 0 ∨ c_lt (c_add u sc tm n bt un ic) (cu_N u 0) (cu_F u 6 (t - 1)) = false) ∧ ∀ j, t ≤ j → j < cu_N u 2 → c_lt (c_add u sc tm n bt un ic) (cu_N u 0) (cu_F u 6 j) = true) → g 0 = r.toInt64 → post 0 (u1, g)) : Met l yL_slot wsL_slot ({ frames := 8, cells := 1, slots := 6, locals := 150 }) (va_Pc [.ref (a 0), .int (nI sc), .int (nI tm), .int (nI n), .long bt, .int (nI un), .int (nI ic), .ref o] (w_wr (dC, dI) vwCl (wL a o k (u, f)) (tC k) sz)) (va_Qi post (w_at (dC, dI) vwCl (wL a o k) (tC k) (va_A (wL a o k (u, f)) sz)) (va_A (wL a o k (u, f)) sz)) 1 6 (va_A (wL a o k (u, f)) sz) := by
  refine va_MetW (cc := cL_slot) (maxL := 10) (ret := (some .int)) (by decide) rfl ?_
  intro p e s m args below meth c s₁ B hml hv
  obtain ⟨rfl, ⟨hsz, hP, hK, hD0, hX⟩, hNC⟩ := hv
  have hx := B.exec
  have hb := B.bytes
  have hr := B.returns
  have hts := atoms_spec (ws := wsL_slot) B.pre
  have htg : ∀ w ∈ wG, w.before _ s = true := fun w h => hts w (List.mem_cons_of_mem _ h)
  have hown : s.vm.findClass RL = some m.cls := findClass_of_methodNamed B.named
  have hlocks := B.notSynchronized
  have htab := x_tab B (hts _ List.mem_cons_self)
  subst hsz
  have hX0 : w_x (va_A [] s.heap.size) s s.heap := hX.narrow (fun q h => Or.inr (va_A0.mp h))
  have hX1 : w_x (va_A (wC a k u) s.heap.size) s s.heap := hX.narrow (fun q h => va_Al h)
  have hP : va_P (dC, dI) vwCl (wC a k u ++ wO o k f) s.heap := hP
  have hD : va_D (va_A (wL a o k (u, f)) s.heap.size) (wC a k u ++ wO o k f) := hD0.self (sz := s.heap.size)
  have hAw : ∀ q, va_A (wC a k u) s.heap.size q → va_A (wL a o k (u, f)) s.heap.size q := fun q h => va_Al h
  generalize hAe : va_A (wL a o k (u, f)) s.heap.size = A at hD hAw ⊢
  have hA : ∀ q : Nat, s.heap.size ≤ q → A q := fun q h => by rw [← hAe]; exact Or.inr h
  have hS : va_S A s.heap s.heap [] := va_S.rf
  have hl := lv_entry ([.ref (a 0), .int (nI sc), .int (nI tm), .int (nI n), .long bt, .int (nI un), .int (nI ic), .ref o]) (n := 10) (Nat.le_of_ble_eq_true rfl)
  rw [lg_entry_eq]
  generalize (lg_sl ([.ref (a 0), .int (nI sc), .int (nI tm), .int (nI n), .long bt, .int (nI un), .int (nI ic), .ref o]) ++ List.replicate (10 - (lg_sl ([.ref (a 0), .int (nI sc), .int (nI tm), .int (nI n), .long bt, .int (nI un), .int (nI ic), .ref o])).length) Slot.unset).toArray = ls at hl ⊢
  have hl : lv_has ls 10 [(0, .ref (a 0)), (1, .int (nI sc)), (2, .int (nI tm)), (3, .int (nI n)), (4, .long bt), (6, .int (nI un)), (7, .int (nI ic)), (8, .ref o)] := hl
  refine x_more (mc := 0) (ms := 0) (Nat.le_of_ble_eq_true rfl) (Nat.le_of_ble_eq_true rfl) ?_
  refine lv_aload hx hb dL_slot_0 (lv_at hl 7 rfl) ?_
  refine lv_iconst (v := 0) hx hb dL_slot_2 (by decide) ?_
  refine lv_aload_n hx hb dL_slot_3 rfl (lv_at hl 0 rfl) ?_
  refine lv_iload_n hx hb dL_slot_4 rfl (lv_at hl 1 rfl) ?_
  refine lv_iload_n hx hb dL_slot_5 rfl (lv_at hl 2 rfl) ?_
  refine lv_iload_n hx hb dL_slot_6 rfl (lv_at hl 3 rfl) ?_
  refine lv_lload hx hb dL_slot_7 (lv_at hl 4 rfl) ?_
  refine lv_iload hx hb dL_slot_9 (lv_at hl 5 rfl) ?_
  refine lv_iload hx hb dL_slot_11 (lv_at hl 6 rfl) ?_
  refine w_calli (w := wC a k) (va_runV (As := [.int (nI sc), .int (nI tm), .int (nI n), .long bt, .int (nI un), .int (nI ic)]) (rest := [.int 0, .ref o]) ⟨hx, hb, hml, hown, hts⟩ (c_X5_slot l dC dI a k u _ h hN hp ho sc tm n bt un ic h1 h2 h3 h4 h5 h6) (cwV 6 hts (wG_V wG_c q_237 q_238 q_239 q_1 q_240) rfl rfl rfl (by decide +kernel) ⟨Nat.le_of_ble_eq_true rfl, Nat.le_of_ble_eq_true rfl⟩) (w_muV hK (w_Pl hP) (w_Dl hD) (ci := 5) (q0 := 0) rfl (wC_g0 a k _) rfl) rfl rfl hl.1 rfl (lv_room (Nat.le_of_ble_eq_true rfl)) dL_slot_13 ⟨Nat.le_of_ble_eq_true rfl, Nat.le_of_ble_eq_true rfl⟩) hP hD hS hA (fun r9 u9 H locs hp9 hP hD hS => ?_)
  refine lv_i2l hx hb dL_slot_16 rfl ?_
  refine va_last hx hb hK hP hD hS 26 1 (cA := k.2.1) (n := 1) rfl rfl (i := 0) vp_in01 dL_slot_17 (fun H locs hP hD hS => ?_)
  have hP := w_pE (wL_s26 a o k _ _ _) hP
  have hD := w_dE (wL_s26 a o k _ _ _) hD
  refine lv_goto (tgt := 33) hx hb dL_slot_18 (by decide) ?_
  refine lv_iconst (v := 0) hx hb dL_slot_33 (by decide) ?_
  exact W.iret (v := 0) hx hb hr (fun t9 ht9 hW9 => ⟨⟨_, (u9, vp_updL f (0 : Int32).toNatClampNeg r9.toInt64), rfl, hpost _ _ _ hp9 (wO_0 f _), by rw [ht9]; exact hP, va_K.moved hW9.alike hK, hD⟩, hS.F ht9⟩) hS.2.2 dL_slot_34
set_option maxHeartbeats 4000000 in
set_option maxRecDepth 100000 in
theorem r_slot_1 (l : Launch) (dC : Nat → ClassId) (dI : Nat → Nat → Nat) (a : Nat → Nat) (k : c_K) (u : c_St) (o : Nat) (f : Nat → Int64) (sz : Nat) (hst : l.stackTraces = false)    (p0 p1 p2 : Int32) (bt : Int64) (p4 p5 : Int32) (hb9 : inR p0 0 9 = false) (post : Int32 → c_X → Prop) (hpost : post 1 (u, f)) : Met l yL_slot wsL_slot ({ frames := 8, cells := 1, slots := 6, locals := 150 }) (va_Pc [.ref (a 0), .int p0, .int p1, .int p2, .long bt, .int p4, .int p5, .ref o] (w_wr (dC, dI) vwCl (wL a o k (u, f)) (tC k) sz)) (va_Qi post (w_at (dC, dI) vwCl (wL a o k) (tC k) (va_A (wL a o k (u, f)) sz)) (va_A (wL a o k (u, f)) sz)) 1 6 (va_A (wL a o k (u, f)) sz) := by
  refine va_MetW (cc := cL_slot) (maxL := 10) (ret := (some .int)) (by decide) rfl ?_
  intro p e s m args below meth c s₁ B hml hv
  obtain ⟨rfl, ⟨hsz, hP, hK, hD0, hX⟩, hNC⟩ := hv
  have hx := B.exec
  have hb := B.bytes
  have hr := B.returns
  have hts := atoms_spec (ws := wsL_slot) B.pre
  have htg : ∀ w ∈ wG, w.before _ s = true := fun w h => hts w (List.mem_cons_of_mem _ h)
  have hown : s.vm.findClass RL = some m.cls := findClass_of_methodNamed B.named
  have hlocks := B.notSynchronized
  have htab := x_tab B (hts _ List.mem_cons_self)
  subst hsz
  have hX0 : w_x (va_A [] s.heap.size) s s.heap := hX.narrow (fun q h => Or.inr (va_A0.mp h))
  have hX1 : w_x (va_A (wC a k u) s.heap.size) s s.heap := hX.narrow (fun q h => va_Al h)
  have hP : va_P (dC, dI) vwCl (wC a k u ++ wO o k f) s.heap := hP
  have hD : va_D (va_A (wL a o k (u, f)) s.heap.size) (wC a k u ++ wO o k f) := hD0.self (sz := s.heap.size)
  have hAw : ∀ q, va_A (wC a k u) s.heap.size q → va_A (wL a o k (u, f)) s.heap.size q := fun q h => va_Al h
  generalize hAe : va_A (wL a o k (u, f)) s.heap.size = A at hD hAw ⊢
  have hA : ∀ q : Nat, s.heap.size ≤ q → A q := fun q h => by rw [← hAe]; exact Or.inr h
  have hS : va_S A s.heap s.heap [] := va_S.rf
  have hl := lv_entry ([.ref (a 0), .int p0, .int p1, .int p2, .long bt, .int p4, .int p5, .ref o]) (n := 10) (Nat.le_of_ble_eq_true rfl)
  rw [lg_entry_eq]
  generalize (lg_sl ([.ref (a 0), .int p0, .int p1, .int p2, .long bt, .int p4, .int p5, .ref o]) ++ List.replicate (10 - (lg_sl ([.ref (a 0), .int p0, .int p1, .int p2, .long bt, .int p4, .int p5, .ref o])).length) Slot.unset).toArray = ls at hl ⊢
  have hl : lv_has ls 10 [(0, .ref (a 0)), (1, .int p0), (2, .int p1), (3, .int p2), (4, .long bt), (6, .int p4), (7, .int p5), (8, .ref o)] := hl
  refine lv_aload hx hb dL_slot_0 (lv_at hl 7 rfl) ?_
  refine lv_iconst (v := 0) hx hb dL_slot_2 (by decide) ?_
  refine lv_aload_n hx hb dL_slot_3 rfl (lv_at hl 0 rfl) ?_
  refine lv_iload_n hx hb dL_slot_4 rfl (lv_at hl 1 rfl) ?_
  refine lv_iload_n hx hb dL_slot_5 rfl (lv_at hl 2 rfl) ?_
  refine lv_iload_n hx hb dL_slot_6 rfl (lv_at hl 3 rfl) ?_
  refine lv_lload hx hb dL_slot_7 (lv_at hl 4 rfl) ?_
  refine lv_iload hx hb dL_slot_9 (lv_at hl 5 rfl) ?_
  refine lv_iload hx hb dL_slot_11 (lv_at hl 6 rfl) ?_
  refine XW.callV (As := [.int p0, .int p1, .int p2, .long bt, .int p4, .int p5]) (rest := [.int 0, .ref o]) ⟨hx, hb, hml, hown, hts⟩ (x_X5_slot_1 l dC dI a k u _ hst p0 p1 p2 bt p4 p5 hb9) (cwV 6 hts (wG_V wG_c q_237 q_238 q_239 q_1 q_240) rfl rfl rfl (by decide +kernel) ⟨Nat.le_of_ble_eq_true rfl, Nat.le_of_ble_eq_true rfl⟩) (w_pxV hK (w_Pl hP) hX0 (ci := 5) (q0 := 0) rfl (wC_g0 a k _) rfl) rfl hl.1 rfl (Nat.le_of_ble_eq_true rfl) dL_slot_13 ⟨Nat.le_of_ble_eq_true rfl, Nat.le_of_ble_eq_true rfl⟩ (fun q9 st9 t9 H9 L9 h0 hfc ht9 hal9 hxc hL9 => ?_)
  obtain ⟨⟨ce9, k1, k2, k3⟩, hP, hS⟩ := x_back h0 hfc ht9 hxc hL9 hP hA
  refine XW.caught (own := RL) (name := eIAE) (E := eIAE) hown [] (x_en (0, 18, 21, 13)) [(x_en (0, 18, 25, 15)), (x_en (0, 18, 29, 17))] htab (fun y9 hy9 => by cases hy9) rfl (by decide) (htg _ q_234) (x_cIAE hX0) k1 k2 k3 ?_
  refine lv_astore (lv' := [(9, .ref q9), (0, .ref (a 0)), (1, .int p0), (2, .int p1), (3, .int p2), (4, .long bt), (6, .int p4), (7, .int p5), (8, .ref o)]) hx hb dL_slot_21 hl (by decide) rfl (fun ls hl => ?_)
  refine lv_iconst (v := 1) hx hb dL_slot_23 (by decide) ?_
  exact W.iret (v := 1) hx hb hr (fun t9 ht9 hW9 => ⟨⟨_, (u, f), rfl, hpost, by rw [ht9]; exact hP, va_K.moved hW9.alike hK, hD⟩, hS.F ht9⟩) hS.2.2 dL_slot_24
set_option maxHeartbeats 4000000 in
set_option maxRecDepth 100000 in
theorem r_slot_2 (l : Launch) (dC : Nat → ClassId) (dI : Nat → Nat → Nat) (a : Nat → Nat) (k : c_K) (u : c_St) (o : Nat) (f : Nat → Int64) (sz : Nat) (hst : l.stackTraces = false)    (sc : Nat) (h1 : sc ≤ 9) (p1 p2 : Int32) (bt : Int64) (p4 p5 : Int32) (hb9 : inR p4 0 99 = false) (post : Int32 → c_X → Prop) (hpost : post 1 (u, f)) : Met l yL_slot wsL_slot ({ frames := 8, cells := 1, slots := 6, locals := 150 }) (va_Pc [.ref (a 0), .int (nI sc), .int p1, .int p2, .long bt, .int p4, .int p5, .ref o] (w_wr (dC, dI) vwCl (wL a o k (u, f)) (tC k) sz)) (va_Qi post (w_at (dC, dI) vwCl (wL a o k) (tC k) (va_A (wL a o k (u, f)) sz)) (va_A (wL a o k (u, f)) sz)) 1 6 (va_A (wL a o k (u, f)) sz) := by
  refine va_MetW (cc := cL_slot) (maxL := 10) (ret := (some .int)) (by decide) rfl ?_
  intro p e s m args below meth c s₁ B hml hv
  obtain ⟨rfl, ⟨hsz, hP, hK, hD0, hX⟩, hNC⟩ := hv
  have hx := B.exec
  have hb := B.bytes
  have hr := B.returns
  have hts := atoms_spec (ws := wsL_slot) B.pre
  have htg : ∀ w ∈ wG, w.before _ s = true := fun w h => hts w (List.mem_cons_of_mem _ h)
  have hown : s.vm.findClass RL = some m.cls := findClass_of_methodNamed B.named
  have hlocks := B.notSynchronized
  have htab := x_tab B (hts _ List.mem_cons_self)
  subst hsz
  have hX0 : w_x (va_A [] s.heap.size) s s.heap := hX.narrow (fun q h => Or.inr (va_A0.mp h))
  have hX1 : w_x (va_A (wC a k u) s.heap.size) s s.heap := hX.narrow (fun q h => va_Al h)
  have hP : va_P (dC, dI) vwCl (wC a k u ++ wO o k f) s.heap := hP
  have hD : va_D (va_A (wL a o k (u, f)) s.heap.size) (wC a k u ++ wO o k f) := hD0.self (sz := s.heap.size)
  have hAw : ∀ q, va_A (wC a k u) s.heap.size q → va_A (wL a o k (u, f)) s.heap.size q := fun q h => va_Al h
  generalize hAe : va_A (wL a o k (u, f)) s.heap.size = A at hD hAw ⊢
  have hA : ∀ q : Nat, s.heap.size ≤ q → A q := fun q h => by rw [← hAe]; exact Or.inr h
  have hS : va_S A s.heap s.heap [] := va_S.rf
  have hl := lv_entry ([.ref (a 0), .int (nI sc), .int p1, .int p2, .long bt, .int p4, .int p5, .ref o]) (n := 10) (Nat.le_of_ble_eq_true rfl)
  rw [lg_entry_eq]
  generalize (lg_sl ([.ref (a 0), .int (nI sc), .int p1, .int p2, .long bt, .int p4, .int p5, .ref o]) ++ List.replicate (10 - (lg_sl ([.ref (a 0), .int (nI sc), .int p1, .int p2, .long bt, .int p4, .int p5, .ref o])).length) Slot.unset).toArray = ls at hl ⊢
  have hl : lv_has ls 10 [(0, .ref (a 0)), (1, .int (nI sc)), (2, .int p1), (3, .int p2), (4, .long bt), (6, .int p4), (7, .int p5), (8, .ref o)] := hl
  refine lv_aload hx hb dL_slot_0 (lv_at hl 7 rfl) ?_
  refine lv_iconst (v := 0) hx hb dL_slot_2 (by decide) ?_
  refine lv_aload_n hx hb dL_slot_3 rfl (lv_at hl 0 rfl) ?_
  refine lv_iload_n hx hb dL_slot_4 rfl (lv_at hl 1 rfl) ?_
  refine lv_iload_n hx hb dL_slot_5 rfl (lv_at hl 2 rfl) ?_
  refine lv_iload_n hx hb dL_slot_6 rfl (lv_at hl 3 rfl) ?_
  refine lv_lload hx hb dL_slot_7 (lv_at hl 4 rfl) ?_
  refine lv_iload hx hb dL_slot_9 (lv_at hl 5 rfl) ?_
  refine lv_iload hx hb dL_slot_11 (lv_at hl 6 rfl) ?_
  refine XW.callV (As := [.int (nI sc), .int p1, .int p2, .long bt, .int p4, .int p5]) (rest := [.int 0, .ref o]) ⟨hx, hb, hml, hown, hts⟩ (x_X5_slot_2 l dC dI a k u _ hst sc h1 p1 p2 bt p4 p5 hb9) (cwV 6 hts (wG_V wG_c q_237 q_238 q_239 q_1 q_240) rfl rfl rfl (by decide +kernel) ⟨Nat.le_of_ble_eq_true rfl, Nat.le_of_ble_eq_true rfl⟩) (w_pxV hK (w_Pl hP) hX0 (ci := 5) (q0 := 0) rfl (wC_g0 a k _) rfl) rfl hl.1 rfl (Nat.le_of_ble_eq_true rfl) dL_slot_13 ⟨Nat.le_of_ble_eq_true rfl, Nat.le_of_ble_eq_true rfl⟩ (fun q9 st9 t9 H9 L9 h0 hfc ht9 hal9 hxc hL9 => ?_)
  obtain ⟨⟨ce9, k1, k2, k3⟩, hP, hS⟩ := x_back h0 hfc ht9 hxc hL9 hP hA
  refine XW.caught (own := RL) (name := eIAE) (E := eIAE) hown [] (x_en (0, 18, 21, 13)) [(x_en (0, 18, 25, 15)), (x_en (0, 18, 29, 17))] htab (fun y9 hy9 => by cases hy9) rfl (by decide) (htg _ q_234) (x_cIAE hX0) k1 k2 k3 ?_
  refine lv_astore (lv' := [(9, .ref q9), (0, .ref (a 0)), (1, .int (nI sc)), (2, .int p1), (3, .int p2), (4, .long bt), (6, .int p4), (7, .int p5), (8, .ref o)]) hx hb dL_slot_21 hl (by decide) rfl (fun ls hl => ?_)
  refine lv_iconst (v := 1) hx hb dL_slot_23 (by decide) ?_
  exact W.iret (v := 1) hx hb hr (fun t9 ht9 hW9 => ⟨⟨_, (u, f), rfl, hpost, by rw [ht9]; exact hP, va_K.moved hW9.alike hK, hD⟩, hS.F ht9⟩) hS.2.2 dL_slot_24
set_option maxHeartbeats 4000000 in
set_option maxRecDepth 100000 in
theorem r_slot_3 (l : Launch) (dC : Nat → ClassId) (dI : Nat → Nat → Nat) (a : Nat → Nat) (k : c_K) (u : c_St) (o : Nat) (f : Nat → Int64) (sz : Nat) (hst : l.stackTraces = false)    (sc un : Nat) (h1 : sc ≤ 9) (h5 : un ≤ 99) (p1 p2 : Int32) (bt : Int64) (p5 : Int32) (hb9 : inR p5 0 49 = false) (post : Int32 → c_X → Prop) (hpost : post 1 (u, f)) : Met l yL_slot wsL_slot ({ frames := 8, cells := 1, slots := 6, locals := 150 }) (va_Pc [.ref (a 0), .int (nI sc), .int p1, .int p2, .long bt, .int (nI un), .int p5, .ref o] (w_wr (dC, dI) vwCl (wL a o k (u, f)) (tC k) sz)) (va_Qi post (w_at (dC, dI) vwCl (wL a o k) (tC k) (va_A (wL a o k (u, f)) sz)) (va_A (wL a o k (u, f)) sz)) 1 6 (va_A (wL a o k (u, f)) sz) := by
  refine va_MetW (cc := cL_slot) (maxL := 10) (ret := (some .int)) (by decide) rfl ?_
  intro p e s m args below meth c s₁ B hml hv
  obtain ⟨rfl, ⟨hsz, hP, hK, hD0, hX⟩, hNC⟩ := hv
  have hx := B.exec
  have hb := B.bytes
  have hr := B.returns
  have hts := atoms_spec (ws := wsL_slot) B.pre
  have htg : ∀ w ∈ wG, w.before _ s = true := fun w h => hts w (List.mem_cons_of_mem _ h)
  have hown : s.vm.findClass RL = some m.cls := findClass_of_methodNamed B.named
  have hlocks := B.notSynchronized
  have htab := x_tab B (hts _ List.mem_cons_self)
  subst hsz
  have hX0 : w_x (va_A [] s.heap.size) s s.heap := hX.narrow (fun q h => Or.inr (va_A0.mp h))
  have hX1 : w_x (va_A (wC a k u) s.heap.size) s s.heap := hX.narrow (fun q h => va_Al h)
  have hP : va_P (dC, dI) vwCl (wC a k u ++ wO o k f) s.heap := hP
  have hD : va_D (va_A (wL a o k (u, f)) s.heap.size) (wC a k u ++ wO o k f) := hD0.self (sz := s.heap.size)
  have hAw : ∀ q, va_A (wC a k u) s.heap.size q → va_A (wL a o k (u, f)) s.heap.size q := fun q h => va_Al h
  generalize hAe : va_A (wL a o k (u, f)) s.heap.size = A at hD hAw ⊢
  have hA : ∀ q : Nat, s.heap.size ≤ q → A q := fun q h => by rw [← hAe]; exact Or.inr h
  have hS : va_S A s.heap s.heap [] := va_S.rf
  have hl := lv_entry ([.ref (a 0), .int (nI sc), .int p1, .int p2, .long bt, .int (nI un), .int p5, .ref o]) (n := 10) (Nat.le_of_ble_eq_true rfl)
  rw [lg_entry_eq]
  generalize (lg_sl ([.ref (a 0), .int (nI sc), .int p1, .int p2, .long bt, .int (nI un), .int p5, .ref o]) ++ List.replicate (10 - (lg_sl ([.ref (a 0), .int (nI sc), .int p1, .int p2, .long bt, .int (nI un), .int p5, .ref o])).length) Slot.unset).toArray = ls at hl ⊢
  have hl : lv_has ls 10 [(0, .ref (a 0)), (1, .int (nI sc)), (2, .int p1), (3, .int p2), (4, .long bt), (6, .int (nI un)), (7, .int p5), (8, .ref o)] := hl
  refine lv_aload hx hb dL_slot_0 (lv_at hl 7 rfl) ?_
  refine lv_iconst (v := 0) hx hb dL_slot_2 (by decide) ?_
  refine lv_aload_n hx hb dL_slot_3 rfl (lv_at hl 0 rfl) ?_
  refine lv_iload_n hx hb dL_slot_4 rfl (lv_at hl 1 rfl) ?_
  refine lv_iload_n hx hb dL_slot_5 rfl (lv_at hl 2 rfl) ?_
  refine lv_iload_n hx hb dL_slot_6 rfl (lv_at hl 3 rfl) ?_
  refine lv_lload hx hb dL_slot_7 (lv_at hl 4 rfl) ?_
  refine lv_iload hx hb dL_slot_9 (lv_at hl 5 rfl) ?_
  refine lv_iload hx hb dL_slot_11 (lv_at hl 6 rfl) ?_
  refine XW.callV (As := [.int (nI sc), .int p1, .int p2, .long bt, .int (nI un), .int p5]) (rest := [.int 0, .ref o]) ⟨hx, hb, hml, hown, hts⟩ (x_X5_slot_3 l dC dI a k u _ hst sc un h1 h5 p1 p2 bt p5 hb9) (cwV 6 hts (wG_V wG_c q_237 q_238 q_239 q_1 q_240) rfl rfl rfl (by decide +kernel) ⟨Nat.le_of_ble_eq_true rfl, Nat.le_of_ble_eq_true rfl⟩) (w_pxV hK (w_Pl hP) hX0 (ci := 5) (q0 := 0) rfl (wC_g0 a k _) rfl) rfl hl.1 rfl (Nat.le_of_ble_eq_true rfl) dL_slot_13 ⟨Nat.le_of_ble_eq_true rfl, Nat.le_of_ble_eq_true rfl⟩ (fun q9 st9 t9 H9 L9 h0 hfc ht9 hal9 hxc hL9 => ?_)
  obtain ⟨⟨ce9, k1, k2, k3⟩, hP, hS⟩ := x_back h0 hfc ht9 hxc hL9 hP hA
  refine XW.caught (own := RL) (name := eIAE) (E := eIAE) hown [] (x_en (0, 18, 21, 13)) [(x_en (0, 18, 25, 15)), (x_en (0, 18, 29, 17))] htab (fun y9 hy9 => by cases hy9) rfl (by decide) (htg _ q_234) (x_cIAE hX0) k1 k2 k3 ?_
  refine lv_astore (lv' := [(9, .ref q9), (0, .ref (a 0)), (1, .int (nI sc)), (2, .int p1), (3, .int p2), (4, .long bt), (6, .int (nI un)), (7, .int p5), (8, .ref o)]) hx hb dL_slot_21 hl (by decide) rfl (fun ls hl => ?_)
  refine lv_iconst (v := 1) hx hb dL_slot_23 (by decide) ?_
  exact W.iret (v := 1) hx hb hr (fun t9 ht9 hW9 => ⟨⟨_, (u, f), rfl, hpost, by rw [ht9]; exact hP, va_K.moved hW9.alike hK, hD⟩, hS.F ht9⟩) hS.2.2 dL_slot_24
set_option maxHeartbeats 4000000 in
set_option maxRecDepth 100000 in
theorem r_slot_4 (l : Launch) (dC : Nat → ClassId) (dI : Nat → Nat → Nat) (a : Nat → Nat) (k : c_K) (u : c_St) (o : Nat) (f : Nat → Int64) (sz : Nat) (hst : l.stackTraces = false)    (sc un ic : Nat) (h1 : sc ≤ 9) (h5 : un ≤ 99) (h6 : ic ≤ 49) (p1 p2 : Int32) (bt : Int64) (hb9 : inR p1 0 9999999 = false) (post : Int32 → c_X → Prop) (hpost : post 2 (u, f)) : Met l yL_slot wsL_slot ({ frames := 8, cells := 1, slots := 6, locals := 150 }) (va_Pc [.ref (a 0), .int (nI sc), .int p1, .int p2, .long bt, .int (nI un), .int (nI ic), .ref o] (w_wr (dC, dI) vwCl (wL a o k (u, f)) (tC k) sz)) (va_Qi post (w_at (dC, dI) vwCl (wL a o k) (tC k) (va_A (wL a o k (u, f)) sz)) (va_A (wL a o k (u, f)) sz)) 1 6 (va_A (wL a o k (u, f)) sz) := by
  refine va_MetW (cc := cL_slot) (maxL := 10) (ret := (some .int)) (by decide) rfl ?_
  intro p e s m args below meth c s₁ B hml hv
  obtain ⟨rfl, ⟨hsz, hP, hK, hD0, hX⟩, hNC⟩ := hv
  have hx := B.exec
  have hb := B.bytes
  have hr := B.returns
  have hts := atoms_spec (ws := wsL_slot) B.pre
  have htg : ∀ w ∈ wG, w.before _ s = true := fun w h => hts w (List.mem_cons_of_mem _ h)
  have hown : s.vm.findClass RL = some m.cls := findClass_of_methodNamed B.named
  have hlocks := B.notSynchronized
  have htab := x_tab B (hts _ List.mem_cons_self)
  subst hsz
  have hX0 : w_x (va_A [] s.heap.size) s s.heap := hX.narrow (fun q h => Or.inr (va_A0.mp h))
  have hX1 : w_x (va_A (wC a k u) s.heap.size) s s.heap := hX.narrow (fun q h => va_Al h)
  have hP : va_P (dC, dI) vwCl (wC a k u ++ wO o k f) s.heap := hP
  have hD : va_D (va_A (wL a o k (u, f)) s.heap.size) (wC a k u ++ wO o k f) := hD0.self (sz := s.heap.size)
  have hAw : ∀ q, va_A (wC a k u) s.heap.size q → va_A (wL a o k (u, f)) s.heap.size q := fun q h => va_Al h
  generalize hAe : va_A (wL a o k (u, f)) s.heap.size = A at hD hAw ⊢
  have hA : ∀ q : Nat, s.heap.size ≤ q → A q := fun q h => by rw [← hAe]; exact Or.inr h
  have hS : va_S A s.heap s.heap [] := va_S.rf
  have hl := lv_entry ([.ref (a 0), .int (nI sc), .int p1, .int p2, .long bt, .int (nI un), .int (nI ic), .ref o]) (n := 10) (Nat.le_of_ble_eq_true rfl)
  rw [lg_entry_eq]
  generalize (lg_sl ([.ref (a 0), .int (nI sc), .int p1, .int p2, .long bt, .int (nI un), .int (nI ic), .ref o]) ++ List.replicate (10 - (lg_sl ([.ref (a 0), .int (nI sc), .int p1, .int p2, .long bt, .int (nI un), .int (nI ic), .ref o])).length) Slot.unset).toArray = ls at hl ⊢
  have hl : lv_has ls 10 [(0, .ref (a 0)), (1, .int (nI sc)), (2, .int p1), (3, .int p2), (4, .long bt), (6, .int (nI un)), (7, .int (nI ic)), (8, .ref o)] := hl
  refine lv_aload hx hb dL_slot_0 (lv_at hl 7 rfl) ?_
  refine lv_iconst (v := 0) hx hb dL_slot_2 (by decide) ?_
  refine lv_aload_n hx hb dL_slot_3 rfl (lv_at hl 0 rfl) ?_
  refine lv_iload_n hx hb dL_slot_4 rfl (lv_at hl 1 rfl) ?_
  refine lv_iload_n hx hb dL_slot_5 rfl (lv_at hl 2 rfl) ?_
  refine lv_iload_n hx hb dL_slot_6 rfl (lv_at hl 3 rfl) ?_
  refine lv_lload hx hb dL_slot_7 (lv_at hl 4 rfl) ?_
  refine lv_iload hx hb dL_slot_9 (lv_at hl 5 rfl) ?_
  refine lv_iload hx hb dL_slot_11 (lv_at hl 6 rfl) ?_
  refine XW.callV (As := [.int (nI sc), .int p1, .int p2, .long bt, .int (nI un), .int (nI ic)]) (rest := [.int 0, .ref o]) ⟨hx, hb, hml, hown, hts⟩ (x_X5_slot_4 l dC dI a k u _ hst sc un ic h1 h5 h6 p1 p2 bt hb9) (cwV 6 hts (wG_V wG_c q_237 q_238 q_239 q_1 q_240) rfl rfl rfl (by decide +kernel) ⟨Nat.le_of_ble_eq_true rfl, Nat.le_of_ble_eq_true rfl⟩) (w_pxV hK (w_Pl hP) hX0 (ci := 5) (q0 := 0) rfl (wC_g0 a k _) rfl) rfl hl.1 rfl (Nat.le_of_ble_eq_true rfl) dL_slot_13 ⟨Nat.le_of_ble_eq_true rfl, Nat.le_of_ble_eq_true rfl⟩ (fun q9 st9 t9 H9 L9 h0 hfc ht9 hal9 hxc hL9 => ?_)
  obtain ⟨⟨ce9, k1, k2, k3⟩, hP, hS⟩ := x_back h0 hfc ht9 hxc hL9 hP hA
  refine XW.caught (own := RL) (name := eIOE) (E := eIOE) hown [(x_en (0, 18, 21, 13))] (x_en (0, 18, 25, 15)) [(x_en (0, 18, 29, 17))] htab (x_p1 ⟨rfl, by decide, eIAE, htg _ q_234, x_nc.use hNC.1⟩) rfl (by decide) (htg _ q_235) (x_cIOE hX0) k1 k2 k3 ?_
  refine lv_astore (lv' := [(9, .ref q9), (0, .ref (a 0)), (1, .int (nI sc)), (2, .int p1), (3, .int p2), (4, .long bt), (6, .int (nI un)), (7, .int (nI ic)), (8, .ref o)]) hx hb dL_slot_25 hl (by decide) rfl (fun ls hl => ?_)
  refine lv_iconst (v := 2) hx hb dL_slot_27 (by decide) ?_
  exact W.iret (v := 2) hx hb hr (fun t9 ht9 hW9 => ⟨⟨_, (u, f), rfl, hpost, by rw [ht9]; exact hP, va_K.moved hW9.alike hK, hD⟩, hS.F ht9⟩) hS.2.2 dL_slot_28
set_option maxHeartbeats 4000000 in
set_option maxRecDepth 100000 in
theorem r_slot_5 (l : Launch) (dC : Nat → ClassId) (dI : Nat → Nat → Nat) (a : Nat → Nat) (k : c_K) (u : c_St) (o : Nat) (f : Nat → Int64) (sz : Nat) (hst : l.stackTraces = false)    (sc tm un ic : Nat) (h1 : sc ≤ 9) (h2 : tm ≤ 9999999) (h5 : un ≤ 99) (h6 : ic ≤ 49) (p2 : Int32) (bt : Int64) (hb9 : inR p2 1 8 = false) (post : Int32 → c_X → Prop) (hpost : post 2 (u, f)) : Met l yL_slot wsL_slot ({ frames := 8, cells := 1, slots := 6, locals := 150 }) (va_Pc [.ref (a 0), .int (nI sc), .int (nI tm), .int p2, .long bt, .int (nI un), .int (nI ic), .ref o] (w_wr (dC, dI) vwCl (wL a o k (u, f)) (tC k) sz)) (va_Qi post (w_at (dC, dI) vwCl (wL a o k) (tC k) (va_A (wL a o k (u, f)) sz)) (va_A (wL a o k (u, f)) sz)) 1 6 (va_A (wL a o k (u, f)) sz) := by
  refine va_MetW (cc := cL_slot) (maxL := 10) (ret := (some .int)) (by decide) rfl ?_
  intro p e s m args below meth c s₁ B hml hv
  obtain ⟨rfl, ⟨hsz, hP, hK, hD0, hX⟩, hNC⟩ := hv
  have hx := B.exec
  have hb := B.bytes
  have hr := B.returns
  have hts := atoms_spec (ws := wsL_slot) B.pre
  have htg : ∀ w ∈ wG, w.before _ s = true := fun w h => hts w (List.mem_cons_of_mem _ h)
  have hown : s.vm.findClass RL = some m.cls := findClass_of_methodNamed B.named
  have hlocks := B.notSynchronized
  have htab := x_tab B (hts _ List.mem_cons_self)
  subst hsz
  have hX0 : w_x (va_A [] s.heap.size) s s.heap := hX.narrow (fun q h => Or.inr (va_A0.mp h))
  have hX1 : w_x (va_A (wC a k u) s.heap.size) s s.heap := hX.narrow (fun q h => va_Al h)
  have hP : va_P (dC, dI) vwCl (wC a k u ++ wO o k f) s.heap := hP
  have hD : va_D (va_A (wL a o k (u, f)) s.heap.size) (wC a k u ++ wO o k f) := hD0.self (sz := s.heap.size)
  have hAw : ∀ q, va_A (wC a k u) s.heap.size q → va_A (wL a o k (u, f)) s.heap.size q := fun q h => va_Al h
  generalize hAe : va_A (wL a o k (u, f)) s.heap.size = A at hD hAw ⊢
  have hA : ∀ q : Nat, s.heap.size ≤ q → A q := fun q h => by rw [← hAe]; exact Or.inr h
  have hS : va_S A s.heap s.heap [] := va_S.rf
  have hl := lv_entry ([.ref (a 0), .int (nI sc), .int (nI tm), .int p2, .long bt, .int (nI un), .int (nI ic), .ref o]) (n := 10) (Nat.le_of_ble_eq_true rfl)
  rw [lg_entry_eq]
  generalize (lg_sl ([.ref (a 0), .int (nI sc), .int (nI tm), .int p2, .long bt, .int (nI un), .int (nI ic), .ref o]) ++ List.replicate (10 - (lg_sl ([.ref (a 0), .int (nI sc), .int (nI tm), .int p2, .long bt, .int (nI un), .int (nI ic), .ref o])).length) Slot.unset).toArray = ls at hl ⊢
  have hl : lv_has ls 10 [(0, .ref (a 0)), (1, .int (nI sc)), (2, .int (nI tm)), (3, .int p2), (4, .long bt), (6, .int (nI un)), (7, .int (nI ic)), (8, .ref o)] := hl
  refine lv_aload hx hb dL_slot_0 (lv_at hl 7 rfl) ?_
  refine lv_iconst (v := 0) hx hb dL_slot_2 (by decide) ?_
  refine lv_aload_n hx hb dL_slot_3 rfl (lv_at hl 0 rfl) ?_
  refine lv_iload_n hx hb dL_slot_4 rfl (lv_at hl 1 rfl) ?_
  refine lv_iload_n hx hb dL_slot_5 rfl (lv_at hl 2 rfl) ?_
  refine lv_iload_n hx hb dL_slot_6 rfl (lv_at hl 3 rfl) ?_
  refine lv_lload hx hb dL_slot_7 (lv_at hl 4 rfl) ?_
  refine lv_iload hx hb dL_slot_9 (lv_at hl 5 rfl) ?_
  refine lv_iload hx hb dL_slot_11 (lv_at hl 6 rfl) ?_
  refine XW.callV (As := [.int (nI sc), .int (nI tm), .int p2, .long bt, .int (nI un), .int (nI ic)]) (rest := [.int 0, .ref o]) ⟨hx, hb, hml, hown, hts⟩ (x_X5_slot_5 l dC dI a k u _ hst sc tm un ic h1 h2 h5 h6 p2 bt hb9) (cwV 6 hts (wG_V wG_c q_237 q_238 q_239 q_1 q_240) rfl rfl rfl (by decide +kernel) ⟨Nat.le_of_ble_eq_true rfl, Nat.le_of_ble_eq_true rfl⟩) (w_pxV hK (w_Pl hP) hX0 (ci := 5) (q0 := 0) rfl (wC_g0 a k _) rfl) rfl hl.1 rfl (Nat.le_of_ble_eq_true rfl) dL_slot_13 ⟨Nat.le_of_ble_eq_true rfl, Nat.le_of_ble_eq_true rfl⟩ (fun q9 st9 t9 H9 L9 h0 hfc ht9 hal9 hxc hL9 => ?_)
  obtain ⟨⟨ce9, k1, k2, k3⟩, hP, hS⟩ := x_back h0 hfc ht9 hxc hL9 hP hA
  refine XW.caught (own := RL) (name := eIOE) (E := eIOE) hown [(x_en (0, 18, 21, 13))] (x_en (0, 18, 25, 15)) [(x_en (0, 18, 29, 17))] htab (x_p1 ⟨rfl, by decide, eIAE, htg _ q_234, x_nc.use hNC.1⟩) rfl (by decide) (htg _ q_235) (x_cIOE hX0) k1 k2 k3 ?_
  refine lv_astore (lv' := [(9, .ref q9), (0, .ref (a 0)), (1, .int (nI sc)), (2, .int (nI tm)), (3, .int p2), (4, .long bt), (6, .int (nI un)), (7, .int (nI ic)), (8, .ref o)]) hx hb dL_slot_25 hl (by decide) rfl (fun ls hl => ?_)
  refine lv_iconst (v := 2) hx hb dL_slot_27 (by decide) ?_
  exact W.iret (v := 2) hx hb hr (fun t9 ht9 hW9 => ⟨⟨_, (u, f), rfl, hpost, by rw [ht9]; exact hP, va_K.moved hW9.alike hK, hD⟩, hS.F ht9⟩) hS.2.2 dL_slot_28
set_option maxHeartbeats 4000000 in
set_option maxRecDepth 100000 in
theorem r_slot_6 (l : Launch) (dC : Nat → ClassId) (dI : Nat → Nat → Nat) (a : Nat → Nat) (k : c_K) (u : c_St) (o : Nat) (f : Nat → Int64) (sz : Nat) (hst : l.stackTraces = false)    (sc tm n : Nat) (bt : Int64) (un ic : Nat) (h1 : sc ≤ 9) (h2 : tm ≤ 9999999) (h3 : 1 ≤ n) (h4 : n ≤ 8) (h5 : un ≤ 99) (h6 : ic ≤ 49) (hN : cu_N u 0 = 200) (post : Int32 → c_X → Prop) (hpost : post 3 (u, f)) : Met l yL_slot wsL_slot ({ frames := 8, cells := 1, slots := 6, locals := 150 }) (va_Pc [.ref (a 0), .int (nI sc), .int (nI tm), .int (nI n), .long bt, .int (nI un), .int (nI ic), .ref o] (w_wr (dC, dI) vwCl (wL a o k (u, f)) (tC k) sz)) (va_Qi post (w_at (dC, dI) vwCl (wL a o k) (tC k) (va_A (wL a o k (u, f)) sz)) (va_A (wL a o k (u, f)) sz)) 1 6 (va_A (wL a o k (u, f)) sz) := by
  refine va_MetW (cc := cL_slot) (maxL := 10) (ret := (some .int)) (by decide) rfl ?_
  intro p e s m args below meth c s₁ B hml hv
  obtain ⟨rfl, ⟨hsz, hP, hK, hD0, hX⟩, hNC⟩ := hv
  have hx := B.exec
  have hb := B.bytes
  have hr := B.returns
  have hts := atoms_spec (ws := wsL_slot) B.pre
  have htg : ∀ w ∈ wG, w.before _ s = true := fun w h => hts w (List.mem_cons_of_mem _ h)
  have hown : s.vm.findClass RL = some m.cls := findClass_of_methodNamed B.named
  have hlocks := B.notSynchronized
  have htab := x_tab B (hts _ List.mem_cons_self)
  subst hsz
  have hX0 : w_x (va_A [] s.heap.size) s s.heap := hX.narrow (fun q h => Or.inr (va_A0.mp h))
  have hX1 : w_x (va_A (wC a k u) s.heap.size) s s.heap := hX.narrow (fun q h => va_Al h)
  have hP : va_P (dC, dI) vwCl (wC a k u ++ wO o k f) s.heap := hP
  have hD : va_D (va_A (wL a o k (u, f)) s.heap.size) (wC a k u ++ wO o k f) := hD0.self (sz := s.heap.size)
  have hAw : ∀ q, va_A (wC a k u) s.heap.size q → va_A (wL a o k (u, f)) s.heap.size q := fun q h => va_Al h
  generalize hAe : va_A (wL a o k (u, f)) s.heap.size = A at hD hAw ⊢
  have hA : ∀ q : Nat, s.heap.size ≤ q → A q := fun q h => by rw [← hAe]; exact Or.inr h
  have hS : va_S A s.heap s.heap [] := va_S.rf
  have hl := lv_entry ([.ref (a 0), .int (nI sc), .int (nI tm), .int (nI n), .long bt, .int (nI un), .int (nI ic), .ref o]) (n := 10) (Nat.le_of_ble_eq_true rfl)
  rw [lg_entry_eq]
  generalize (lg_sl ([.ref (a 0), .int (nI sc), .int (nI tm), .int (nI n), .long bt, .int (nI un), .int (nI ic), .ref o]) ++ List.replicate (10 - (lg_sl ([.ref (a 0), .int (nI sc), .int (nI tm), .int (nI n), .long bt, .int (nI un), .int (nI ic), .ref o])).length) Slot.unset).toArray = ls at hl ⊢
  have hl : lv_has ls 10 [(0, .ref (a 0)), (1, .int (nI sc)), (2, .int (nI tm)), (3, .int (nI n)), (4, .long bt), (6, .int (nI un)), (7, .int (nI ic)), (8, .ref o)] := hl
  refine lv_aload hx hb dL_slot_0 (lv_at hl 7 rfl) ?_
  refine lv_iconst (v := 0) hx hb dL_slot_2 (by decide) ?_
  refine lv_aload_n hx hb dL_slot_3 rfl (lv_at hl 0 rfl) ?_
  refine lv_iload_n hx hb dL_slot_4 rfl (lv_at hl 1 rfl) ?_
  refine lv_iload_n hx hb dL_slot_5 rfl (lv_at hl 2 rfl) ?_
  refine lv_iload_n hx hb dL_slot_6 rfl (lv_at hl 3 rfl) ?_
  refine lv_lload hx hb dL_slot_7 (lv_at hl 4 rfl) ?_
  refine lv_iload hx hb dL_slot_9 (lv_at hl 5 rfl) ?_
  refine lv_iload hx hb dL_slot_11 (lv_at hl 6 rfl) ?_
  refine XW.callV (As := [.int (nI sc), .int (nI tm), .int (nI n), .long bt, .int (nI un), .int (nI ic)]) (rest := [.int 0, .ref o]) ⟨hx, hb, hml, hown, hts⟩ (x_X5_slot_6 l dC dI a k u _ hst sc tm n bt un ic h1 h2 h3 h4 h5 h6 hN) (cwV 6 hts (wG_V wG_c q_237 q_238 q_239 q_1 q_240) rfl rfl rfl (by decide +kernel) ⟨Nat.le_of_ble_eq_true rfl, Nat.le_of_ble_eq_true rfl⟩) (w_pxV hK (w_Pl hP) hX0 (ci := 5) (q0 := 0) rfl (wC_g0 a k _) rfl) rfl hl.1 rfl (Nat.le_of_ble_eq_true rfl) dL_slot_13 ⟨Nat.le_of_ble_eq_true rfl, Nat.le_of_ble_eq_true rfl⟩ (fun q9 st9 t9 H9 L9 h0 hfc ht9 hal9 hxc hL9 => ?_)
  obtain ⟨⟨ce9, k1, k2, k3⟩, hP, hS⟩ := x_back h0 hfc ht9 hxc hL9 hP hA
  refine XW.caught (own := RL) (name := eUOE) (E := eUOE) hown [(x_en (0, 18, 21, 13)), (x_en (0, 18, 25, 15))] (x_en (0, 18, 29, 17)) [] htab (x_p2 ⟨rfl, by decide, eIAE, htg _ q_234, x_nc.use hNC.2.1⟩ ⟨rfl, by decide, eIOE, htg _ q_235, x_nc.use hNC.2.2.1⟩) rfl (by decide) (htg _ q_236) (x_cUOE hX0) k1 k2 k3 ?_
  refine lv_astore (lv' := [(9, .ref q9), (0, .ref (a 0)), (1, .int (nI sc)), (2, .int (nI tm)), (3, .int (nI n)), (4, .long bt), (6, .int (nI un)), (7, .int (nI ic)), (8, .ref o)]) hx hb dL_slot_29 hl (by decide) rfl (fun ls hl => ?_)
  refine lv_iconst (v := 3) hx hb dL_slot_31 (by decide) ?_
  exact W.iret (v := 3) hx hb hr (fun t9 ht9 hW9 => ⟨⟨_, (u, f), rfl, hpost, by rw [ht9]; exact hP, va_K.moved hW9.alike hK, hD⟩, hS.F ht9⟩) hS.2.2 dL_slot_32
set_option maxHeartbeats 4000000 in
set_option maxRecDepth 100000 in
theorem r_mark_0 (l : Launch) (dC : Nat → ClassId) (dI : Nat → Nat → Nat) (a : Nat → Nat) (k : c_K) (u : c_St) (o : Nat) (f : Nat → Int64) (sz : Nat) (hst : l.stackTraces = false)   (h : c_ok u) (hN : cu_N u 1 < 60) (hp : cu_N u 2 ≤ 200) (ho : ∀ j, j < cu_N u 2 → cu_F u 6 j < cu_N u 0) (hi : ∀ i j, i < cu_N u 2 → j < cu_N u 2 → cu_F u 6 i = cu_F u 6 j → i = j) (sc ck tr : Nat) (h1 : sc ≤ 9) (h2 : ck ≤ 9999999) (h3 : tr ≤ 9999999) (post : Int32 → c_X → Prop) (hpost : ∀ (r : Int32) (u1 : c_St) (g : Nat → Int64), (r = nI (cu_N u 1) ∧ ((cu_D u 1 sc = -1 ∧ ∃ f : Nat → Nat, u1 = cs_O (c_mk2 u sc ck tr) f ∧ c_mix (c_mk2 u sc ck tr) f (cu_N u 2) (cu_N u 2)) ∨ (cu_D u 1 sc ≠ -1 ∧ u1 = c_mk1 u sc ck tr))) → g 0 = r.toInt64 → post 0 (u1, g)) : Met l yL_mark wsL_mark ({ frames := 8, cells := 1, slots := 6, locals := 150 }) (va_Pc [.ref (a 0), .int (nI sc), .int (nI ck), .int (nI tr), .ref o] (w_wr (dC, dI) vwCl (wL a o k (u, f)) (tC k) sz)) (va_Qi post (w_at (dC, dI) vwCl (wL a o k) (tC k) (va_A (wL a o k (u, f)) sz)) (va_A (wL a o k (u, f)) sz)) 1 6 (va_A (wL a o k (u, f)) sz) := by
  refine va_MetW (cc := cL_mark) (maxL := 6) (ret := (some .int)) (by decide) rfl ?_
  intro p e s m args below meth c s₁ B hml hv
  obtain ⟨rfl, ⟨hsz, hP, hK, hD0, hX⟩, hNC⟩ := hv
  have hx := B.exec
  have hb := B.bytes
  have hr := B.returns
  have hts := atoms_spec (ws := wsL_mark) B.pre
  have htg : ∀ w ∈ wG, w.before _ s = true := fun w h => hts w (List.mem_cons_of_mem _ h)
  have hown : s.vm.findClass RL = some m.cls := findClass_of_methodNamed B.named
  have hlocks := B.notSynchronized
  have htab := x_tab B (hts _ List.mem_cons_self)
  subst hsz
  have hX0 : w_x (va_A [] s.heap.size) s s.heap := hX.narrow (fun q h => Or.inr (va_A0.mp h))
  have hX1 : w_x (va_A (wC a k u) s.heap.size) s s.heap := hX.narrow (fun q h => va_Al h)
  have hP : va_P (dC, dI) vwCl (wC a k u ++ wO o k f) s.heap := hP
  have hD : va_D (va_A (wL a o k (u, f)) s.heap.size) (wC a k u ++ wO o k f) := hD0.self (sz := s.heap.size)
  have hAw : ∀ q, va_A (wC a k u) s.heap.size q → va_A (wL a o k (u, f)) s.heap.size q := fun q h => va_Al h
  generalize hAe : va_A (wL a o k (u, f)) s.heap.size = A at hD hAw ⊢
  have hA : ∀ q : Nat, s.heap.size ≤ q → A q := fun q h => by rw [← hAe]; exact Or.inr h
  have hS : va_S A s.heap s.heap [] := va_S.rf
  have hl := lv_entry ([.ref (a 0), .int (nI sc), .int (nI ck), .int (nI tr), .ref o]) (n := 6) (Nat.le_of_ble_eq_true rfl)
  rw [lg_entry_eq]
  generalize (lg_sl ([.ref (a 0), .int (nI sc), .int (nI ck), .int (nI tr), .ref o]) ++ List.replicate (6 - (lg_sl ([.ref (a 0), .int (nI sc), .int (nI ck), .int (nI tr), .ref o])).length) Slot.unset).toArray = ls at hl ⊢
  have hl : lv_has ls 6 [(0, .ref (a 0)), (1, .int (nI sc)), (2, .int (nI ck)), (3, .int (nI tr)), (4, .ref o)] := hl
  refine x_more (mc := 0) (ms := 0) (Nat.le_of_ble_eq_true rfl) (Nat.le_of_ble_eq_true rfl) ?_
  refine lv_aload hx hb dL_mark_0 (lv_at hl 4 rfl) ?_
  refine lv_iconst (v := 0) hx hb dL_mark_2 (by decide) ?_
  refine lv_aload_n hx hb dL_mark_3 rfl (lv_at hl 0 rfl) ?_
  refine lv_iload_n hx hb dL_mark_4 rfl (lv_at hl 1 rfl) ?_
  refine lv_iload_n hx hb dL_mark_5 rfl (lv_at hl 2 rfl) ?_
  refine lv_iload_n hx hb dL_mark_6 rfl (lv_at hl 3 rfl) ?_
  refine w_calli (w := wC a k) (va_runV (As := [.int (nI sc), .int (nI ck), .int (nI tr)]) (rest := [.int 0, .ref o]) ⟨hx, hb, hml, hown, hts⟩ (c_X5_mark l dC dI a k u _ h hN hp ho hi sc ck tr h1 h2 h3) (cwV 3 hts (wG_V wG_c q_378 q_379 q_380 q_1 q_381) rfl rfl rfl (by decide +kernel) ⟨Nat.le_of_ble_eq_true rfl, Nat.le_of_ble_eq_true rfl⟩) (w_muV hK (w_Pl hP) (w_Dl hD) (ci := 5) (q0 := 0) rfl (wC_g0 a k _) rfl) rfl rfl hl.1 rfl (lv_room (Nat.le_of_ble_eq_true rfl)) dL_mark_7 ⟨Nat.le_of_ble_eq_true rfl, Nat.le_of_ble_eq_true rfl⟩) hP hD hS hA (fun r9 u9 H locs hp9 hP hD hS => ?_)
  refine lv_i2l hx hb dL_mark_10 rfl ?_
  refine va_last hx hb hK hP hD hS 26 1 (cA := k.2.1) (n := 1) rfl rfl (i := 0) vp_in01 dL_mark_11 (fun H locs hP hD hS => ?_)
  have hP := w_pE (wL_s26 a o k _ _ _) hP
  have hD := w_dE (wL_s26 a o k _ _ _) hD
  refine lv_goto (tgt := 27) hx hb dL_mark_12 (by decide) ?_
  refine lv_iconst (v := 0) hx hb dL_mark_27 (by decide) ?_
  exact W.iret (v := 0) hx hb hr (fun t9 ht9 hW9 => ⟨⟨_, (u9, vp_updL f (0 : Int32).toNatClampNeg r9.toInt64), rfl, hpost _ _ _ hp9 (wO_0 f _), by rw [ht9]; exact hP, va_K.moved hW9.alike hK, hD⟩, hS.F ht9⟩) hS.2.2 dL_mark_28
set_option maxHeartbeats 4000000 in
set_option maxRecDepth 100000 in
theorem r_mark_1 (l : Launch) (dC : Nat → ClassId) (dI : Nat → Nat → Nat) (a : Nat → Nat) (k : c_K) (u : c_St) (o : Nat) (f : Nat → Int64) (sz : Nat) (hst : l.stackTraces = false)    (p0 p1 p2 : Int32) (hb9 : inR p0 0 9 = false) (post : Int32 → c_X → Prop) (hpost : post 1 (u, f)) : Met l yL_mark wsL_mark ({ frames := 8, cells := 1, slots := 6, locals := 150 }) (va_Pc [.ref (a 0), .int p0, .int p1, .int p2, .ref o] (w_wr (dC, dI) vwCl (wL a o k (u, f)) (tC k) sz)) (va_Qi post (w_at (dC, dI) vwCl (wL a o k) (tC k) (va_A (wL a o k (u, f)) sz)) (va_A (wL a o k (u, f)) sz)) 1 6 (va_A (wL a o k (u, f)) sz) := by
  refine va_MetW (cc := cL_mark) (maxL := 6) (ret := (some .int)) (by decide) rfl ?_
  intro p e s m args below meth c s₁ B hml hv
  obtain ⟨rfl, ⟨hsz, hP, hK, hD0, hX⟩, hNC⟩ := hv
  have hx := B.exec
  have hb := B.bytes
  have hr := B.returns
  have hts := atoms_spec (ws := wsL_mark) B.pre
  have htg : ∀ w ∈ wG, w.before _ s = true := fun w h => hts w (List.mem_cons_of_mem _ h)
  have hown : s.vm.findClass RL = some m.cls := findClass_of_methodNamed B.named
  have hlocks := B.notSynchronized
  have htab := x_tab B (hts _ List.mem_cons_self)
  subst hsz
  have hX0 : w_x (va_A [] s.heap.size) s s.heap := hX.narrow (fun q h => Or.inr (va_A0.mp h))
  have hX1 : w_x (va_A (wC a k u) s.heap.size) s s.heap := hX.narrow (fun q h => va_Al h)
  have hP : va_P (dC, dI) vwCl (wC a k u ++ wO o k f) s.heap := hP
  have hD : va_D (va_A (wL a o k (u, f)) s.heap.size) (wC a k u ++ wO o k f) := hD0.self (sz := s.heap.size)
  have hAw : ∀ q, va_A (wC a k u) s.heap.size q → va_A (wL a o k (u, f)) s.heap.size q := fun q h => va_Al h
  generalize hAe : va_A (wL a o k (u, f)) s.heap.size = A at hD hAw ⊢
  have hA : ∀ q : Nat, s.heap.size ≤ q → A q := fun q h => by rw [← hAe]; exact Or.inr h
  have hS : va_S A s.heap s.heap [] := va_S.rf
  have hl := lv_entry ([.ref (a 0), .int p0, .int p1, .int p2, .ref o]) (n := 6) (Nat.le_of_ble_eq_true rfl)
  rw [lg_entry_eq]
  generalize (lg_sl ([.ref (a 0), .int p0, .int p1, .int p2, .ref o]) ++ List.replicate (6 - (lg_sl ([.ref (a 0), .int p0, .int p1, .int p2, .ref o])).length) Slot.unset).toArray = ls at hl ⊢
  have hl : lv_has ls 6 [(0, .ref (a 0)), (1, .int p0), (2, .int p1), (3, .int p2), (4, .ref o)] := hl
  refine lv_aload hx hb dL_mark_0 (lv_at hl 4 rfl) ?_
  refine lv_iconst (v := 0) hx hb dL_mark_2 (by decide) ?_
  refine lv_aload_n hx hb dL_mark_3 rfl (lv_at hl 0 rfl) ?_
  refine lv_iload_n hx hb dL_mark_4 rfl (lv_at hl 1 rfl) ?_
  refine lv_iload_n hx hb dL_mark_5 rfl (lv_at hl 2 rfl) ?_
  refine lv_iload_n hx hb dL_mark_6 rfl (lv_at hl 3 rfl) ?_
  refine XW.callV (As := [.int p0, .int p1, .int p2]) (rest := [.int 0, .ref o]) ⟨hx, hb, hml, hown, hts⟩ (x_X5_mark_1 l dC dI a k u _ hst p0 p1 p2 hb9) (cwV 3 hts (wG_V wG_c q_378 q_379 q_380 q_1 q_381) rfl rfl rfl (by decide +kernel) ⟨Nat.le_of_ble_eq_true rfl, Nat.le_of_ble_eq_true rfl⟩) (w_pxV hK (w_Pl hP) hX0 (ci := 5) (q0 := 0) rfl (wC_g0 a k _) rfl) rfl hl.1 rfl (Nat.le_of_ble_eq_true rfl) dL_mark_7 ⟨Nat.le_of_ble_eq_true rfl, Nat.le_of_ble_eq_true rfl⟩ (fun q9 st9 t9 H9 L9 h0 hfc ht9 hal9 hxc hL9 => ?_)
  obtain ⟨⟨ce9, k1, k2, k3⟩, hP, hS⟩ := x_back h0 hfc ht9 hxc hL9 hP hA
  refine XW.caught (own := RL) (name := eIAE) (E := eIAE) hown [] (x_en (0, 12, 15, 13)) [(x_en (0, 12, 19, 15)), (x_en (0, 12, 23, 17))] htab (fun y9 hy9 => by cases hy9) rfl (by decide) (htg _ q_234) (x_cIAE hX0) k1 k2 k3 ?_
  refine lv_astore (lv' := [(5, .ref q9), (0, .ref (a 0)), (1, .int p0), (2, .int p1), (3, .int p2), (4, .ref o)]) hx hb dL_mark_15 hl (by decide) rfl (fun ls hl => ?_)
  refine lv_iconst (v := 1) hx hb dL_mark_17 (by decide) ?_
  exact W.iret (v := 1) hx hb hr (fun t9 ht9 hW9 => ⟨⟨_, (u, f), rfl, hpost, by rw [ht9]; exact hP, va_K.moved hW9.alike hK, hD⟩, hS.F ht9⟩) hS.2.2 dL_mark_18
set_option maxHeartbeats 4000000 in
set_option maxRecDepth 100000 in
theorem r_mark_2 (l : Launch) (dC : Nat → ClassId) (dI : Nat → Nat → Nat) (a : Nat → Nat) (k : c_K) (u : c_St) (o : Nat) (f : Nat → Int64) (sz : Nat) (hst : l.stackTraces = false)    (sc : Nat) (h1 : sc ≤ 9) (p1 p2 : Int32) (hb9 : inR p1 0 9999999 = false) (post : Int32 → c_X → Prop) (hpost : post 2 (u, f)) : Met l yL_mark wsL_mark ({ frames := 8, cells := 1, slots := 6, locals := 150 }) (va_Pc [.ref (a 0), .int (nI sc), .int p1, .int p2, .ref o] (w_wr (dC, dI) vwCl (wL a o k (u, f)) (tC k) sz)) (va_Qi post (w_at (dC, dI) vwCl (wL a o k) (tC k) (va_A (wL a o k (u, f)) sz)) (va_A (wL a o k (u, f)) sz)) 1 6 (va_A (wL a o k (u, f)) sz) := by
  refine va_MetW (cc := cL_mark) (maxL := 6) (ret := (some .int)) (by decide) rfl ?_
  intro p e s m args below meth c s₁ B hml hv
  obtain ⟨rfl, ⟨hsz, hP, hK, hD0, hX⟩, hNC⟩ := hv
  have hx := B.exec
  have hb := B.bytes
  have hr := B.returns
  have hts := atoms_spec (ws := wsL_mark) B.pre
  have htg : ∀ w ∈ wG, w.before _ s = true := fun w h => hts w (List.mem_cons_of_mem _ h)
  have hown : s.vm.findClass RL = some m.cls := findClass_of_methodNamed B.named
  have hlocks := B.notSynchronized
  have htab := x_tab B (hts _ List.mem_cons_self)
  subst hsz
  have hX0 : w_x (va_A [] s.heap.size) s s.heap := hX.narrow (fun q h => Or.inr (va_A0.mp h))
  have hX1 : w_x (va_A (wC a k u) s.heap.size) s s.heap := hX.narrow (fun q h => va_Al h)
  have hP : va_P (dC, dI) vwCl (wC a k u ++ wO o k f) s.heap := hP
  have hD : va_D (va_A (wL a o k (u, f)) s.heap.size) (wC a k u ++ wO o k f) := hD0.self (sz := s.heap.size)
  have hAw : ∀ q, va_A (wC a k u) s.heap.size q → va_A (wL a o k (u, f)) s.heap.size q := fun q h => va_Al h
  generalize hAe : va_A (wL a o k (u, f)) s.heap.size = A at hD hAw ⊢
  have hA : ∀ q : Nat, s.heap.size ≤ q → A q := fun q h => by rw [← hAe]; exact Or.inr h
  have hS : va_S A s.heap s.heap [] := va_S.rf
  have hl := lv_entry ([.ref (a 0), .int (nI sc), .int p1, .int p2, .ref o]) (n := 6) (Nat.le_of_ble_eq_true rfl)
  rw [lg_entry_eq]
  generalize (lg_sl ([.ref (a 0), .int (nI sc), .int p1, .int p2, .ref o]) ++ List.replicate (6 - (lg_sl ([.ref (a 0), .int (nI sc), .int p1, .int p2, .ref o])).length) Slot.unset).toArray = ls at hl ⊢
  have hl : lv_has ls 6 [(0, .ref (a 0)), (1, .int (nI sc)), (2, .int p1), (3, .int p2), (4, .ref o)] := hl
  refine lv_aload hx hb dL_mark_0 (lv_at hl 4 rfl) ?_
  refine lv_iconst (v := 0) hx hb dL_mark_2 (by decide) ?_
  refine lv_aload_n hx hb dL_mark_3 rfl (lv_at hl 0 rfl) ?_
  refine lv_iload_n hx hb dL_mark_4 rfl (lv_at hl 1 rfl) ?_
  refine lv_iload_n hx hb dL_mark_5 rfl (lv_at hl 2 rfl) ?_
  refine lv_iload_n hx hb dL_mark_6 rfl (lv_at hl 3 rfl) ?_
  refine XW.callV (As := [.int (nI sc), .int p1, .int p2]) (rest := [.int 0, .ref o]) ⟨hx, hb, hml, hown, hts⟩ (x_X5_mark_2 l dC dI a k u _ hst sc h1 p1 p2 hb9) (cwV 3 hts (wG_V wG_c q_378 q_379 q_380 q_1 q_381) rfl rfl rfl (by decide +kernel) ⟨Nat.le_of_ble_eq_true rfl, Nat.le_of_ble_eq_true rfl⟩) (w_pxV hK (w_Pl hP) hX0 (ci := 5) (q0 := 0) rfl (wC_g0 a k _) rfl) rfl hl.1 rfl (Nat.le_of_ble_eq_true rfl) dL_mark_7 ⟨Nat.le_of_ble_eq_true rfl, Nat.le_of_ble_eq_true rfl⟩ (fun q9 st9 t9 H9 L9 h0 hfc ht9 hal9 hxc hL9 => ?_)
  obtain ⟨⟨ce9, k1, k2, k3⟩, hP, hS⟩ := x_back h0 hfc ht9 hxc hL9 hP hA
  refine XW.caught (own := RL) (name := eIOE) (E := eIOE) hown [(x_en (0, 12, 15, 13))] (x_en (0, 12, 19, 15)) [(x_en (0, 12, 23, 17))] htab (x_p1 ⟨rfl, by decide, eIAE, htg _ q_234, x_nc.use hNC.1⟩) rfl (by decide) (htg _ q_235) (x_cIOE hX0) k1 k2 k3 ?_
  refine lv_astore (lv' := [(5, .ref q9), (0, .ref (a 0)), (1, .int (nI sc)), (2, .int p1), (3, .int p2), (4, .ref o)]) hx hb dL_mark_19 hl (by decide) rfl (fun ls hl => ?_)
  refine lv_iconst (v := 2) hx hb dL_mark_21 (by decide) ?_
  exact W.iret (v := 2) hx hb hr (fun t9 ht9 hW9 => ⟨⟨_, (u, f), rfl, hpost, by rw [ht9]; exact hP, va_K.moved hW9.alike hK, hD⟩, hS.F ht9⟩) hS.2.2 dL_mark_22
set_option maxHeartbeats 4000000 in
set_option maxRecDepth 100000 in
theorem r_mark_3 (l : Launch) (dC : Nat → ClassId) (dI : Nat → Nat → Nat) (a : Nat → Nat) (k : c_K) (u : c_St) (o : Nat) (f : Nat → Int64) (sz : Nat) (hst : l.stackTraces = false)    (sc ck : Nat) (h1 : sc ≤ 9) (h2 : ck ≤ 9999999) (p2 : Int32) (hb9 : inR p2 0 9999999 = false) (post : Int32 → c_X → Prop) (hpost : post 2 (u, f)) : Met l yL_mark wsL_mark ({ frames := 8, cells := 1, slots := 6, locals := 150 }) (va_Pc [.ref (a 0), .int (nI sc), .int (nI ck), .int p2, .ref o] (w_wr (dC, dI) vwCl (wL a o k (u, f)) (tC k) sz)) (va_Qi post (w_at (dC, dI) vwCl (wL a o k) (tC k) (va_A (wL a o k (u, f)) sz)) (va_A (wL a o k (u, f)) sz)) 1 6 (va_A (wL a o k (u, f)) sz) := by
  refine va_MetW (cc := cL_mark) (maxL := 6) (ret := (some .int)) (by decide) rfl ?_
  intro p e s m args below meth c s₁ B hml hv
  obtain ⟨rfl, ⟨hsz, hP, hK, hD0, hX⟩, hNC⟩ := hv
  have hx := B.exec
  have hb := B.bytes
  have hr := B.returns
  have hts := atoms_spec (ws := wsL_mark) B.pre
  have htg : ∀ w ∈ wG, w.before _ s = true := fun w h => hts w (List.mem_cons_of_mem _ h)
  have hown : s.vm.findClass RL = some m.cls := findClass_of_methodNamed B.named
  have hlocks := B.notSynchronized
  have htab := x_tab B (hts _ List.mem_cons_self)
  subst hsz
  have hX0 : w_x (va_A [] s.heap.size) s s.heap := hX.narrow (fun q h => Or.inr (va_A0.mp h))
  have hX1 : w_x (va_A (wC a k u) s.heap.size) s s.heap := hX.narrow (fun q h => va_Al h)
  have hP : va_P (dC, dI) vwCl (wC a k u ++ wO o k f) s.heap := hP
  have hD : va_D (va_A (wL a o k (u, f)) s.heap.size) (wC a k u ++ wO o k f) := hD0.self (sz := s.heap.size)
  have hAw : ∀ q, va_A (wC a k u) s.heap.size q → va_A (wL a o k (u, f)) s.heap.size q := fun q h => va_Al h
  generalize hAe : va_A (wL a o k (u, f)) s.heap.size = A at hD hAw ⊢
  have hA : ∀ q : Nat, s.heap.size ≤ q → A q := fun q h => by rw [← hAe]; exact Or.inr h
  have hS : va_S A s.heap s.heap [] := va_S.rf
  have hl := lv_entry ([.ref (a 0), .int (nI sc), .int (nI ck), .int p2, .ref o]) (n := 6) (Nat.le_of_ble_eq_true rfl)
  rw [lg_entry_eq]
  generalize (lg_sl ([.ref (a 0), .int (nI sc), .int (nI ck), .int p2, .ref o]) ++ List.replicate (6 - (lg_sl ([.ref (a 0), .int (nI sc), .int (nI ck), .int p2, .ref o])).length) Slot.unset).toArray = ls at hl ⊢
  have hl : lv_has ls 6 [(0, .ref (a 0)), (1, .int (nI sc)), (2, .int (nI ck)), (3, .int p2), (4, .ref o)] := hl
  refine lv_aload hx hb dL_mark_0 (lv_at hl 4 rfl) ?_
  refine lv_iconst (v := 0) hx hb dL_mark_2 (by decide) ?_
  refine lv_aload_n hx hb dL_mark_3 rfl (lv_at hl 0 rfl) ?_
  refine lv_iload_n hx hb dL_mark_4 rfl (lv_at hl 1 rfl) ?_
  refine lv_iload_n hx hb dL_mark_5 rfl (lv_at hl 2 rfl) ?_
  refine lv_iload_n hx hb dL_mark_6 rfl (lv_at hl 3 rfl) ?_
  refine XW.callV (As := [.int (nI sc), .int (nI ck), .int p2]) (rest := [.int 0, .ref o]) ⟨hx, hb, hml, hown, hts⟩ (x_X5_mark_3 l dC dI a k u _ hst sc ck h1 h2 p2 hb9) (cwV 3 hts (wG_V wG_c q_378 q_379 q_380 q_1 q_381) rfl rfl rfl (by decide +kernel) ⟨Nat.le_of_ble_eq_true rfl, Nat.le_of_ble_eq_true rfl⟩) (w_pxV hK (w_Pl hP) hX0 (ci := 5) (q0 := 0) rfl (wC_g0 a k _) rfl) rfl hl.1 rfl (Nat.le_of_ble_eq_true rfl) dL_mark_7 ⟨Nat.le_of_ble_eq_true rfl, Nat.le_of_ble_eq_true rfl⟩ (fun q9 st9 t9 H9 L9 h0 hfc ht9 hal9 hxc hL9 => ?_)
  obtain ⟨⟨ce9, k1, k2, k3⟩, hP, hS⟩ := x_back h0 hfc ht9 hxc hL9 hP hA
  refine XW.caught (own := RL) (name := eIOE) (E := eIOE) hown [(x_en (0, 12, 15, 13))] (x_en (0, 12, 19, 15)) [(x_en (0, 12, 23, 17))] htab (x_p1 ⟨rfl, by decide, eIAE, htg _ q_234, x_nc.use hNC.1⟩) rfl (by decide) (htg _ q_235) (x_cIOE hX0) k1 k2 k3 ?_
  refine lv_astore (lv' := [(5, .ref q9), (0, .ref (a 0)), (1, .int (nI sc)), (2, .int (nI ck)), (3, .int p2), (4, .ref o)]) hx hb dL_mark_19 hl (by decide) rfl (fun ls hl => ?_)
  refine lv_iconst (v := 2) hx hb dL_mark_21 (by decide) ?_
  exact W.iret (v := 2) hx hb hr (fun t9 ht9 hW9 => ⟨⟨_, (u, f), rfl, hpost, by rw [ht9]; exact hP, va_K.moved hW9.alike hK, hD⟩, hS.F ht9⟩) hS.2.2 dL_mark_22
set_option maxHeartbeats 4000000 in
set_option maxRecDepth 100000 in
theorem r_mark_4 (l : Launch) (dC : Nat → ClassId) (dI : Nat → Nat → Nat) (a : Nat → Nat) (k : c_K) (u : c_St) (o : Nat) (f : Nat → Int64) (sz : Nat) (hst : l.stackTraces = false)    (sc ck tr : Nat) (h1 : sc ≤ 9) (h2 : ck ≤ 9999999) (h3 : tr ≤ 9999999) (hN : cu_N u 1 = 60) (post : Int32 → c_X → Prop) (hpost : post 3 (u, f)) : Met l yL_mark wsL_mark ({ frames := 8, cells := 1, slots := 6, locals := 150 }) (va_Pc [.ref (a 0), .int (nI sc), .int (nI ck), .int (nI tr), .ref o] (w_wr (dC, dI) vwCl (wL a o k (u, f)) (tC k) sz)) (va_Qi post (w_at (dC, dI) vwCl (wL a o k) (tC k) (va_A (wL a o k (u, f)) sz)) (va_A (wL a o k (u, f)) sz)) 1 6 (va_A (wL a o k (u, f)) sz) := by
  refine va_MetW (cc := cL_mark) (maxL := 6) (ret := (some .int)) (by decide) rfl ?_
  intro p e s m args below meth c s₁ B hml hv
  obtain ⟨rfl, ⟨hsz, hP, hK, hD0, hX⟩, hNC⟩ := hv
  have hx := B.exec
  have hb := B.bytes
  have hr := B.returns
  have hts := atoms_spec (ws := wsL_mark) B.pre
  have htg : ∀ w ∈ wG, w.before _ s = true := fun w h => hts w (List.mem_cons_of_mem _ h)
  have hown : s.vm.findClass RL = some m.cls := findClass_of_methodNamed B.named
  have hlocks := B.notSynchronized
  have htab := x_tab B (hts _ List.mem_cons_self)
  subst hsz
  have hX0 : w_x (va_A [] s.heap.size) s s.heap := hX.narrow (fun q h => Or.inr (va_A0.mp h))
  have hX1 : w_x (va_A (wC a k u) s.heap.size) s s.heap := hX.narrow (fun q h => va_Al h)
  have hP : va_P (dC, dI) vwCl (wC a k u ++ wO o k f) s.heap := hP
  have hD : va_D (va_A (wL a o k (u, f)) s.heap.size) (wC a k u ++ wO o k f) := hD0.self (sz := s.heap.size)
  have hAw : ∀ q, va_A (wC a k u) s.heap.size q → va_A (wL a o k (u, f)) s.heap.size q := fun q h => va_Al h
  generalize hAe : va_A (wL a o k (u, f)) s.heap.size = A at hD hAw ⊢
  have hA : ∀ q : Nat, s.heap.size ≤ q → A q := fun q h => by rw [← hAe]; exact Or.inr h
  have hS : va_S A s.heap s.heap [] := va_S.rf
  have hl := lv_entry ([.ref (a 0), .int (nI sc), .int (nI ck), .int (nI tr), .ref o]) (n := 6) (Nat.le_of_ble_eq_true rfl)
  rw [lg_entry_eq]
  generalize (lg_sl ([.ref (a 0), .int (nI sc), .int (nI ck), .int (nI tr), .ref o]) ++ List.replicate (6 - (lg_sl ([.ref (a 0), .int (nI sc), .int (nI ck), .int (nI tr), .ref o])).length) Slot.unset).toArray = ls at hl ⊢
  have hl : lv_has ls 6 [(0, .ref (a 0)), (1, .int (nI sc)), (2, .int (nI ck)), (3, .int (nI tr)), (4, .ref o)] := hl
  refine lv_aload hx hb dL_mark_0 (lv_at hl 4 rfl) ?_
  refine lv_iconst (v := 0) hx hb dL_mark_2 (by decide) ?_
  refine lv_aload_n hx hb dL_mark_3 rfl (lv_at hl 0 rfl) ?_
  refine lv_iload_n hx hb dL_mark_4 rfl (lv_at hl 1 rfl) ?_
  refine lv_iload_n hx hb dL_mark_5 rfl (lv_at hl 2 rfl) ?_
  refine lv_iload_n hx hb dL_mark_6 rfl (lv_at hl 3 rfl) ?_
  refine XW.callV (As := [.int (nI sc), .int (nI ck), .int (nI tr)]) (rest := [.int 0, .ref o]) ⟨hx, hb, hml, hown, hts⟩ (x_X5_mark_4 l dC dI a k u _ hst sc ck tr h1 h2 h3 hN) (cwV 3 hts (wG_V wG_c q_378 q_379 q_380 q_1 q_381) rfl rfl rfl (by decide +kernel) ⟨Nat.le_of_ble_eq_true rfl, Nat.le_of_ble_eq_true rfl⟩) (w_pxV hK (w_Pl hP) hX0 (ci := 5) (q0 := 0) rfl (wC_g0 a k _) rfl) rfl hl.1 rfl (Nat.le_of_ble_eq_true rfl) dL_mark_7 ⟨Nat.le_of_ble_eq_true rfl, Nat.le_of_ble_eq_true rfl⟩ (fun q9 st9 t9 H9 L9 h0 hfc ht9 hal9 hxc hL9 => ?_)
  obtain ⟨⟨ce9, k1, k2, k3⟩, hP, hS⟩ := x_back h0 hfc ht9 hxc hL9 hP hA
  refine XW.caught (own := RL) (name := eUOE) (E := eUOE) hown [(x_en (0, 12, 15, 13)), (x_en (0, 12, 19, 15))] (x_en (0, 12, 23, 17)) [] htab (x_p2 ⟨rfl, by decide, eIAE, htg _ q_234, x_nc.use hNC.2.1⟩ ⟨rfl, by decide, eIOE, htg _ q_235, x_nc.use hNC.2.2.1⟩) rfl (by decide) (htg _ q_236) (x_cUOE hX0) k1 k2 k3 ?_
  refine lv_astore (lv' := [(5, .ref q9), (0, .ref (a 0)), (1, .int (nI sc)), (2, .int (nI ck)), (3, .int (nI tr)), (4, .ref o)]) hx hb dL_mark_23 hl (by decide) rfl (fun ls hl => ?_)
  refine lv_iconst (v := 3) hx hb dL_mark_25 (by decide) ?_
  exact W.iret (v := 3) hx hb hr (fun t9 ht9 hW9 => ⟨⟨_, (u, f), rfl, hpost, by rw [ht9]; exact hP, va_K.moved hW9.alike hK, hD⟩, hS.F ht9⟩) hS.2.2 dL_mark_26
set_option maxHeartbeats 4000000 in
set_option maxRecDepth 100000 in
theorem r_offset_0 (l : Launch) (dC : Nat → ClassId) (dI : Nat → Nat → Nat) (a : Nat → Nat) (k : c_K) (u : c_St) (o : Nat) (f : Nat → Int64) (sz : Nat) (hst : l.stackTraces = false)  (h : c_ok u) (sc : Nat) (hs : sc ≤ 9) (post : Int32 → c_X → Prop) (hpost : ∀ g : Nat → Int64, g 0 = (iI (c_off u sc)).toInt64 → post 0 (u, g)) : Met l yL_offset wsL_offset ({ frames := 8, cells := 1, slots := 6, locals := 150 }) (va_Pc [.ref (a 0), .int (nI sc), .ref o] (w_wr (dC, dI) vwCl (wL a o k (u, f)) (tC k) sz)) (va_Qi post (w_at (dC, dI) vwCl (wL a o k) (tC k) (va_A (wL a o k (u, f)) sz)) (va_A (wL a o k (u, f)) sz)) 1 6 (va_A (wL a o k (u, f)) sz) := by
  refine va_MetW (cc := cL_offset) (maxL := 4) (ret := (some .int)) (by decide) rfl ?_
  intro p e s m args below meth c s₁ B hml hv
  obtain ⟨rfl, ⟨hsz, hP, hK, hD0, hX⟩, hNC⟩ := hv
  have hx := B.exec
  have hb := B.bytes
  have hr := B.returns
  have hts := atoms_spec (ws := wsL_offset) B.pre
  have htg : ∀ w ∈ wG, w.before _ s = true := fun w h => hts w (List.mem_cons_of_mem _ h)
  have hown : s.vm.findClass RL = some m.cls := findClass_of_methodNamed B.named
  have hlocks := B.notSynchronized
  have htab := x_tab B (hts _ List.mem_cons_self)
  subst hsz
  have hX0 : w_x (va_A [] s.heap.size) s s.heap := hX.narrow (fun q h => Or.inr (va_A0.mp h))
  have hX1 : w_x (va_A (wC a k u) s.heap.size) s s.heap := hX.narrow (fun q h => va_Al h)
  have hP : va_P (dC, dI) vwCl (wC a k u ++ wO o k f) s.heap := hP
  have hD : va_D (va_A (wL a o k (u, f)) s.heap.size) (wC a k u ++ wO o k f) := hD0.self (sz := s.heap.size)
  have hAw : ∀ q, va_A (wC a k u) s.heap.size q → va_A (wL a o k (u, f)) s.heap.size q := fun q h => va_Al h
  generalize hAe : va_A (wL a o k (u, f)) s.heap.size = A at hD hAw ⊢
  have hA : ∀ q : Nat, s.heap.size ≤ q → A q := fun q h => by rw [← hAe]; exact Or.inr h
  have hS : va_S A s.heap s.heap [] := va_S.rf
  have hl := lv_entry ([.ref (a 0), .int (nI sc), .ref o]) (n := 4) (Nat.le_of_ble_eq_true rfl)
  rw [lg_entry_eq]
  generalize (lg_sl ([.ref (a 0), .int (nI sc), .ref o]) ++ List.replicate (4 - (lg_sl ([.ref (a 0), .int (nI sc), .ref o])).length) Slot.unset).toArray = ls at hl ⊢
  have hl : lv_has ls 4 [(0, .ref (a 0)), (1, .int (nI sc)), (2, .ref o)] := hl
  refine x_more (mc := 0) (ms := 0) (Nat.le_of_ble_eq_true rfl) (Nat.le_of_ble_eq_true rfl) ?_
  refine lv_aload_n hx hb dL_offset_0 rfl (lv_at hl 2 rfl) ?_
  refine lv_iconst (v := 0) hx hb dL_offset_1 (by decide) ?_
  refine lv_aload_n hx hb dL_offset_2 rfl (lv_at hl 0 rfl) ?_
  refine lv_iload_n hx hb dL_offset_3 rfl (lv_at hl 1 rfl) ?_
  refine vp_callSi (W.runV (As := [.int (nI sc)]) (rest := [.int 0, .ref o]) ⟨hx, hb, hml, hown, hts⟩ (c_X5_offset l dC dI a k u h sc hs) (cwV 1 hts (wG_V wG_c q_394 q_395 q_396 q_1 q_397) rfl rfl rfl (by decide +kernel) ⟨Nat.le_of_ble_eq_true rfl, Nat.le_of_ble_eq_true rfl⟩) (w_roV hK (w_Pl hP) (ci := 5) (q0 := 0) rfl (wC_g0 a k _) rfl) rfl rfl hl.1 rfl (lv_room (Nat.le_of_ble_eq_true rfl)) dL_offset_4 ⟨Nat.le_of_ble_eq_true rfl, Nat.le_of_ble_eq_true rfl⟩) (fun r9 hr9 => ?_)
  subst hr9
  refine lv_i2l hx hb dL_offset_7 rfl ?_
  refine va_last hx hb hK hP hD hS 26 1 (cA := k.2.1) (n := 1) rfl rfl (i := 0) vp_in01 dL_offset_8 (fun H locs hP hD hS => ?_)
  have hP := w_pE (wL_s26 a o k _ _ _) hP
  have hD := w_dE (wL_s26 a o k _ _ _) hD
  refine lv_goto (tgt := 15) hx hb dL_offset_9 (by decide) ?_
  refine lv_iconst (v := 0) hx hb dL_offset_15 (by decide) ?_
  exact W.iret (v := 0) hx hb hr (fun t9 ht9 hW9 => ⟨⟨_, (u, vp_updL f (0 : Int32).toNatClampNeg ((iI (c_off u sc)).toInt64)), rfl, hpost _ (wO_0 f _), by rw [ht9]; exact hP, va_K.moved hW9.alike hK, hD⟩, hS.F ht9⟩) hS.2.2 dL_offset_16
set_option maxHeartbeats 4000000 in
set_option maxRecDepth 100000 in
theorem r_offset_1 (l : Launch) (dC : Nat → ClassId) (dI : Nat → Nat → Nat) (a : Nat → Nat) (k : c_K) (u : c_St) (o : Nat) (f : Nat → Int64) (sz : Nat) (hst : l.stackTraces = false)    (p0 : Int32) (hb9 : inR p0 0 9 = false) (post : Int32 → c_X → Prop) (hpost : post 1 (u, f)) : Met l yL_offset wsL_offset ({ frames := 8, cells := 1, slots := 6, locals := 150 }) (va_Pc [.ref (a 0), .int p0, .ref o] (w_wr (dC, dI) vwCl (wL a o k (u, f)) (tC k) sz)) (va_Qi post (w_at (dC, dI) vwCl (wL a o k) (tC k) (va_A (wL a o k (u, f)) sz)) (va_A (wL a o k (u, f)) sz)) 1 6 (va_A (wL a o k (u, f)) sz) := by
  refine va_MetW (cc := cL_offset) (maxL := 4) (ret := (some .int)) (by decide) rfl ?_
  intro p e s m args below meth c s₁ B hml hv
  obtain ⟨rfl, ⟨hsz, hP, hK, hD0, hX⟩, hNC⟩ := hv
  have hx := B.exec
  have hb := B.bytes
  have hr := B.returns
  have hts := atoms_spec (ws := wsL_offset) B.pre
  have htg : ∀ w ∈ wG, w.before _ s = true := fun w h => hts w (List.mem_cons_of_mem _ h)
  have hown : s.vm.findClass RL = some m.cls := findClass_of_methodNamed B.named
  have hlocks := B.notSynchronized
  have htab := x_tab B (hts _ List.mem_cons_self)
  subst hsz
  have hX0 : w_x (va_A [] s.heap.size) s s.heap := hX.narrow (fun q h => Or.inr (va_A0.mp h))
  have hX1 : w_x (va_A (wC a k u) s.heap.size) s s.heap := hX.narrow (fun q h => va_Al h)
  have hP : va_P (dC, dI) vwCl (wC a k u ++ wO o k f) s.heap := hP
  have hD : va_D (va_A (wL a o k (u, f)) s.heap.size) (wC a k u ++ wO o k f) := hD0.self (sz := s.heap.size)
  have hAw : ∀ q, va_A (wC a k u) s.heap.size q → va_A (wL a o k (u, f)) s.heap.size q := fun q h => va_Al h
  generalize hAe : va_A (wL a o k (u, f)) s.heap.size = A at hD hAw ⊢
  have hA : ∀ q : Nat, s.heap.size ≤ q → A q := fun q h => by rw [← hAe]; exact Or.inr h
  have hS : va_S A s.heap s.heap [] := va_S.rf
  have hl := lv_entry ([.ref (a 0), .int p0, .ref o]) (n := 4) (Nat.le_of_ble_eq_true rfl)
  rw [lg_entry_eq]
  generalize (lg_sl ([.ref (a 0), .int p0, .ref o]) ++ List.replicate (4 - (lg_sl ([.ref (a 0), .int p0, .ref o])).length) Slot.unset).toArray = ls at hl ⊢
  have hl : lv_has ls 4 [(0, .ref (a 0)), (1, .int p0), (2, .ref o)] := hl
  refine lv_aload_n hx hb dL_offset_0 rfl (lv_at hl 2 rfl) ?_
  refine lv_iconst (v := 0) hx hb dL_offset_1 (by decide) ?_
  refine lv_aload_n hx hb dL_offset_2 rfl (lv_at hl 0 rfl) ?_
  refine lv_iload_n hx hb dL_offset_3 rfl (lv_at hl 1 rfl) ?_
  refine XW.callV (As := [.int p0]) (rest := [.int 0, .ref o]) ⟨hx, hb, hml, hown, hts⟩ (x_X5_offset l dC dI a k u _ hst p0 hb9) (cwV 1 hts (wG_V wG_c q_394 q_395 q_396 q_1 q_397) rfl rfl rfl (by decide +kernel) ⟨Nat.le_of_ble_eq_true rfl, Nat.le_of_ble_eq_true rfl⟩) (w_pxV hK (w_Pl hP) hX0 (ci := 5) (q0 := 0) rfl (wC_g0 a k _) rfl) rfl hl.1 rfl (Nat.le_of_ble_eq_true rfl) dL_offset_4 ⟨Nat.le_of_ble_eq_true rfl, Nat.le_of_ble_eq_true rfl⟩ (fun q9 st9 t9 H9 L9 h0 hfc ht9 hal9 hxc hL9 => ?_)
  obtain ⟨⟨ce9, k1, k2, k3⟩, hP, hS⟩ := x_back h0 hfc ht9 hxc hL9 hP hA
  refine XW.caught (own := RL) (name := eIAE) (E := eIAE) hown [] (x_en (0, 9, 12, 13)) [] htab (fun y9 hy9 => by cases hy9) rfl (by decide) (htg _ q_234) (x_cIAE hX0) k1 k2 k3 ?_
  refine lv_astore_n (lv' := [(3, .ref q9), (0, .ref (a 0)), (1, .int p0), (2, .ref o)]) hx hb dL_offset_12 rfl hl (by decide) rfl (fun ls hl => ?_)
  refine lv_iconst (v := 1) hx hb dL_offset_13 (by decide) ?_
  exact W.iret (v := 1) hx hb hr (fun t9 ht9 hW9 => ⟨⟨_, (u, f), rfl, hpost, by rw [ht9]; exact hP, va_K.moved hW9.alike hK, hD⟩, hS.F ht9⟩) hS.2.2 dL_offset_14
set_option maxHeartbeats 4000000 in
set_option maxRecDepth 100000 in
theorem r_contradiction_0 (l : Launch) (dC : Nat → ClassId) (dI : Nat → Nat → Nat) (a : Nat → Nat) (k : c_K) (u : c_St) (o : Nat) (f : Nat → Int64) (sz : Nat) (hst : l.stackTraces = false)  (h : c_ok u) (q : Nat) (hq : q < 2147483648) (hf : ∀ j, j < cu_N u 1 → 0 ≤ cu_D u 1 (cu_F u 5 j)) (post : Int32 → c_X → Prop) (hpost : ∀ g : Nat → Int64, g 0 = (iI (c_con u q (cu_N u 1))).toInt64 → post 0 (u, g)) : Met l yL_contradiction wsL_contradiction ({ frames := 8, cells := 1, slots := 6, locals := 150 }) (va_Pc [.ref (a 0), .int (nI q), .ref o] (w_wr (dC, dI) vwCl (wL a o k (u, f)) (tC k) sz)) (va_Qi post (w_at (dC, dI) vwCl (wL a o k) (tC k) (va_A (wL a o k (u, f)) sz)) (va_A (wL a o k (u, f)) sz)) 1 6 (va_A (wL a o k (u, f)) sz) := by
  refine va_MetW (cc := cL_contradiction) (maxL := 4) (ret := (some .int)) (by decide) rfl ?_
  intro p e s m args below meth c s₁ B hml hv
  obtain ⟨rfl, ⟨hsz, hP, hK, hD0, hX⟩, hNC⟩ := hv
  have hx := B.exec
  have hb := B.bytes
  have hr := B.returns
  have hts := atoms_spec (ws := wsL_contradiction) B.pre
  have htg : ∀ w ∈ wG, w.before _ s = true := fun w h => hts w (List.mem_cons_of_mem _ h)
  have hown : s.vm.findClass RL = some m.cls := findClass_of_methodNamed B.named
  have hlocks := B.notSynchronized
  have htab := x_tab B (hts _ List.mem_cons_self)
  subst hsz
  have hX0 : w_x (va_A [] s.heap.size) s s.heap := hX.narrow (fun q h => Or.inr (va_A0.mp h))
  have hX1 : w_x (va_A (wC a k u) s.heap.size) s s.heap := hX.narrow (fun q h => va_Al h)
  have hP : va_P (dC, dI) vwCl (wC a k u ++ wO o k f) s.heap := hP
  have hD : va_D (va_A (wL a o k (u, f)) s.heap.size) (wC a k u ++ wO o k f) := hD0.self (sz := s.heap.size)
  have hAw : ∀ q, va_A (wC a k u) s.heap.size q → va_A (wL a o k (u, f)) s.heap.size q := fun q h => va_Al h
  generalize hAe : va_A (wL a o k (u, f)) s.heap.size = A at hD hAw ⊢
  have hA : ∀ q : Nat, s.heap.size ≤ q → A q := fun q h => by rw [← hAe]; exact Or.inr h
  have hS : va_S A s.heap s.heap [] := va_S.rf
  have hl := lv_entry ([.ref (a 0), .int (nI q), .ref o]) (n := 4) (Nat.le_of_ble_eq_true rfl)
  rw [lg_entry_eq]
  generalize (lg_sl ([.ref (a 0), .int (nI q), .ref o]) ++ List.replicate (4 - (lg_sl ([.ref (a 0), .int (nI q), .ref o])).length) Slot.unset).toArray = ls at hl ⊢
  have hl : lv_has ls 4 [(0, .ref (a 0)), (1, .int (nI q)), (2, .ref o)] := hl
  refine x_more (mc := 0) (ms := 0) (Nat.le_of_ble_eq_true rfl) (Nat.le_of_ble_eq_true rfl) ?_
  refine lv_aload_n hx hb dL_contradiction_0 rfl (lv_at hl 2 rfl) ?_
  refine lv_iconst (v := 0) hx hb dL_contradiction_1 (by decide) ?_
  refine lv_aload_n hx hb dL_contradiction_2 rfl (lv_at hl 0 rfl) ?_
  refine lv_iload_n hx hb dL_contradiction_3 rfl (lv_at hl 1 rfl) ?_
  refine vp_callSi (W.runV (As := [.int (nI q)]) (rest := [.int 0, .ref o]) ⟨hx, hb, hml, hown, hts⟩ (c_X5_contradiction l dC dI a k u h q hq hf) (cwV 1 hts (wG_V wG_c q_402 q_403 q_404 q_1 q_405) rfl rfl rfl (by decide +kernel) ⟨Nat.le_of_ble_eq_true rfl, Nat.le_of_ble_eq_true rfl⟩) (w_roV hK (w_Pl hP) (ci := 5) (q0 := 0) rfl (wC_g0 a k _) rfl) rfl rfl hl.1 rfl (lv_room (Nat.le_of_ble_eq_true rfl)) dL_contradiction_4 ⟨Nat.le_of_ble_eq_true rfl, Nat.le_of_ble_eq_true rfl⟩) (fun r9 hr9 => ?_)
  subst hr9
  refine lv_i2l hx hb dL_contradiction_7 rfl ?_
  refine va_last hx hb hK hP hD hS 26 1 (cA := k.2.1) (n := 1) rfl rfl (i := 0) vp_in01 dL_contradiction_8 (fun H locs hP hD hS => ?_)
  have hP := w_pE (wL_s26 a o k _ _ _) hP
  have hD := w_dE (wL_s26 a o k _ _ _) hD
  refine lv_goto (tgt := 15) hx hb dL_contradiction_9 (by decide) ?_
  refine lv_iconst (v := 0) hx hb dL_contradiction_15 (by decide) ?_
  exact W.iret (v := 0) hx hb hr (fun t9 ht9 hW9 => ⟨⟨_, (u, vp_updL f (0 : Int32).toNatClampNeg ((iI (c_con u q (cu_N u 1))).toInt64)), rfl, hpost _ (wO_0 f _), by rw [ht9]; exact hP, va_K.moved hW9.alike hK, hD⟩, hS.F ht9⟩) hS.2.2 dL_contradiction_16
set_option maxHeartbeats 4000000 in
set_option maxRecDepth 100000 in
theorem r_contradiction_1 (l : Launch) (dC : Nat → ClassId) (dI : Nat → Nat → Nat) (a : Nat → Nat) (k : c_K) (u : c_St) (o : Nat) (f : Nat → Int64) (sz : Nat) (hst : l.stackTraces = false)    (p0 : Int32) (hb9 : p0 < 0) (post : Int32 → c_X → Prop) (hpost : post 1 (u, f)) : Met l yL_contradiction wsL_contradiction ({ frames := 8, cells := 1, slots := 6, locals := 150 }) (va_Pc [.ref (a 0), .int p0, .ref o] (w_wr (dC, dI) vwCl (wL a o k (u, f)) (tC k) sz)) (va_Qi post (w_at (dC, dI) vwCl (wL a o k) (tC k) (va_A (wL a o k (u, f)) sz)) (va_A (wL a o k (u, f)) sz)) 1 6 (va_A (wL a o k (u, f)) sz) := by
  refine va_MetW (cc := cL_contradiction) (maxL := 4) (ret := (some .int)) (by decide) rfl ?_
  intro p e s m args below meth c s₁ B hml hv
  obtain ⟨rfl, ⟨hsz, hP, hK, hD0, hX⟩, hNC⟩ := hv
  have hx := B.exec
  have hb := B.bytes
  have hr := B.returns
  have hts := atoms_spec (ws := wsL_contradiction) B.pre
  have htg : ∀ w ∈ wG, w.before _ s = true := fun w h => hts w (List.mem_cons_of_mem _ h)
  have hown : s.vm.findClass RL = some m.cls := findClass_of_methodNamed B.named
  have hlocks := B.notSynchronized
  have htab := x_tab B (hts _ List.mem_cons_self)
  subst hsz
  have hX0 : w_x (va_A [] s.heap.size) s s.heap := hX.narrow (fun q h => Or.inr (va_A0.mp h))
  have hX1 : w_x (va_A (wC a k u) s.heap.size) s s.heap := hX.narrow (fun q h => va_Al h)
  have hP : va_P (dC, dI) vwCl (wC a k u ++ wO o k f) s.heap := hP
  have hD : va_D (va_A (wL a o k (u, f)) s.heap.size) (wC a k u ++ wO o k f) := hD0.self (sz := s.heap.size)
  have hAw : ∀ q, va_A (wC a k u) s.heap.size q → va_A (wL a o k (u, f)) s.heap.size q := fun q h => va_Al h
  generalize hAe : va_A (wL a o k (u, f)) s.heap.size = A at hD hAw ⊢
  have hA : ∀ q : Nat, s.heap.size ≤ q → A q := fun q h => by rw [← hAe]; exact Or.inr h
  have hS : va_S A s.heap s.heap [] := va_S.rf
  have hl := lv_entry ([.ref (a 0), .int p0, .ref o]) (n := 4) (Nat.le_of_ble_eq_true rfl)
  rw [lg_entry_eq]
  generalize (lg_sl ([.ref (a 0), .int p0, .ref o]) ++ List.replicate (4 - (lg_sl ([.ref (a 0), .int p0, .ref o])).length) Slot.unset).toArray = ls at hl ⊢
  have hl : lv_has ls 4 [(0, .ref (a 0)), (1, .int p0), (2, .ref o)] := hl
  refine lv_aload_n hx hb dL_contradiction_0 rfl (lv_at hl 2 rfl) ?_
  refine lv_iconst (v := 0) hx hb dL_contradiction_1 (by decide) ?_
  refine lv_aload_n hx hb dL_contradiction_2 rfl (lv_at hl 0 rfl) ?_
  refine lv_iload_n hx hb dL_contradiction_3 rfl (lv_at hl 1 rfl) ?_
  refine XW.callV (As := [.int p0]) (rest := [.int 0, .ref o]) ⟨hx, hb, hml, hown, hts⟩ (x_X5_contradiction l dC dI a k u _ hst p0 hb9) (cwV 1 hts (wG_V wG_c q_402 q_403 q_404 q_1 q_405) rfl rfl rfl (by decide +kernel) ⟨Nat.le_of_ble_eq_true rfl, Nat.le_of_ble_eq_true rfl⟩) (w_pxV hK (w_Pl hP) hX0 (ci := 5) (q0 := 0) rfl (wC_g0 a k _) rfl) rfl hl.1 rfl (Nat.le_of_ble_eq_true rfl) dL_contradiction_4 ⟨Nat.le_of_ble_eq_true rfl, Nat.le_of_ble_eq_true rfl⟩ (fun q9 st9 t9 H9 L9 h0 hfc ht9 hal9 hxc hL9 => ?_)
  obtain ⟨⟨ce9, k1, k2, k3⟩, hP, hS⟩ := x_back h0 hfc ht9 hxc hL9 hP hA
  refine XW.caught (own := RL) (name := eIOE) (E := eIOE) hown [] (x_en (0, 9, 12, 15)) [] htab (fun y9 hy9 => by cases hy9) rfl (by decide) (htg _ q_235) (x_cIOE hX0) k1 k2 k3 ?_
  refine lv_astore_n (lv' := [(3, .ref q9), (0, .ref (a 0)), (1, .int p0), (2, .ref o)]) hx hb dL_contradiction_12 rfl hl (by decide) rfl (fun ls hl => ?_)
  refine lv_iconst (v := 1) hx hb dL_contradiction_13 (by decide) ?_
  exact W.iret (v := 1) hx hb hr (fun t9 ht9 hW9 => ⟨⟨_, (u, f), rfl, hpost, by rw [ht9]; exact hP, va_K.moved hW9.alike hK, hD⟩, hS.F ht9⟩) hS.2.2 dL_contradiction_14
set_option maxHeartbeats 4000000 in
set_option maxRecDepth 100000 in
theorem r_find_0 (l : Launch) (dC : Nat → ClassId) (dI : Nat → Nat → Nat) (a : Nat → Nat) (k : c_K) (u : c_St) (o : Nat) (f : Nat → Int64) (sz : Nat) (hst : l.stackTraces = false)  (h : c_ok u) (hL : cu_N u 2 ≤ 200) (ho : ∀ j, j < cu_N u 2 → cu_F u 6 j < cu_N u 0) (t1 t2 pu pi : Int32) (q : Nat) (hq : q < 2147483648) (hpu : pu = -1 ∨ ∃ j : Nat, j ≤ 99 ∧ pu = nI j) (hpi : pi = -1 ∨ ∃ j : Nat, j ≤ 49 ∧ pi = nI j) (post : Int32 → c_X → Prop) (hpost : ∀ g : Nat → Int64, g 0 = (iI (c_fd u t1 t2 pu pi q (cu_N u 2))).toInt64 → post 0 (u, g)) : Met l yL_find wsL_find ({ frames := 8, cells := 1, slots := 6, locals := 150 }) (va_Pc [.ref (a 0), .int t1, .int t2, .int pu, .int pi, .int (nI q), .ref o] (w_wr (dC, dI) vwCl (wL a o k (u, f)) (tC k) sz)) (va_Qi post (w_at (dC, dI) vwCl (wL a o k) (tC k) (va_A (wL a o k (u, f)) sz)) (va_A (wL a o k (u, f)) sz)) 1 6 (va_A (wL a o k (u, f)) sz) := by
  refine va_MetW (cc := cL_find) (maxL := 8) (ret := (some .int)) (by decide) rfl ?_
  intro p e s m args below meth c s₁ B hml hv
  obtain ⟨rfl, ⟨hsz, hP, hK, hD0, hX⟩, hNC⟩ := hv
  have hx := B.exec
  have hb := B.bytes
  have hr := B.returns
  have hts := atoms_spec (ws := wsL_find) B.pre
  have htg : ∀ w ∈ wG, w.before _ s = true := fun w h => hts w (List.mem_cons_of_mem _ h)
  have hown : s.vm.findClass RL = some m.cls := findClass_of_methodNamed B.named
  have hlocks := B.notSynchronized
  have htab := x_tab B (hts _ List.mem_cons_self)
  subst hsz
  have hX0 : w_x (va_A [] s.heap.size) s s.heap := hX.narrow (fun q h => Or.inr (va_A0.mp h))
  have hX1 : w_x (va_A (wC a k u) s.heap.size) s s.heap := hX.narrow (fun q h => va_Al h)
  have hP : va_P (dC, dI) vwCl (wC a k u ++ wO o k f) s.heap := hP
  have hD : va_D (va_A (wL a o k (u, f)) s.heap.size) (wC a k u ++ wO o k f) := hD0.self (sz := s.heap.size)
  have hAw : ∀ q, va_A (wC a k u) s.heap.size q → va_A (wL a o k (u, f)) s.heap.size q := fun q h => va_Al h
  generalize hAe : va_A (wL a o k (u, f)) s.heap.size = A at hD hAw ⊢
  have hA : ∀ q : Nat, s.heap.size ≤ q → A q := fun q h => by rw [← hAe]; exact Or.inr h
  have hS : va_S A s.heap s.heap [] := va_S.rf
  have hl := lv_entry ([.ref (a 0), .int t1, .int t2, .int pu, .int pi, .int (nI q), .ref o]) (n := 8) (Nat.le_of_ble_eq_true rfl)
  rw [lg_entry_eq]
  generalize (lg_sl ([.ref (a 0), .int t1, .int t2, .int pu, .int pi, .int (nI q), .ref o]) ++ List.replicate (8 - (lg_sl ([.ref (a 0), .int t1, .int t2, .int pu, .int pi, .int (nI q), .ref o])).length) Slot.unset).toArray = ls at hl ⊢
  have hl : lv_has ls 8 [(0, .ref (a 0)), (1, .int t1), (2, .int t2), (3, .int pu), (4, .int pi), (5, .int (nI q)), (6, .ref o)] := hl
  refine x_more (mc := 0) (ms := 0) (Nat.le_of_ble_eq_true rfl) (Nat.le_of_ble_eq_true rfl) ?_
  refine lv_aload hx hb dL_find_0 (lv_at hl 6 rfl) ?_
  refine lv_iconst (v := 0) hx hb dL_find_2 (by decide) ?_
  refine lv_aload_n hx hb dL_find_3 rfl (lv_at hl 0 rfl) ?_
  refine lv_iload_n hx hb dL_find_4 rfl (lv_at hl 1 rfl) ?_
  refine lv_iload_n hx hb dL_find_5 rfl (lv_at hl 2 rfl) ?_
  refine lv_iload_n hx hb dL_find_6 rfl (lv_at hl 3 rfl) ?_
  refine lv_iload hx hb dL_find_7 (lv_at hl 4 rfl) ?_
  refine lv_iload hx hb dL_find_9 (lv_at hl 5 rfl) ?_
  refine vp_callSi (W.runV (As := [.int t1, .int t2, .int pu, .int pi, .int (nI q)]) (rest := [.int 0, .ref o]) ⟨hx, hb, hml, hown, hts⟩ (c_X5_find l dC dI a k u h hL ho t1 t2 pu pi q hq hpu hpi) (cwV 5 hts (wG_V wG_c q_418 q_419 q_420 q_1 q_421) rfl rfl rfl (by decide +kernel) ⟨Nat.le_of_ble_eq_true rfl, Nat.le_of_ble_eq_true rfl⟩) (w_roV hK (w_Pl hP) (ci := 5) (q0 := 0) rfl (wC_g0 a k _) rfl) rfl rfl hl.1 rfl (lv_room (Nat.le_of_ble_eq_true rfl)) dL_find_11 ⟨Nat.le_of_ble_eq_true rfl, Nat.le_of_ble_eq_true rfl⟩) (fun r9 hr9 => ?_)
  subst hr9
  refine lv_i2l hx hb dL_find_14 rfl ?_
  refine va_last hx hb hK hP hD hS 26 1 (cA := k.2.1) (n := 1) rfl rfl (i := 0) vp_in01 dL_find_15 (fun H locs hP hD hS => ?_)
  have hP := w_pE (wL_s26 a o k _ _ _) hP
  have hD := w_dE (wL_s26 a o k _ _ _) hD
  refine lv_goto (tgt := 27) hx hb dL_find_16 (by decide) ?_
  refine lv_iconst (v := 0) hx hb dL_find_27 (by decide) ?_
  exact W.iret (v := 0) hx hb hr (fun t9 ht9 hW9 => ⟨⟨_, (u, vp_updL f (0 : Int32).toNatClampNeg ((iI (c_fd u t1 t2 pu pi q (cu_N u 2))).toInt64)), rfl, hpost _ (wO_0 f _), by rw [ht9]; exact hP, va_K.moved hW9.alike hK, hD⟩, hS.F ht9⟩) hS.2.2 dL_find_28
set_option maxHeartbeats 4000000 in
set_option maxRecDepth 100000 in
theorem r_find_1 (l : Launch) (dC : Nat → ClassId) (dI : Nat → Nat → Nat) (a : Nat → Nat) (k : c_K) (u : c_St) (o : Nat) (f : Nat → Int64) (sz : Nat) (hst : l.stackTraces = false)    (t1 t2 pu pi p4 : Int32) (hne : pu ≠ -1) (hb9 : inR pu 0 99 = false) (post : Int32 → c_X → Prop) (hpost : post 1 (u, f)) : Met l yL_find wsL_find ({ frames := 8, cells := 1, slots := 6, locals := 150 }) (va_Pc [.ref (a 0), .int t1, .int t2, .int pu, .int pi, .int p4, .ref o] (w_wr (dC, dI) vwCl (wL a o k (u, f)) (tC k) sz)) (va_Qi post (w_at (dC, dI) vwCl (wL a o k) (tC k) (va_A (wL a o k (u, f)) sz)) (va_A (wL a o k (u, f)) sz)) 1 6 (va_A (wL a o k (u, f)) sz) := by
  refine va_MetW (cc := cL_find) (maxL := 8) (ret := (some .int)) (by decide) rfl ?_
  intro p e s m args below meth c s₁ B hml hv
  obtain ⟨rfl, ⟨hsz, hP, hK, hD0, hX⟩, hNC⟩ := hv
  have hx := B.exec
  have hb := B.bytes
  have hr := B.returns
  have hts := atoms_spec (ws := wsL_find) B.pre
  have htg : ∀ w ∈ wG, w.before _ s = true := fun w h => hts w (List.mem_cons_of_mem _ h)
  have hown : s.vm.findClass RL = some m.cls := findClass_of_methodNamed B.named
  have hlocks := B.notSynchronized
  have htab := x_tab B (hts _ List.mem_cons_self)
  subst hsz
  have hX0 : w_x (va_A [] s.heap.size) s s.heap := hX.narrow (fun q h => Or.inr (va_A0.mp h))
  have hX1 : w_x (va_A (wC a k u) s.heap.size) s s.heap := hX.narrow (fun q h => va_Al h)
  have hP : va_P (dC, dI) vwCl (wC a k u ++ wO o k f) s.heap := hP
  have hD : va_D (va_A (wL a o k (u, f)) s.heap.size) (wC a k u ++ wO o k f) := hD0.self (sz := s.heap.size)
  have hAw : ∀ q, va_A (wC a k u) s.heap.size q → va_A (wL a o k (u, f)) s.heap.size q := fun q h => va_Al h
  generalize hAe : va_A (wL a o k (u, f)) s.heap.size = A at hD hAw ⊢
  have hA : ∀ q : Nat, s.heap.size ≤ q → A q := fun q h => by rw [← hAe]; exact Or.inr h
  have hS : va_S A s.heap s.heap [] := va_S.rf
  have hl := lv_entry ([.ref (a 0), .int t1, .int t2, .int pu, .int pi, .int p4, .ref o]) (n := 8) (Nat.le_of_ble_eq_true rfl)
  rw [lg_entry_eq]
  generalize (lg_sl ([.ref (a 0), .int t1, .int t2, .int pu, .int pi, .int p4, .ref o]) ++ List.replicate (8 - (lg_sl ([.ref (a 0), .int t1, .int t2, .int pu, .int pi, .int p4, .ref o])).length) Slot.unset).toArray = ls at hl ⊢
  have hl : lv_has ls 8 [(0, .ref (a 0)), (1, .int t1), (2, .int t2), (3, .int pu), (4, .int pi), (5, .int p4), (6, .ref o)] := hl
  refine lv_aload hx hb dL_find_0 (lv_at hl 6 rfl) ?_
  refine lv_iconst (v := 0) hx hb dL_find_2 (by decide) ?_
  refine lv_aload_n hx hb dL_find_3 rfl (lv_at hl 0 rfl) ?_
  refine lv_iload_n hx hb dL_find_4 rfl (lv_at hl 1 rfl) ?_
  refine lv_iload_n hx hb dL_find_5 rfl (lv_at hl 2 rfl) ?_
  refine lv_iload_n hx hb dL_find_6 rfl (lv_at hl 3 rfl) ?_
  refine lv_iload hx hb dL_find_7 (lv_at hl 4 rfl) ?_
  refine lv_iload hx hb dL_find_9 (lv_at hl 5 rfl) ?_
  refine XW.callV (As := [.int t1, .int t2, .int pu, .int pi, .int p4]) (rest := [.int 0, .ref o]) ⟨hx, hb, hml, hown, hts⟩ (x_X5_find_1 l dC dI a k u _ hst t1 t2 pu pi p4 hne hb9) (cwV 5 hts (wG_V wG_c q_418 q_419 q_420 q_1 q_421) rfl rfl rfl (by decide +kernel) ⟨Nat.le_of_ble_eq_true rfl, Nat.le_of_ble_eq_true rfl⟩) (w_pxV hK (w_Pl hP) hX0 (ci := 5) (q0 := 0) rfl (wC_g0 a k _) rfl) rfl hl.1 rfl (Nat.le_of_ble_eq_true rfl) dL_find_11 ⟨Nat.le_of_ble_eq_true rfl, Nat.le_of_ble_eq_true rfl⟩ (fun q9 st9 t9 H9 L9 h0 hfc ht9 hal9 hxc hL9 => ?_)
  obtain ⟨⟨ce9, k1, k2, k3⟩, hP, hS⟩ := x_back h0 hfc ht9 hxc hL9 hP hA
  refine XW.caught (own := RL) (name := eIAE) (E := eIAE) hown [] (x_en (0, 16, 19, 13)) [(x_en (0, 16, 23, 15))] htab (fun y9 hy9 => by cases hy9) rfl (by decide) (htg _ q_234) (x_cIAE hX0) k1 k2 k3 ?_
  refine lv_astore (lv' := [(7, .ref q9), (0, .ref (a 0)), (1, .int t1), (2, .int t2), (3, .int pu), (4, .int pi), (5, .int p4), (6, .ref o)]) hx hb dL_find_19 hl (by decide) rfl (fun ls hl => ?_)
  refine lv_iconst (v := 1) hx hb dL_find_21 (by decide) ?_
  exact W.iret (v := 1) hx hb hr (fun t9 ht9 hW9 => ⟨⟨_, (u, f), rfl, hpost, by rw [ht9]; exact hP, va_K.moved hW9.alike hK, hD⟩, hS.F ht9⟩) hS.2.2 dL_find_22
set_option maxHeartbeats 4000000 in
set_option maxRecDepth 100000 in
theorem r_find_2 (l : Launch) (dC : Nat → ClassId) (dI : Nat → Nat → Nat) (a : Nat → Nat) (k : c_K) (u : c_St) (o : Nat) (f : Nat → Int64) (sz : Nat) (hst : l.stackTraces = false)    (t1 t2 pu pi p4 : Int32) (hpu : pu = -1 ∨ ∃ j : Nat, j ≤ 99 ∧ pu = nI j) (hne : pi ≠ -1) (hb9 : inR pi 0 49 = false) (post : Int32 → c_X → Prop) (hpost : post 1 (u, f)) : Met l yL_find wsL_find ({ frames := 8, cells := 1, slots := 6, locals := 150 }) (va_Pc [.ref (a 0), .int t1, .int t2, .int pu, .int pi, .int p4, .ref o] (w_wr (dC, dI) vwCl (wL a o k (u, f)) (tC k) sz)) (va_Qi post (w_at (dC, dI) vwCl (wL a o k) (tC k) (va_A (wL a o k (u, f)) sz)) (va_A (wL a o k (u, f)) sz)) 1 6 (va_A (wL a o k (u, f)) sz) := by
  refine va_MetW (cc := cL_find) (maxL := 8) (ret := (some .int)) (by decide) rfl ?_
  intro p e s m args below meth c s₁ B hml hv
  obtain ⟨rfl, ⟨hsz, hP, hK, hD0, hX⟩, hNC⟩ := hv
  have hx := B.exec
  have hb := B.bytes
  have hr := B.returns
  have hts := atoms_spec (ws := wsL_find) B.pre
  have htg : ∀ w ∈ wG, w.before _ s = true := fun w h => hts w (List.mem_cons_of_mem _ h)
  have hown : s.vm.findClass RL = some m.cls := findClass_of_methodNamed B.named
  have hlocks := B.notSynchronized
  have htab := x_tab B (hts _ List.mem_cons_self)
  subst hsz
  have hX0 : w_x (va_A [] s.heap.size) s s.heap := hX.narrow (fun q h => Or.inr (va_A0.mp h))
  have hX1 : w_x (va_A (wC a k u) s.heap.size) s s.heap := hX.narrow (fun q h => va_Al h)
  have hP : va_P (dC, dI) vwCl (wC a k u ++ wO o k f) s.heap := hP
  have hD : va_D (va_A (wL a o k (u, f)) s.heap.size) (wC a k u ++ wO o k f) := hD0.self (sz := s.heap.size)
  have hAw : ∀ q, va_A (wC a k u) s.heap.size q → va_A (wL a o k (u, f)) s.heap.size q := fun q h => va_Al h
  generalize hAe : va_A (wL a o k (u, f)) s.heap.size = A at hD hAw ⊢
  have hA : ∀ q : Nat, s.heap.size ≤ q → A q := fun q h => by rw [← hAe]; exact Or.inr h
  have hS : va_S A s.heap s.heap [] := va_S.rf
  have hl := lv_entry ([.ref (a 0), .int t1, .int t2, .int pu, .int pi, .int p4, .ref o]) (n := 8) (Nat.le_of_ble_eq_true rfl)
  rw [lg_entry_eq]
  generalize (lg_sl ([.ref (a 0), .int t1, .int t2, .int pu, .int pi, .int p4, .ref o]) ++ List.replicate (8 - (lg_sl ([.ref (a 0), .int t1, .int t2, .int pu, .int pi, .int p4, .ref o])).length) Slot.unset).toArray = ls at hl ⊢
  have hl : lv_has ls 8 [(0, .ref (a 0)), (1, .int t1), (2, .int t2), (3, .int pu), (4, .int pi), (5, .int p4), (6, .ref o)] := hl
  refine lv_aload hx hb dL_find_0 (lv_at hl 6 rfl) ?_
  refine lv_iconst (v := 0) hx hb dL_find_2 (by decide) ?_
  refine lv_aload_n hx hb dL_find_3 rfl (lv_at hl 0 rfl) ?_
  refine lv_iload_n hx hb dL_find_4 rfl (lv_at hl 1 rfl) ?_
  refine lv_iload_n hx hb dL_find_5 rfl (lv_at hl 2 rfl) ?_
  refine lv_iload_n hx hb dL_find_6 rfl (lv_at hl 3 rfl) ?_
  refine lv_iload hx hb dL_find_7 (lv_at hl 4 rfl) ?_
  refine lv_iload hx hb dL_find_9 (lv_at hl 5 rfl) ?_
  refine XW.callV (As := [.int t1, .int t2, .int pu, .int pi, .int p4]) (rest := [.int 0, .ref o]) ⟨hx, hb, hml, hown, hts⟩ (x_X5_find_2 l dC dI a k u _ hst t1 t2 pu pi p4 hpu hne hb9) (cwV 5 hts (wG_V wG_c q_418 q_419 q_420 q_1 q_421) rfl rfl rfl (by decide +kernel) ⟨Nat.le_of_ble_eq_true rfl, Nat.le_of_ble_eq_true rfl⟩) (w_pxV hK (w_Pl hP) hX0 (ci := 5) (q0 := 0) rfl (wC_g0 a k _) rfl) rfl hl.1 rfl (Nat.le_of_ble_eq_true rfl) dL_find_11 ⟨Nat.le_of_ble_eq_true rfl, Nat.le_of_ble_eq_true rfl⟩ (fun q9 st9 t9 H9 L9 h0 hfc ht9 hal9 hxc hL9 => ?_)
  obtain ⟨⟨ce9, k1, k2, k3⟩, hP, hS⟩ := x_back h0 hfc ht9 hxc hL9 hP hA
  refine XW.caught (own := RL) (name := eIAE) (E := eIAE) hown [] (x_en (0, 16, 19, 13)) [(x_en (0, 16, 23, 15))] htab (fun y9 hy9 => by cases hy9) rfl (by decide) (htg _ q_234) (x_cIAE hX0) k1 k2 k3 ?_
  refine lv_astore (lv' := [(7, .ref q9), (0, .ref (a 0)), (1, .int t1), (2, .int t2), (3, .int pu), (4, .int pi), (5, .int p4), (6, .ref o)]) hx hb dL_find_19 hl (by decide) rfl (fun ls hl => ?_)
  refine lv_iconst (v := 1) hx hb dL_find_21 (by decide) ?_
  exact W.iret (v := 1) hx hb hr (fun t9 ht9 hW9 => ⟨⟨_, (u, f), rfl, hpost, by rw [ht9]; exact hP, va_K.moved hW9.alike hK, hD⟩, hS.F ht9⟩) hS.2.2 dL_find_22
set_option maxHeartbeats 4000000 in
set_option maxRecDepth 100000 in
theorem r_find_3 (l : Launch) (dC : Nat → ClassId) (dI : Nat → Nat → Nat) (a : Nat → Nat) (k : c_K) (u : c_St) (o : Nat) (f : Nat → Int64) (sz : Nat) (hst : l.stackTraces = false)    (t1 t2 pu pi p4 : Int32) (hpu : pu = -1 ∨ ∃ j : Nat, j ≤ 99 ∧ pu = nI j) (hpi : pi = -1 ∨ ∃ j : Nat, j ≤ 49 ∧ pi = nI j) (hb9 : p4 < 0) (post : Int32 → c_X → Prop) (hpost : post 2 (u, f)) : Met l yL_find wsL_find ({ frames := 8, cells := 1, slots := 6, locals := 150 }) (va_Pc [.ref (a 0), .int t1, .int t2, .int pu, .int pi, .int p4, .ref o] (w_wr (dC, dI) vwCl (wL a o k (u, f)) (tC k) sz)) (va_Qi post (w_at (dC, dI) vwCl (wL a o k) (tC k) (va_A (wL a o k (u, f)) sz)) (va_A (wL a o k (u, f)) sz)) 1 6 (va_A (wL a o k (u, f)) sz) := by
  refine va_MetW (cc := cL_find) (maxL := 8) (ret := (some .int)) (by decide) rfl ?_
  intro p e s m args below meth c s₁ B hml hv
  obtain ⟨rfl, ⟨hsz, hP, hK, hD0, hX⟩, hNC⟩ := hv
  have hx := B.exec
  have hb := B.bytes
  have hr := B.returns
  have hts := atoms_spec (ws := wsL_find) B.pre
  have htg : ∀ w ∈ wG, w.before _ s = true := fun w h => hts w (List.mem_cons_of_mem _ h)
  have hown : s.vm.findClass RL = some m.cls := findClass_of_methodNamed B.named
  have hlocks := B.notSynchronized
  have htab := x_tab B (hts _ List.mem_cons_self)
  subst hsz
  have hX0 : w_x (va_A [] s.heap.size) s s.heap := hX.narrow (fun q h => Or.inr (va_A0.mp h))
  have hX1 : w_x (va_A (wC a k u) s.heap.size) s s.heap := hX.narrow (fun q h => va_Al h)
  have hP : va_P (dC, dI) vwCl (wC a k u ++ wO o k f) s.heap := hP
  have hD : va_D (va_A (wL a o k (u, f)) s.heap.size) (wC a k u ++ wO o k f) := hD0.self (sz := s.heap.size)
  have hAw : ∀ q, va_A (wC a k u) s.heap.size q → va_A (wL a o k (u, f)) s.heap.size q := fun q h => va_Al h
  generalize hAe : va_A (wL a o k (u, f)) s.heap.size = A at hD hAw ⊢
  have hA : ∀ q : Nat, s.heap.size ≤ q → A q := fun q h => by rw [← hAe]; exact Or.inr h
  have hS : va_S A s.heap s.heap [] := va_S.rf
  have hl := lv_entry ([.ref (a 0), .int t1, .int t2, .int pu, .int pi, .int p4, .ref o]) (n := 8) (Nat.le_of_ble_eq_true rfl)
  rw [lg_entry_eq]
  generalize (lg_sl ([.ref (a 0), .int t1, .int t2, .int pu, .int pi, .int p4, .ref o]) ++ List.replicate (8 - (lg_sl ([.ref (a 0), .int t1, .int t2, .int pu, .int pi, .int p4, .ref o])).length) Slot.unset).toArray = ls at hl ⊢
  have hl : lv_has ls 8 [(0, .ref (a 0)), (1, .int t1), (2, .int t2), (3, .int pu), (4, .int pi), (5, .int p4), (6, .ref o)] := hl
  refine lv_aload hx hb dL_find_0 (lv_at hl 6 rfl) ?_
  refine lv_iconst (v := 0) hx hb dL_find_2 (by decide) ?_
  refine lv_aload_n hx hb dL_find_3 rfl (lv_at hl 0 rfl) ?_
  refine lv_iload_n hx hb dL_find_4 rfl (lv_at hl 1 rfl) ?_
  refine lv_iload_n hx hb dL_find_5 rfl (lv_at hl 2 rfl) ?_
  refine lv_iload_n hx hb dL_find_6 rfl (lv_at hl 3 rfl) ?_
  refine lv_iload hx hb dL_find_7 (lv_at hl 4 rfl) ?_
  refine lv_iload hx hb dL_find_9 (lv_at hl 5 rfl) ?_
  refine XW.callV (As := [.int t1, .int t2, .int pu, .int pi, .int p4]) (rest := [.int 0, .ref o]) ⟨hx, hb, hml, hown, hts⟩ (x_X5_find_3 l dC dI a k u _ hst t1 t2 pu pi p4 hpu hpi hb9) (cwV 5 hts (wG_V wG_c q_418 q_419 q_420 q_1 q_421) rfl rfl rfl (by decide +kernel) ⟨Nat.le_of_ble_eq_true rfl, Nat.le_of_ble_eq_true rfl⟩) (w_pxV hK (w_Pl hP) hX0 (ci := 5) (q0 := 0) rfl (wC_g0 a k _) rfl) rfl hl.1 rfl (Nat.le_of_ble_eq_true rfl) dL_find_11 ⟨Nat.le_of_ble_eq_true rfl, Nat.le_of_ble_eq_true rfl⟩ (fun q9 st9 t9 H9 L9 h0 hfc ht9 hal9 hxc hL9 => ?_)
  obtain ⟨⟨ce9, k1, k2, k3⟩, hP, hS⟩ := x_back h0 hfc ht9 hxc hL9 hP hA
  refine XW.caught (own := RL) (name := eIOE) (E := eIOE) hown [(x_en (0, 16, 19, 13))] (x_en (0, 16, 23, 15)) [] htab (x_p1 ⟨rfl, by decide, eIAE, htg _ q_234, x_nc.use hNC.1⟩) rfl (by decide) (htg _ q_235) (x_cIOE hX0) k1 k2 k3 ?_
  refine lv_astore (lv' := [(7, .ref q9), (0, .ref (a 0)), (1, .int t1), (2, .int t2), (3, .int pu), (4, .int pi), (5, .int p4), (6, .ref o)]) hx hb dL_find_23 hl (by decide) rfl (fun ls hl => ?_)
  refine lv_iconst (v := 2) hx hb dL_find_25 (by decide) ?_
  exact W.iret (v := 2) hx hb hr (fun t9 ht9 hW9 => ⟨⟨_, (u, f), rfl, hpost, by rw [ht9]; exact hP, va_K.moved hW9.alike hK, hD⟩, hS.F ht9⟩) hS.2.2 dL_find_26
set_option maxHeartbeats 4000000 in
set_option maxRecDepth 100000 in
theorem r_time_0 (l : Launch) (dC : Nat → ClassId) (dI : Nat → Nat → Nat) (a : Nat → Nat) (k : c_K) (u : c_St) (o : Nat) (f : Nat → Int64) (sz : Nat) (hst : l.stackTraces = false)  (h : c_ok u) (n : Nat) (hn : n < cu_N u 0) (ht : cu_B u 0 n = true) (post : Int32 → c_X → Prop) (hpost : ∀ g : Nat → Int64, g 0 = (iI (c_beg u n)).toInt64 → post 0 (u, g)) : Met l yL_time wsL_time ({ frames := 8, cells := 1, slots := 6, locals := 150 }) (va_Pc [.ref (a 0), .int (nI n), .ref o] (w_wr (dC, dI) vwCl (wL a o k (u, f)) (tC k) sz)) (va_Qi post (w_at (dC, dI) vwCl (wL a o k) (tC k) (va_A (wL a o k (u, f)) sz)) (va_A (wL a o k (u, f)) sz)) 1 6 (va_A (wL a o k (u, f)) sz) := by
  refine va_MetW (cc := cL_time) (maxL := 4) (ret := (some .int)) (by decide) rfl ?_
  intro p e s m args below meth c s₁ B hml hv
  obtain ⟨rfl, ⟨hsz, hP, hK, hD0, hX⟩, hNC⟩ := hv
  have hx := B.exec
  have hb := B.bytes
  have hr := B.returns
  have hts := atoms_spec (ws := wsL_time) B.pre
  have htg : ∀ w ∈ wG, w.before _ s = true := fun w h => hts w (List.mem_cons_of_mem _ h)
  have hown : s.vm.findClass RL = some m.cls := findClass_of_methodNamed B.named
  have hlocks := B.notSynchronized
  have htab := x_tab B (hts _ List.mem_cons_self)
  subst hsz
  have hX0 : w_x (va_A [] s.heap.size) s s.heap := hX.narrow (fun q h => Or.inr (va_A0.mp h))
  have hX1 : w_x (va_A (wC a k u) s.heap.size) s s.heap := hX.narrow (fun q h => va_Al h)
  have hP : va_P (dC, dI) vwCl (wC a k u ++ wO o k f) s.heap := hP
  have hD : va_D (va_A (wL a o k (u, f)) s.heap.size) (wC a k u ++ wO o k f) := hD0.self (sz := s.heap.size)
  have hAw : ∀ q, va_A (wC a k u) s.heap.size q → va_A (wL a o k (u, f)) s.heap.size q := fun q h => va_Al h
  generalize hAe : va_A (wL a o k (u, f)) s.heap.size = A at hD hAw ⊢
  have hA : ∀ q : Nat, s.heap.size ≤ q → A q := fun q h => by rw [← hAe]; exact Or.inr h
  have hS : va_S A s.heap s.heap [] := va_S.rf
  have hl := lv_entry ([.ref (a 0), .int (nI n), .ref o]) (n := 4) (Nat.le_of_ble_eq_true rfl)
  rw [lg_entry_eq]
  generalize (lg_sl ([.ref (a 0), .int (nI n), .ref o]) ++ List.replicate (4 - (lg_sl ([.ref (a 0), .int (nI n), .ref o])).length) Slot.unset).toArray = ls at hl ⊢
  have hl : lv_has ls 4 [(0, .ref (a 0)), (1, .int (nI n)), (2, .ref o)] := hl
  refine x_more (mc := 0) (ms := 0) (Nat.le_of_ble_eq_true rfl) (Nat.le_of_ble_eq_true rfl) ?_
  refine lv_aload_n hx hb dL_time_0 rfl (lv_at hl 2 rfl) ?_
  refine lv_iconst (v := 0) hx hb dL_time_1 (by decide) ?_
  refine lv_aload_n hx hb dL_time_2 rfl (lv_at hl 0 rfl) ?_
  refine lv_iload_n hx hb dL_time_3 rfl (lv_at hl 1 rfl) ?_
  refine vp_callSi (W.runV (As := [.int (nI n)]) (rest := [.int 0, .ref o]) ⟨hx, hb, hml, hown, hts⟩ (c_X5_time l dC dI a k u h n hn ht) (cwV 1 hts (wG_V wG_c q_430 q_431 q_432 q_1 q_433) rfl rfl rfl (by decide +kernel) ⟨Nat.le_of_ble_eq_true rfl, Nat.le_of_ble_eq_true rfl⟩) (w_roV hK (w_Pl hP) (ci := 5) (q0 := 0) rfl (wC_g0 a k _) rfl) rfl rfl hl.1 rfl (lv_room (Nat.le_of_ble_eq_true rfl)) dL_time_4 ⟨Nat.le_of_ble_eq_true rfl, Nat.le_of_ble_eq_true rfl⟩) (fun r9 hr9 => ?_)
  subst hr9
  refine lv_i2l hx hb dL_time_7 rfl ?_
  refine va_last hx hb hK hP hD hS 26 1 (cA := k.2.1) (n := 1) rfl rfl (i := 0) vp_in01 dL_time_8 (fun H locs hP hD hS => ?_)
  have hP := w_pE (wL_s26 a o k _ _ _) hP
  have hD := w_dE (wL_s26 a o k _ _ _) hD
  refine lv_goto (tgt := 18) hx hb dL_time_9 (by decide) ?_
  refine lv_iconst (v := 0) hx hb dL_time_18 (by decide) ?_
  exact W.iret (v := 0) hx hb hr (fun t9 ht9 hW9 => ⟨⟨_, (u, vp_updL f (0 : Int32).toNatClampNeg ((iI (c_beg u n)).toInt64)), rfl, hpost _ (wO_0 f _), by rw [ht9]; exact hP, va_K.moved hW9.alike hK, hD⟩, hS.F ht9⟩) hS.2.2 dL_time_19
set_option maxHeartbeats 4000000 in
set_option maxRecDepth 100000 in
theorem r_time_1 (l : Launch) (dC : Nat → ClassId) (dI : Nat → Nat → Nat) (a : Nat → Nat) (k : c_K) (u : c_St) (o : Nat) (f : Nat → Int64) (sz : Nat) (hst : l.stackTraces = false)    (h20 : cu_N u 0 ≤ 200) (p0 : Int32) (hb9 : isS (cu_N u 0) p0 = false) (post : Int32 → c_X → Prop) (hpost : post 1 (u, f)) : Met l yL_time wsL_time ({ frames := 8, cells := 1, slots := 6, locals := 150 }) (va_Pc [.ref (a 0), .int p0, .ref o] (w_wr (dC, dI) vwCl (wL a o k (u, f)) (tC k) sz)) (va_Qi post (w_at (dC, dI) vwCl (wL a o k) (tC k) (va_A (wL a o k (u, f)) sz)) (va_A (wL a o k (u, f)) sz)) 1 6 (va_A (wL a o k (u, f)) sz) := by
  refine va_MetW (cc := cL_time) (maxL := 4) (ret := (some .int)) (by decide) rfl ?_
  intro p e s m args below meth c s₁ B hml hv
  obtain ⟨rfl, ⟨hsz, hP, hK, hD0, hX⟩, hNC⟩ := hv
  have hx := B.exec
  have hb := B.bytes
  have hr := B.returns
  have hts := atoms_spec (ws := wsL_time) B.pre
  have htg : ∀ w ∈ wG, w.before _ s = true := fun w h => hts w (List.mem_cons_of_mem _ h)
  have hown : s.vm.findClass RL = some m.cls := findClass_of_methodNamed B.named
  have hlocks := B.notSynchronized
  have htab := x_tab B (hts _ List.mem_cons_self)
  subst hsz
  have hX0 : w_x (va_A [] s.heap.size) s s.heap := hX.narrow (fun q h => Or.inr (va_A0.mp h))
  have hX1 : w_x (va_A (wC a k u) s.heap.size) s s.heap := hX.narrow (fun q h => va_Al h)
  have hP : va_P (dC, dI) vwCl (wC a k u ++ wO o k f) s.heap := hP
  have hD : va_D (va_A (wL a o k (u, f)) s.heap.size) (wC a k u ++ wO o k f) := hD0.self (sz := s.heap.size)
  have hAw : ∀ q, va_A (wC a k u) s.heap.size q → va_A (wL a o k (u, f)) s.heap.size q := fun q h => va_Al h
  generalize hAe : va_A (wL a o k (u, f)) s.heap.size = A at hD hAw ⊢
  have hA : ∀ q : Nat, s.heap.size ≤ q → A q := fun q h => by rw [← hAe]; exact Or.inr h
  have hS : va_S A s.heap s.heap [] := va_S.rf
  have hl := lv_entry ([.ref (a 0), .int p0, .ref o]) (n := 4) (Nat.le_of_ble_eq_true rfl)
  rw [lg_entry_eq]
  generalize (lg_sl ([.ref (a 0), .int p0, .ref o]) ++ List.replicate (4 - (lg_sl ([.ref (a 0), .int p0, .ref o])).length) Slot.unset).toArray = ls at hl ⊢
  have hl : lv_has ls 4 [(0, .ref (a 0)), (1, .int p0), (2, .ref o)] := hl
  refine lv_aload_n hx hb dL_time_0 rfl (lv_at hl 2 rfl) ?_
  refine lv_iconst (v := 0) hx hb dL_time_1 (by decide) ?_
  refine lv_aload_n hx hb dL_time_2 rfl (lv_at hl 0 rfl) ?_
  refine lv_iload_n hx hb dL_time_3 rfl (lv_at hl 1 rfl) ?_
  refine XW.callV (As := [.int p0]) (rest := [.int 0, .ref o]) ⟨hx, hb, hml, hown, hts⟩ (x_X5_time_1 l dC dI a k u _ hst h20 p0 hb9) (cwV 1 hts (wG_V wG_c q_430 q_431 q_432 q_1 q_433) rfl rfl rfl (by decide +kernel) ⟨Nat.le_of_ble_eq_true rfl, Nat.le_of_ble_eq_true rfl⟩) (w_pxV hK (w_Pl hP) hX0 (ci := 5) (q0 := 0) rfl (wC_g0 a k _) rfl) rfl hl.1 rfl (Nat.le_of_ble_eq_true rfl) dL_time_4 ⟨Nat.le_of_ble_eq_true rfl, Nat.le_of_ble_eq_true rfl⟩ (fun q9 st9 t9 H9 L9 h0 hfc ht9 hal9 hxc hL9 => ?_)
  obtain ⟨⟨ce9, k1, k2, k3⟩, hP, hS⟩ := x_back h0 hfc ht9 hxc hL9 hP hA
  refine XW.caught (own := RL) (name := eIAE) (E := eIAE) hown [] (x_en (0, 9, 12, 13)) [(x_en (0, 9, 15, 37))] htab (fun y9 hy9 => by cases hy9) rfl (by decide) (htg _ q_234) (x_cIAE hX0) k1 k2 k3 ?_
  refine lv_astore_n (lv' := [(3, .ref q9), (0, .ref (a 0)), (1, .int p0), (2, .ref o)]) hx hb dL_time_12 rfl hl (by decide) rfl (fun ls hl => ?_)
  refine lv_iconst (v := 1) hx hb dL_time_13 (by decide) ?_
  exact W.iret (v := 1) hx hb hr (fun t9 ht9 hW9 => ⟨⟨_, (u, f), rfl, hpost, by rw [ht9]; exact hP, va_K.moved hW9.alike hK, hD⟩, hS.F ht9⟩) hS.2.2 dL_time_14
set_option maxHeartbeats 4000000 in
set_option maxRecDepth 100000 in
theorem r_time_2 (l : Launch) (dC : Nat → ClassId) (dI : Nat → Nat → Nat) (a : Nat → Nat) (k : c_K) (u : c_St) (o : Nat) (f : Nat → Int64) (sz : Nat) (hst : l.stackTraces = false)    (h20 : cu_N u 0 ≤ 200) (n : Nat) (hn : n < cu_N u 0) (ht : cu_B u 0 n = false) (post : Int32 → c_X → Prop) (hpost : post 2 (u, f)) : Met l yL_time wsL_time ({ frames := 8, cells := 1, slots := 6, locals := 150 }) (va_Pc [.ref (a 0), .int (nI n), .ref o] (w_wr (dC, dI) vwCl (wL a o k (u, f)) (tC k) sz)) (va_Qi post (w_at (dC, dI) vwCl (wL a o k) (tC k) (va_A (wL a o k (u, f)) sz)) (va_A (wL a o k (u, f)) sz)) 1 6 (va_A (wL a o k (u, f)) sz) := by
  refine va_MetW (cc := cL_time) (maxL := 4) (ret := (some .int)) (by decide) rfl ?_
  intro p e s m args below meth c s₁ B hml hv
  obtain ⟨rfl, ⟨hsz, hP, hK, hD0, hX⟩, hNC⟩ := hv
  have hx := B.exec
  have hb := B.bytes
  have hr := B.returns
  have hts := atoms_spec (ws := wsL_time) B.pre
  have htg : ∀ w ∈ wG, w.before _ s = true := fun w h => hts w (List.mem_cons_of_mem _ h)
  have hown : s.vm.findClass RL = some m.cls := findClass_of_methodNamed B.named
  have hlocks := B.notSynchronized
  have htab := x_tab B (hts _ List.mem_cons_self)
  subst hsz
  have hX0 : w_x (va_A [] s.heap.size) s s.heap := hX.narrow (fun q h => Or.inr (va_A0.mp h))
  have hX1 : w_x (va_A (wC a k u) s.heap.size) s s.heap := hX.narrow (fun q h => va_Al h)
  have hP : va_P (dC, dI) vwCl (wC a k u ++ wO o k f) s.heap := hP
  have hD : va_D (va_A (wL a o k (u, f)) s.heap.size) (wC a k u ++ wO o k f) := hD0.self (sz := s.heap.size)
  have hAw : ∀ q, va_A (wC a k u) s.heap.size q → va_A (wL a o k (u, f)) s.heap.size q := fun q h => va_Al h
  generalize hAe : va_A (wL a o k (u, f)) s.heap.size = A at hD hAw ⊢
  have hA : ∀ q : Nat, s.heap.size ≤ q → A q := fun q h => by rw [← hAe]; exact Or.inr h
  have hS : va_S A s.heap s.heap [] := va_S.rf
  have hl := lv_entry ([.ref (a 0), .int (nI n), .ref o]) (n := 4) (Nat.le_of_ble_eq_true rfl)
  rw [lg_entry_eq]
  generalize (lg_sl ([.ref (a 0), .int (nI n), .ref o]) ++ List.replicate (4 - (lg_sl ([.ref (a 0), .int (nI n), .ref o])).length) Slot.unset).toArray = ls at hl ⊢
  have hl : lv_has ls 4 [(0, .ref (a 0)), (1, .int (nI n)), (2, .ref o)] := hl
  refine lv_aload_n hx hb dL_time_0 rfl (lv_at hl 2 rfl) ?_
  refine lv_iconst (v := 0) hx hb dL_time_1 (by decide) ?_
  refine lv_aload_n hx hb dL_time_2 rfl (lv_at hl 0 rfl) ?_
  refine lv_iload_n hx hb dL_time_3 rfl (lv_at hl 1 rfl) ?_
  refine XW.callV (As := [.int (nI n)]) (rest := [.int 0, .ref o]) ⟨hx, hb, hml, hown, hts⟩ (x_X5_time_2 l dC dI a k u _ hst h20 n hn ht) (cwV 1 hts (wG_V wG_c q_430 q_431 q_432 q_1 q_433) rfl rfl rfl (by decide +kernel) ⟨Nat.le_of_ble_eq_true rfl, Nat.le_of_ble_eq_true rfl⟩) (w_pxV hK (w_Pl hP) hX0 (ci := 5) (q0 := 0) rfl (wC_g0 a k _) rfl) rfl hl.1 rfl (Nat.le_of_ble_eq_true rfl) dL_time_4 ⟨Nat.le_of_ble_eq_true rfl, Nat.le_of_ble_eq_true rfl⟩ (fun q9 st9 t9 H9 L9 h0 hfc ht9 hal9 hxc hL9 => ?_)
  obtain ⟨⟨ce9, k1, k2, k3⟩, hP, hS⟩ := x_back h0 hfc ht9 hxc hL9 hP hA
  refine XW.caught (own := RL) (name := eISE) (E := eISE) hown [(x_en (0, 9, 12, 13))] (x_en (0, 9, 15, 37)) [] htab (x_p1 ⟨rfl, by decide, eIAE, htg _ q_234, x_nc.use hNC.2.2.2.1⟩) rfl (by decide) (htg _ q_429) (x_cISE hX0) k1 k2 k3 ?_
  refine lv_astore_n (lv' := [(3, .ref q9), (0, .ref (a 0)), (1, .int (nI n)), (2, .ref o)]) hx hb dL_time_15 rfl hl (by decide) rfl (fun ls hl => ?_)
  refine lv_iconst (v := 2) hx hb dL_time_16 (by decide) ?_
  exact W.iret (v := 2) hx hb hr (fun t9 ht9 hW9 => ⟨⟨_, (u, f), rfl, hpost, by rw [ht9]; exact hP, va_K.moved hW9.alike hK, hD⟩, hS.F ht9⟩) hS.2.2 dL_time_17
