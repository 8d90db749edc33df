section XWB
abbrev eIAE : String := "java/lang/IllegalArgumentException"
abbrev eIOE : String := "java/lang/IndexOutOfBoundsException"
abbrev eUOE : String := "java/lang/UnsupportedOperationException"
abbrev eISE : String := "java/lang/IllegalStateException"
abbrev xNames : List String := ["java/lang/RuntimeException", "java/lang/Exception"]
def xBad : List Cond := [.castable eIAE eIAE, .castable eIOE eIOE, .castable eUOE eUOE, .castable eISE eISE, .declares ⟨"java/lang/RuntimeException", "<init>", "(Ljava/lang/String;)V"⟩, .declares ⟨"java/lang/Exception", "<init>", "(Ljava/lang/String;)V"⟩, .declares ⟨"java/lang/Throwable", "<init>", "(Ljava/lang/String;)V"⟩]
def xHw : List Cond := [.isRef (.static Bundle.tN "UNASSIGNED_STACK" Bundle.steD), .isRef (.static Bundle.tN "SUPPRESSED_SENTINEL" Bundle.listD), .laysStatic Bundle.tN "UNASSIGNED_STACK" Bundle.steD, .laysStatic Bundle.tN "SUPPRESSED_SENTINEL" Bundle.listD]
def xStr : List (Nat × String) := [(221, "no such source"), (223, "no such unit"), (225, "no such incident"), (230, "a time is 0 to 9999999"), (65, "a slot has 1 to 8 bytes"), (76, "there are 200 slots"), (87, "there are 60 marks"), (232, "the first one is 0"), (234, "no such slot"), (236, "the slot is dropped"), (141, "the hold is so already"), (147, "the incident is under a hold"), (163, "no such certificate"), (173, "no such what of a certificate"), (227, "no such person"), (189, "the slot is dropped, or the person has no right"), (195, "no such row is kept"), (204, "no such what of a row"), (208, "the slot has no such byte"), (210, "a mask is 1 to 255"), (219, "no such what to count")]
/-- what a throw needs beside the good words: seven words of the tables, the texts, two statics -/
def w_x (A : Nat → Prop) (U : State) (H : Heap) : Prop := (∀ w ∈ xBad, va_Nw w U) ∧ (∀ q ∈ xStr, ∃ sa : Nat, vk_R "RecordTimes" q.1 q.2 sa U) ∧ xf "UNASSIGNED_STACK" Bundle.steD A U H ∧ xf "SUPPRESSED_SENTINEL" Bundle.listD A U H
theorem w_x.kept {A : Nat → Prop} {U : State} {H H1 : Heap} (h : w_x A U H) (hq : ∀ a : Nat, a < H.size → ¬ A a → H1[a]? = H[a]?) : w_x A U H1 := ⟨h.1, h.2.1, h.2.2.1.kept hq, h.2.2.2.kept hq⟩
theorem w_x.narrow {A B : Nat → Prop} {U : State} {H : Heap} (h : w_x A U H) (hAB : ∀ q, B q → A q) : w_x B U H := ⟨h.1, h.2.1, h.2.2.1.narrow hAB, h.2.2.2.narrow hAB⟩
theorem xBad_on : ∀ w ∈ xBad, w.onTables = true := by decide +kernel
theorem w_x.same {A : Nat → Prop} {u U : State} {H : Heap} (hv : U.vm = u.vm) (h : w_x A u H) : w_x A U H :=
  ⟨fun w hw => va_Nw.same (xBad_on w hw) hv.symm (h.1 w hw), fun q hq => (h.2.1 q hq).imp fun _ z => vk_R.same hv z, h.2.2.1.moved (by rw [hv]; exact Vm.Alike.refl _), h.2.2.2.moved (by rw [hv]; exact Vm.Alike.refl _)⟩
theorem w_x.warm {A : Nat → Prop} {s U : State} {H : Heap} (hW : s.WarmedH U.vm) (h : w_x A s H) : w_x A U H := by
  refine ⟨fun w hw => ?_, fun q hq => (h.2.1 q hq).imp fun _ z => vk_R.warm hW z, h.2.2.1.moved hW.alike, h.2.2.2.moved hW.alike⟩
  have hz := h.1 w hw
  simp only [xBad, List.mem_cons, List.not_mem_nil, or_false] at hw
  rcases hw with e | e | e | e | e | e | e <;> subst e
  · exact va_Nw.warmC hW hz
  · exact va_Nw.warmC hW hz
  · exact va_Nw.warmC hW hz
  · exact va_Nw.warmC hW hz
  · exact va_Nw.warmD hW hz
  · exact va_Nw.warmD hW hz
  · exact va_Nw.warmD hW hz
theorem w_x.own {A : Nat → Prop} {s : State} {args : Array Value} {L : List Cond} (h : w_x A s s.heap) (htg : ∀ w ∈ wG, w.before args s = true) (hL : ∀ w ∈ L, w ∈ wG ∨ w ∈ xBad ∨ w ∈ xHw) : ∀ w ∈ L, w.before args s = true := by
  intro w hw
  rcases hL w hw with z | z | z
  · exact htg w z
  · exact va_Nw.use (xBad_on w z) (h.1 w z)
  · simp only [xHw, List.mem_cons, List.not_mem_nil, or_false] at z
    rcases z with e | e | e | e <;> subst e
    · exact h.2.2.1.isRef
    · exact h.2.2.2.isRef
    · exact h.2.2.1.lays
    · exact h.2.2.2.lays
set_option maxRecDepth 40000 in
theorem own_IAE : ∀ w ∈ Bundle.ownAtoms "RecordTimes" 165 eIAE xNames, w ∈ wG ∨ w ∈ xBad ∨ w ∈ xHw := by decide +kernel
set_option maxRecDepth 40000 in
theorem own_IOE : ∀ w ∈ Bundle.ownAtoms "RecordTimes" 67 eIOE xNames, w ∈ wG ∨ w ∈ xBad ∨ w ∈ xHw := by decide +kernel
set_option maxRecDepth 40000 in
theorem own_UOE : ∀ w ∈ Bundle.ownAtoms "RecordTimes" 78 eUOE xNames, w ∈ wG ∨ w ∈ xBad ∨ w ∈ xHw := by decide +kernel
set_option maxRecDepth 40000 in
theorem own_ISE : ∀ w ∈ Bundle.ownAtoms "RecordTimes" 143 eISE xNames, w ∈ wG ∨ w ∈ xBad ∨ w ∈ xHw := by decide +kernel
end XWB
section XTH
variable {p : Program} {l : Launch} {e : Env} {R : Room} {s : State} {m : MethodId} {args : Array Value} {below : List Frame} {meth : Method} {c : Code} {H : Heap} {locs : List Loc} {cells slots : Nat} {XC : Addr → State → State → Prop} {mc ms : Nat} {free : Addr → Prop} {pc : Nat} {ls : Array Slot} {rest : List Value} {cc : ByteArray}
/-- 'throw new E("text")' in the class: the method ends, thrown is a new cell of E, nothing else has moved -/
theorem x_throw {E text : String} {ik is ic : Nat} {A : Nat → Prop} (hx : p.tables.exec = Jvm.exec) (hb : c.code = cc) (hl : l.stackTraces = false) (hown : s.vm.findClass "RecordTimes" = some m.cls) (hE : Bundle.fit E = true) (htg : ∀ w ∈ wG, w.before args s = true) (hX : w_x A s s.heap)
    (ho : ∀ w ∈ Bundle.ownAtoms "RecordTimes" ic E xNames, w ∈ wG ∨ w ∈ xBad ∨ w ∈ xHw) (hk : Cond.classLink "RecordTimes" ik E ∈ wG) (hi : Cond.instantiable E 6 ∈ wG) (hini : Cond.initialized E ∈ wG) (htx : (is, text) ∈ xStr)
    (hS : va_S A s.heap H locs) (hsize : ls.size = c.maxLocals)
    (d0 : decode cc pc = .ok (.new ik, 3)) (d3 : decode cc (pc + 3) = .ok (.dup, 1)) (d4 : decode cc (pc + 4) = .ok (.ldc is, 2)) (d6 : decode cc (pc + 6) = .ok (.invokespecial ic, 3)) (d9 : decode cc (pc + 9) = .ok (.athrow, 1))
    (hout : ∀ x ∈ c.exceptionTable.toList, covers x (pc + 9) = false) (hRf : 5 < R.frames) (hRl : (rest.map fun v => v.category).sum + 82 ≤ R.locals) (hRc : cells + 1 ≤ R.cells) (hRs : slots + 6 ≤ R.slots) (hlocks : meth.locks = false)
    (hq : ∀ (q : Addr) (t : State) (ce : Cell), s.WarmedH t.vm → H.size ≤ t.heap.size → (∀ z : Nat, z < H.size → t.heap[z]? = H[z]?) → t.heap[q]? = some ce → ce.vm = .none → s.vm.findClass E = some ce.cls → XC q s t) (hf : ∀ z ∈ locs, free z.base) (hc : cells + 1 ≤ mc) (hs : slots + 6 ≤ ms) :
    W p l e R s m args below meth c H locs cells slots (XQ below XC s mc ms free) (F0 m pc ls rest) := by
  intro T hT X
  have htr : e.platform.stackTraces = false := (show e.platform.stackTraces = l.stackTraces by rw [X.admits.platform]).trans hl
  have X9 := x_rebase X (R' := { frames := R.frames, locals := R.locals, cells := 1, slots := 6 }) (Nat.le_refl _) (Nat.le_refl _) hRc hRs
  obtain ⟨s9, es9⟩ : ∃ s9, s9 = (T.setVm s.vm).setFrames (.invoking m args :: below) := ⟨_, rfl⟩
  rw [← es9] at X9
  have hvm9 : s9.vm = s.vm := by rw [es9]; rfl
  have hh9 : s9.heap = H := by rw [es9]; exact hT
  have hW9 : s.WarmedH s9.vm := by rw [hvm9]; exact State.WarmedH.refl s
  have hX9 : w_x A s9 s9.heap := by
    rw [hh9]
    exact (hX.kept (fun z h1 h2 => hS.2.1 z h1 h2)).same hvm9
  have htg9 : ∀ w ∈ wG, w.before args s9 = true := fun w hw => word_at hW9 (good_of_word (wG_good w hw)) (htg w hw)
  obtain ⟨c1, k1, hc1, hk1, -⟩ := Cond.instantiable_spec (htg9 _ hi)
  obtain ⟨sa, hsa⟩ := hX9.2.1 _ htx
  have hown9 : s9.vm.findClass "RecordTimes" = some m.cls := by rw [hvm9]; exact hown
  have K : W p l e { frames := R.frames, locals := R.locals, cells := 1, slots := 6 } s9 m args below meth c H [] 0 0 (XQ below XC s mc ms free) (F0 m pc ls rest) := by
    refine W.newcK hx hb hown9 (htg9 _ hk) (htg9 _ hi) (htg9 _ hini) (g := F0 m pc ls rest) rfl d0 (Nat.le_of_ble_eq_true rfl) (Nat.le_of_ble_eq_true rfl) hc1 rfl fun H1 kC hkC e1 z1 o1 => ?_
    refine lv_dup hx hb d3 rfl ?_
    refine va_ldcS hx hb hown9 hsa d4 ?_
    intro T2 hT2 X2
    obtain ⟨U, st, hrun, hend, hW, hsame, ce, hce, hO⟩ := X2.ctorThrowS hx htr (own := "RecordTimes") (cls := E) (names := xNames) (ic := ic) hown9 hE (by decide +kernel) (hX9.own htg9 ho) (fun z hz => by cases hz) (a := H.size) hc1 hkC (by rw [hT2]; exact e1) (by rw [hh9]; exact Nat.le_refl _) (msg := .ref sa) rfl
      (g := F0 m (pc + 6) ls (.ref sa :: .ref H.size :: .ref H.size :: rest)) rfl hsize rfl rfl (rest := rest) rfl (by rw [hb]; exact d6) (by rw [hb]; exact d9) hout (by show 2 + 3 < R.frames; omega) (by show 2 * 0 + (1 + (rest.map fun v => v.category).sum) + (13 * 3 + 42) ≤ R.locals; omega) hlocks
    have hWs : s.WarmedH U.vm := by
      have h1 := hW
      rw [es9] at h1
      exact h1
    have hkeep := Jvm.Free.kept_of_same (keep := fun _ => True) hsame (fun z hz => by cases hz)
    have hsz : H.size ≤ U.heap.size := by
      have h1 := hsame.2.1
      rw [hh9] at h1
      exact h1
    refine ⟨U, st, H.size, hrun, hend, hq H.size U ce hWs hsz (fun z hz => ?_) hce hO.vm (by rw [← hvm9]; exact hO.cls), hWs, locs, ?_, hf⟩
    · have h1 := hkeep z H[z] trivial (by rw [hh9]; exact Array.getElem?_eq_getElem hz)
      rw [Array.getElem?_eq_getElem hz]
      exact h1
    · obtain ⟨e5, e6⟩ := hsame
      rw [hvm9] at e5 e6
      rw [es9, State.setFrames_setFrames] at e5
      have h2 : (T.setVm s.vm).sameButNew ({ U with vm := s.vm } : State) [] 1 6 := by
        rw [es9] at e6
        exact ⟨e5, e6⟩
      have h3 := X.same.trans h2
      rw [List.append_nil] at h3
      exact h3.mono hc hs
  exact K T hT X9
end XTH
