/-! refusals that come behind a write; the starts of the law's own methods; tables of catches -/
section XMO
variable {D : va_G} {cl : List vw_C} {ws : va_W} {ty : List (ClassId × FieldType)} {s : State} {H : Heap} {C : String} {b : Nat} {As av : List Value}
def w_pm (D : va_G) (cl : List vw_C) (ws : va_W) (ty : List (ClassId × FieldType)) (sz : Nat) : State → Prop := fun U => U.heap.size = sz ∧ va_P D cl ws U.heap ∧ va_K D cl ty U ∧ va_D (fun _ => True) ws ∧ w_x (va_A ws sz) U U.heap
theorem w_pmB {sz : Nat} : FrameBlind (va_Pc av (w_pm D cl ws ty sz)) := fun a U g mk q => by
  obtain ⟨q0, q1, q2, q3, q4, q5⟩ := q
  exact ⟨q0, q1, q2, va_K.moved (u := U) (U := U.calling g mk a) (Vm.Alike.refl U.vm) q3, q4, (show w_x (va_A ws sz) (U.calling g mk a) U.heap from w_x.same (u := U) rfl q5)⟩
theorem w_pmV {q : vw_C} {ci q0 : Nat} {fs : List Value} {A : Nat → Prop} (hK : va_K D cl ty s) (hP : va_P D cl ws H) (hD : va_D A ws) (hX : w_x (va_A ws H.size) s H) (hc : cl[ci]? = some q) (he : ws[q0]? = some (b, .inr (ci, fs))) (hq : q.1 = C) : PreV s H C b (va_Pc (.ref b :: As) (w_pm D cl ws ty H.size)) As :=
  ⟨w_pmB, by rw [← hq]; exact va_recv hK hP hc he, fun U hU hW => ⟨rfl, by rw [hU], by rw [hU]; exact hP, va_K.moved hW.alike hK, hD.weaken (fun _ _ _ _ => trivial), by rw [hU]; exact hX.warm hW⟩⟩
/-- thrown is a cell of E, behind a write -/
def x_CM {S : Type} (E : String) (A : Nat → Prop) (post : S → Prop) (B : S → State → Prop) : Addr → State → State → Prop := fun q st t => (∃ ce : Cell, t.heap[q]? = some ce ∧ ce.vm = .none ∧ st.vm.findClass E = some ce.cls) ∧ (∃ u : S, post u ∧ B u t) ∧ va_F A st t
/-- no E is an N -/
def x_nc (E N : String) (U : State) : Prop := ∃ c t : ClassId, U.vm.findClass E = some c ∧ U.vm.findClass N = some t ∧ U.vm.assignable c t = false
theorem x_nc.moved {E N : String} {u U : State} (hvm : u.vm.Alike U.vm) (h : x_nc E N u) : x_nc E N U := by
  obtain ⟨c, t, h1, h2, h3⟩ := h
  exact ⟨c, t, by rw [hvm.findClass]; exact h1, by rw [hvm.findClass]; exact h2, by rw [hvm.assignable]; exact h3⟩
theorem x_nc.of {E N : String} {args : Array Value} {U : State} (h : (Cond.not (.castable E N)).before args U = true) : x_nc E N U := by
  have h7 := Cond.holds_not_iff.mp h
  simp only [Cond.value] at h7
  split at h7
  · rename_i c t h1 h2
    exact ⟨c, t, h1, h2, Option.some.inj h7⟩
  · cases h7
theorem x_nc.use {E N : String} {args : Array Value} {U : State} (h : x_nc E N U) : (Cond.not (.castable E N)).before args U = true := by
  obtain ⟨c, t, h1, h2, h3⟩ := h
  refine Cond.holds_not_iff.mpr ?_
  simp only [Cond.value, h1, h2, h3]
def x_ncs (U : State) : Prop := x_nc eIOE eIAE U ∧ x_nc eUOE eIAE U ∧ x_nc eUOE eIOE U ∧ x_nc eISE eIAE U ∧ x_nc eISE eIOE U
theorem x_ncs.moved {u U : State} (hvm : u.vm.Alike U.vm) (h : x_ncs u) : x_ncs U := ⟨h.1.moved hvm, h.2.1.moved hvm, h.2.2.1.moved hvm, h.2.2.2.1.moved hvm, h.2.2.2.2.moved hvm⟩
def w_wr (D : va_G) (cl : List vw_C) (ws : va_W) (ty : List (ClassId × FieldType)) (sz : Nat) : State → Prop := fun U => w_pm D cl ws ty sz U ∧ x_ncs U
theorem w_wrB {sz : Nat} : FrameBlind (va_Pc av (w_wr D cl ws ty sz)) := fun a U g mk q => by
  obtain ⟨q0, q1, q2⟩ := q
  have q3 := w_pmB (D := D) (cl := cl) (ws := ws) (ty := ty) (av := av) (sz := sz) a U g mk ⟨q0, q1⟩
  exact ⟨q0, q3.2, x_ncs.moved (u := U) (U := U.calling g mk a) (Vm.Alike.refl U.vm) q2⟩
theorem w_wrS {A : Nat → Prop} (hK : va_K D cl ty s) (hP : va_P D cl ws H) (hD : va_D A ws) (hX : w_x (va_A ws H.size) s H) (hN : x_ncs s) : PreS s H (va_Pc As (w_wr D cl ws ty H.size)) As :=
  ⟨w_wrB, fun U hU hW => ⟨rfl, ⟨by rw [hU], by rw [hU]; exact hP, va_K.moved hW.alike hK, hD.weaken (fun _ _ _ _ => trivial), by rw [hU]; exact hX.warm hW⟩, hN.moved hW.alike⟩⟩
/-- a table of catches, as the word says it -/
abbrev x_en (q : Nat × Nat × Nat × Nat) : ExceptionTableEntry := ⟨q.1, q.2.1, q.2.2.1, q.2.2.2⟩
theorem x_tab {p : Program} {l : Launch} {x : MethodName} {S : Spec} {code : ByteArray} {maxLocals : Nat} {ret : Option FieldType} {e : Env} {s : State} {m : MethodId} {args : Array Value} {below : List Frame} {meth : Method} {c : Code} {s₁ : State} {hh : List (Nat × Nat × Nat × Nat)}
    (B : BodyLoose p l x S code maxLocals ret e s m args below meth c s₁) (h : (Cond.codeWith x code maxLocals ret hh).before args s = true) : c.exceptionTable.toList = hh.map x_en := by
  obtain ⟨m9, meth', c', hn', hm', hc', -, -, he', -⟩ := Cond.codeWith_spec h
  cases B.named.symm.trans hn'
  cases B.method.symm.trans hm'
  cases (Stand.of_body B).code.symm.trans hc'
  rw [← he', List.map_map]
  exact (List.map_id _).symm.trans (List.map_congr_left (fun y _ => rfl))
theorem x_p1 {P : ExceptionTableEntry → Prop} {a : ExceptionTableEntry} (h : P a) : ∀ y ∈ [a], P y := fun y hy => by
  rw [List.mem_singleton] at hy
  rw [hy]; exact h
theorem x_p2 {P : ExceptionTableEntry → Prop} {a b : ExceptionTableEntry} (h : P a) (h2 : P b) : ∀ y ∈ [a, b], P y := fun y hy => by
  rcases List.mem_cons.mp hy with h9 | h9
  · rw [h9]; exact h
  · exact x_p1 h2 y h9
end XMO
section XMR
variable {p : Program} {l : Launch} {e : Env} {R : Room} {s : State} {m : MethodId} {args : Array Value} {below : List Frame} {meth : Method} {c : Code} {H : Heap} {locs : List Loc} {cells slots : Nat} {Q : State → Prop}
variable {y : MethodName} {bytes cc : ByteArray} {maxL nL mc ms n index : Nat} {ret : Option FieldType} {hh : List (Nat × Nat × Nat × Nat)} {ws : List Cond} {rm : Room} {Pc : Array Value → State → Prop} {Qc : Array Value → State → Outcome → State → Prop} {free : Addr → Prop} {Ts : List Cond} {own : String} {As rest : List Value} {g : JFrame}
/-- the contract's cost is more than the road's -/
theorem x_more {Qc : Array Value → State → Outcome → State → Prop} {a9 : Array Value} {mc ms mc' ms' : Nat} {g : JFrame} (hc : mc ≤ mc') (hs : ms ≤ ms') (h : W p l e R s m args below meth c H locs cells slots (MQ below Qc a9 s mc ms free) g) : W p l e R s m args below meth c H locs cells slots (MQ below Qc a9 s mc' ms' free) g := by
  intro T hT X
  obtain ⟨t, st, o, h1, h2, h3, L, h4, h5⟩ := h T hT X
  exact ⟨t, st, o, h1, h2, h3, L, ⟨h4.1, h4.2.1, h4.2.2.mono hc hs⟩, h5⟩
/-- a static method with a table of catches is called -/
theorem x_runSW (S : CallFix p m c cc nL s args Ts own) (hM : Met l y ws rm Pc Qc mc ms free) (hrc : rm.cells = mc) (hrs : rm.slots = ms) (hfr : rm.frames + 1 ≤ R.frames) (hlo : 8 + (maxL + 11) + rm.locals ≤ R.locals)
    (hws : ∀ w ∈ ws, ∀ (a' : Array Value) (U : State), s.WarmedH U.vm → w.before a' U = true) (hcw : Cond.codeWith y bytes maxL ret hh ∈ ws) (hcode : (Cond.codeWith y bytes maxL ret hh).before args s = true) (hini : (Cond.initialized y.cls).before args s = true) (hstat : (Cond.static y).before args s = true)
    (hlink : (Cond.methodLink own index y).before args s = true) (hy : y.cls ≠ "java/lang/invoke/MethodHandle" ∧ y.cls ≠ "java/lang/invoke/VarHandle") (hlen : (parseMethodDescriptor y.desc).map (fun d => d.parameters.length) = some As.length) (hp : PreS s H Pc As)
    (hg : g.method = m) (hsize : g.locals.size = nL) (hstack : g.stack = As.reverse ++ rest) (hW : 2 * g.monitorRoom + (rest.map fun v => v.category).sum ≤ 8) (hdg : decode cc g.pc = .ok (.invokestatic index, 3)) (hf : cells + mc ≤ R.cells ∧ slots + ms ≤ R.slots) :
    va_Run p l e R s m args below meth c H locs cells slots mc ms g rest (Qc As.toArray) (free) := by
  have hK : Back l R p e below s args y 3 8 (PreOf R mc ms Pc) (PostOf Qc mc ms free) := va_backW (hh := hh) (bytes := bytes) (maxL := maxL) (ret := ret) hM hp.1 hrc hrs hfr hlo hws hcw (fun a' U hW => word_at hW (Or.inl (by first | rfl | simp [Cond.onTables, Cond.keeps, Cond.steady])) hini)
  obtain ⟨hx, hb, hml, ho, -⟩ := S
  obtain ⟨mk, methM, cM, hnamed, hmethM, -, -, -, -, -, -, hsigM⟩ := Cond.codeWith_spec hcode
  have hstatic : methM.isStatic = true := Cond.static_spec hnamed hmethM hstat
  obtain ⟨kP, hkP, -⟩ := className_of_methodNamed hnamed
  have hinitP : kP.init = .initialized := Cond.initialized_spec (findClass_of_methodNamed hnamed) hkP hini
  intro T hT X
  obtain ⟨vm₁, X₁, hstep₁⟩ := X.invokestatic hx ho hlink hnamed hmethM hstatic hkP hinitP hy (g := g) hg (argsL := As) (rest := rest) (by rw [hsigM] at hlen; exact (Option.some.inj hlen).symm) hstack (by rw [hb]; exact hdg)
  obtain ⟨v, ⟨U', l2, c2, s2⟩, X', ⟨g', mk', t, L, e1, e2, hq, h1, hL, h2, h3⟩, hsteps⟩ := hK m meth c ⟨T.setVm vm₁, locs, cells, slots⟩ { g with stack := rest } (.invokestatic index) mk As.toArray X₁ hg (hsize.trans hml.symm) (by rw [hb]; exact hdg) hW (X₁.named hnamed) ⟨hf.1, hf.2, hp.2 (T.setVm vm₁) hT X₁.warmed⟩
  dsimp only [Pt.U, Pt.locs, Pt.cells, Pt.slots] at X' e1 e2 h1 h2 h3 hsteps
  subst h1; subst h2; subst h3
  exact ⟨v, (T.setVm vm₁).calling g' mk' As.toArray, t, U', L, hT, X', hL, e1, e2, hq, fun target h => hstep₁ _ fun acts => by rw [doInvoke_state]; exact hsteps.trans h⟩
end XMR
