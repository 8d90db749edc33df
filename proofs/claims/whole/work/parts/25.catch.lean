/-! a throw is caught: the table's rows are looked at one by one, each names a class that its first look resolves (follows what the library does for a resolved class, ThrowLaws, CatchAt) -/
section XCA
theorem x_go1 {Q : Handler → Pre} {E : CtlPost} {e : Env} {d : Bool} {acts : List Action} {S : State} {f : JFrame} {a : Addr} {x : ExceptionTableEntry} {t : List ExceptionTableEntry} {c : ClassId} {cell : Cell} (hx : covers x f.pc = true) (h0 : x.catchType ≠ 0) (hl : S.vm.ClassLinks e.platform f.method.cls x.catchType c) (hcell : S.heap[a]? = some cell) (hobj : ∀ k, cell.vm ≠ .statics k) (hk : ∃ k, S.vm.classes[cell.cls]? = some k) (hc : ∃ k, S.vm.classes[c]? = some k) :
    wp (findHandler.go f a (x :: t)) Q E e d acts S ↔ (if S.vm.assignable cell.cls c = true then Q (.found x.handlerPc) d acts (S.setVm (S.vm.noted f.method.cls x.catchType (.cls c))) else wp (findHandler.go f a t) Q E e d acts (S.setVm (S.vm.noted f.method.cls x.catchType (.cls c)))) := by
  have hv : S.vm.Alike (S.vm.noted f.method.cls x.catchType (.cls c)) := (Vm.Alike.refl S.vm).noted _ _ _
  obtain ⟨r1, r2⟩ := (resolveClass_links e.toSetting hl).op (op := VmOp.resolveClass f.method.cls x.catchType) rfl
  obtain ⟨k1, hk1⟩ := hk
  obtain ⟨k2, hk2⟩ := hc
  obtain ⟨j1, hj1, -⟩ := hv.2.2 _ _ hk1
  obtain ⟨j2, hj2, -⟩ := hv.2.2 _ _ hk2
  have ha : (S.vm.noted f.method.cls x.catchType (.cls c)).assignable cell.cls c = S.vm.assignable cell.cls c := by rw [hv.assignable]
  simp only [covers] at hx
  by_cases hf : S.vm.assignable cell.cls c = true
  · rw [if_pos hf]
    rw [hf] at ha
    simp [findHandler.go, hx, h0, r1, r2, hcell, hobj, hj1, hj2, ha, VmOp.dirties, VmOp.acts]
  · rw [if_neg hf]
    have hf2 : S.vm.assignable cell.cls c = false := by simpa using hf
    rw [hf2] at ha
    simp [findHandler.go, hx, h0, r1, r2, hcell, hobj, hj1, hj2, ha, VmOp.dirties, VmOp.acts]
/-- rows that name classes the thrown isn't of, then one that it is of -/
theorem x_go {e : Env} {s₀ : State} {f : JFrame} {a : Addr} {cell : Cell} (hobj : ∀ k, cell.vm ≠ .statics k) (hk0 : ∃ k, s₀.vm.classes[cell.cls]? = some k) {x : ExceptionTableEntry} (rest : List ExceptionTableEntry) (hx : covers x f.pc = true) (h0 : x.catchType ≠ 0) {cx : ClassId} (hlx : s₀.vm.ClassLinks e.platform f.method.cls x.catchType cx) (hfit : s₀.vm.assignable cell.cls cx = true) :
    ∀ (pre : List ExceptionTableEntry) (S : State), (∀ y ∈ pre, covers y f.pc = true ∧ y.catchType ≠ 0 ∧ ∃ c, s₀.vm.ClassLinks e.platform f.method.cls y.catchType c ∧ s₀.vm.assignable cell.cls c = false) → s₀.WarmedH S.vm → S.heap[a]? = some cell →
      ∃ vm', s₀.WarmedH vm' ∧ ∀ (Q : Handler → Pre) (E : CtlPost) (d : Bool) (acts : List Action), wp (findHandler.go f a (pre ++ x :: rest)) Q E e d acts S ↔ Q (.found x.handlerPc) d acts (S.setVm vm') := by
  obtain ⟨k0, hk0⟩ := hk0
  intro pre
  induction pre with
  | nil =>
    intro S _ hW hcell
    obtain ⟨j0, hj0, -⟩ := hW.alike.2.2 _ _ hk0
    obtain ⟨dk, _, _, kt, hd, _, _, _, _, hkt, _, hopen⟩ := hlx.here
    obtain ⟨jt, hjt, -⟩ := hW.alike.2.2 _ _ hkt
    refine ⟨_, hW.noted hd hopen (State.rightAt_cls hlx), fun Q E d acts => ?_⟩
    rw [List.nil_append, x_go1 hx h0 (hW.classLinks hlx) hcell hobj ⟨j0, hj0⟩ ⟨jt, hjt⟩, if_pos (by rw [hW.alike.assignable]; exact hfit)]
  | cons y ys ih =>
    intro S hp hW hcell
    obtain ⟨hy, hy0, c, hl, hno⟩ := hp y (List.mem_cons_self ..)
    obtain ⟨j0, hj0, -⟩ := hW.alike.2.2 _ _ hk0
    obtain ⟨dk, _, _, kt, hd, _, _, _, _, hkt, _, hopen⟩ := hl.here
    obtain ⟨jt, hjt, -⟩ := hW.alike.2.2 _ _ hkt
    obtain ⟨vm', hW', hq⟩ := ih (S.setVm (S.vm.noted f.method.cls y.catchType (.cls c))) (fun z hz => hp z (List.mem_cons_of_mem _ hz)) (hW.noted hd hopen (State.rightAt_cls hl)) hcell
    refine ⟨vm', hW', fun Q E d acts => ?_⟩
    rw [List.cons_append, x_go1 hy hy0 (hW.classLinks hl) hcell hobj ⟨j0, hj0⟩ ⟨jt, hjt⟩, if_neg (by rw [hW.alike.assignable, hno]; decide)]
    exact hq Q E d acts
end XCA
section XCB
variable {p : Program} {l : Launch} {e : Env} {R : Room} {s : State} {m : MethodId} {args : Array Value} {below : List Frame} {meth : Method} {c : Code} {H : Heap} {locs : List Loc} {cells slots : Nat} {Q : State → Prop} {pc : Nat} {ls : Array Slot} {rest : List Value} {q : Addr}
/-- the thrown q, of class E, is caught by the row x of the method's table, behind rows of other classes -/
theorem XW.caught {own name E : String} {ce : Cell} (hown : s.vm.findClass own = some m.cls) (pre : List ExceptionTableEntry) (x : ExceptionTableEntry) (suf : List ExceptionTableEntry) (hsplit : c.exceptionTable.toList = pre ++ x :: suf)
    (hpass : ∀ y ∈ pre, covers y pc = true ∧ y.catchType ≠ 0 ∧ ∃ nm : String, (Cond.classLink own y.catchType nm).before args s = true ∧ (Cond.not (.castable E nm)).before args s = true) (hx : covers x pc = true) (h0 : x.catchType ≠ 0)
    (hlink : (Cond.classLink own x.catchType name).before args s = true) (hcast : (Cond.castable E name).before args s = true) (hcell : H[q]? = some ce) (hv : ce.vm = .none) (hcl : s.vm.findClass E = some ce.cls)
    (kk : W p l e R s m args below meth c H locs cells slots Q (F0 m x.handlerPc ls [.ref q])) : XW p l e R s m args below meth c H locs cells slots Q (F0 m pc ls rest) q := by
  intro T hT X
  have hpl : e.platform.magicAccessors = ({} : Platform).magicAccessors := by rw [X.admits.platform]
  obtain ⟨c3, c4, hc3, hc4, hasg⟩ := Cond.castable_spec hcast
  cases Option.some.inj (hc3.symm.trans hcl)
  obtain ⟨c5, hc5, hl5⟩ := Cond.classLink_spec hown hlink e.platform hpl
  cases Option.some.inj (hc4.symm.trans hc5)
  obtain ⟨k9, h9, -⟩ := Vm.findClass_spec hcl
  obtain ⟨vm', hW', hq⟩ := x_go (e := e) (s₀ := s) (f := F0 m pc ls rest) (a := q) (cell := ce) (fun k h => by rw [hv] at h; cases h) ⟨k9, h9⟩ suf hx h0 hl5 hasg pre ((T.setTop (F0 m pc ls rest)).pushFrame (.throwing q)) (fun y hy => by
    obtain ⟨y1, y2, nm, y3, y4⟩ := hpass y hy
    obtain ⟨c6, hc6, hl6⟩ := Cond.classLink_spec hown y3 e.platform hpl
    have h7 := Cond.holds_not_iff.mp y4
    simp only [Cond.value, hcl, hc6] at h7
    exact ⟨y1, y2, c6, hl6, Option.some.inj h7⟩) (by rw [Stand.throwing_vm]; exact X.warmed) (by rw [Stand.throwing_heap, hT]; exact hcell)
  have X' := X.noted hW'
  obtain ⟨t, a1, b1⟩ := kk (T.setVm vm') hT X'
  refine ⟨t, ?_, b1⟩
  have hA : At T (F0 m pc ls rest).method c below := X.here
  obtain ⟨hgo, hw⟩ := hA.throwing q
  refine Steps.head hgo hw ?_
  have hm9 : ((T.setTop (F0 m pc ls rest)).pushFrame (.throwing q)).vm.method? m = some meth := by rw [Stand.throwing_vm]; exact X.method'
  have hfind : ∀ (Q : Handler → Pre) (E : CtlPost) (d : Bool) (acts : List Action), wp (findHandler (F0 m pc ls rest) q) Q E e d acts ((T.setTop (F0 m pc ls rest)).pushFrame (.throwing q)) ↔ Q (.found x.handlerPc) d acts (((T.setTop (F0 m pc ls rest)).pushFrame (.throwing q)).setVm vm') := by
    intro Q E d acts
    rw [W.findHandler_eq (meth := meth) (code := c) hm9 X.code, hsplit]
    exact hq Q E d acts
  have hstep : (stepThrowing e ((T.setTop (F0 m pc ls rest)).pushFrame (.throwing q)) q (.java (F0 m pc ls rest) :: T.frames.tail)).1 = (((T.setTop (F0 m pc ls rest)).pushFrame (.throwing q)).setVm vm').setFrames (.java (F0 m x.handlerPc ls [.ref q]) :: T.frames.tail) := by
    simp only [stepThrowing, searchFrame, vmDo]
    generalize hr : Sem.go _ e false [] ((T.setTop (F0 m pc ls rest)).pushFrame (.throwing q)) = res
    obtain ⟨as, rfl, ha⟩ := Sem.eq_ok_of hr (a := Handler.found x.handlerPc) (s' := ((T.setTop (F0 m pc ls rest)).pushFrame (.throwing q)).setVm vm') (acts' := []) (by
      simp [hfind _ _ _ _])
    rfl
  rw [stepThread_throwing (frames_entered hA.top _), hstep]
  obtain ⟨g₀, hg⟩ := Option.isSome_iff_exists.mp hA.top
  obtain ⟨r, hr⟩ := State.topJava?_eq_some.mp hg
  have hr' : (T.setVm vm').frames = .java g₀ :: r := hr
  rw [State.setTop_of_frames _ hr'] at a1
  have e9 : (((T.setTop (F0 m pc ls rest)).pushFrame (.throwing q)).setVm vm').setFrames (.java (F0 m x.handlerPc ls [.ref q]) :: T.frames.tail) = (T.setVm vm').setFrames (.java (F0 m x.handlerPc ls [.ref q]) :: r) := by
    rw [hr, List.tail_cons, State.pushFrame, State.setTop_of_frames _ hr, State.setFrames_setFrames]
    show ((T.setVm vm').setFrames _).setFrames _ = _
    rw [State.setFrames_setFrames]
  rw [e9]
  exact a1
end XCB
