/-! the law's beginning -/
section STA
theorem rel0 : Rel c_u0 c_u0 := by
  refine ⟨⟨Nat.zero_le _, Nat.zero_le _, fun n hn => absurd hn (Nat.not_lt_zero _), fun n hn => absurd hn (Nat.not_lt_zero _), fun s hs => Or.inl ?_⟩, ⟨Nat.le_refl _, fun n hn => absurd hn (Nat.not_lt_zero _), fun n hn => absurd hn (Nat.not_lt_zero _), fun i j _ hj => absurd hj (Nat.not_lt_zero _)⟩, ⟨rfl, rfl, rfl, rfl, rfl⟩, fun n hn => absurd hn (Nat.not_lt_zero _), ⟨fun n hn => absurd hn (Nat.not_lt_zero _), fun s hs => ?_⟩, fun n hn => absurd hn (Nat.not_lt_zero _), fun i _ => ⟨rfl, rfl, rfl⟩, fun _ _ => rfl, fun _ _ => rfl, fun _ _ => rfl⟩
  · show (if s < 10 then (-1 : Int) else 0) = -1
    rw [if_pos hs]
  · show (if s < 10 then (-1 : Int) else 0) = -1
    rw [if_pos hs]
theorem arr_k {args : Array Value} {s : State} {ty : FieldType} (h : (Cond.arrayClass ty).before args s = true) (hp : va_RA s = va_RA s) : ∃ cA : ClassId, ArrOfT s cA ty ∧ s.vm.findClass ("[" ++ ty.toString) = some cA := by
  obtain ⟨cA, kA, comp, h1, h2, h3⟩ := Cond.arrayClass_spec h
  exact ⟨cA, fun n z => ⟨fun k h => (by cases h), kA, h2, comp, h3⟩, h1⟩

set_option maxRecDepth 40000 in
theorem st_K {args : Array Value} {s : State} (htg : ∀ w ∈ wG, w.before args s = true) : ∃ (dC : Nat → ClassId) (dI : Nat → Nat → Nat) (k : c_K), va_K (dC, dI) vwCl (tC k) s := by
  obtain ⟨c0, i0, h0⟩ := u_known htg inX0 (htg _ q_112)
  obtain ⟨c1, i1, h1⟩ := u_known htg inX1 (htg _ q_91)
  obtain ⟨c2, i2, h2⟩ := u_known htg inX2 (htg _ q_135)
  obtain ⟨c3, i3, h3⟩ := u_known htg inX3 (htg _ q_70)
  obtain ⟨c4, i4, h4⟩ := u_known htg inX4 (htg _ q_25)
  obtain ⟨c5, i5, h5⟩ := u_known htg inX5 (htg _ q_17)
  obtain ⟨c6, i6, h6⟩ := u_known htg inX6 (htg _ q_576)
  obtain ⟨ki, y1, y2⟩ := arr_k (htg _ q_66) rfl
  obtain ⟨kl, l1, l2⟩ := arr_k (htg _ q_67) rfl
  obtain ⟨kz, z1, z2⟩ := arr_k (htg _ q_68) rfl
  refine ⟨fun j => ([c0, c1, c2, c3, c4, c5, c6] : List ClassId).getD j 0, fun j => ([i0, i1, i2, i3, i4, i5, i6] : List (Nat → Nat)).getD j (fun _ => 0), (ki, kl, kz), fun c q hq => ?_, fun j q hq => ?_⟩
  · have hc : c < 7 := (List.getElem?_eq_some_iff.mp hq).1
    rcases (show c = 0 ∨ c = 1 ∨ c = 2 ∨ c = 3 ∨ c = 4 ∨ c = 5 ∨ c = 6 by omega) with rfl | rfl | rfl | rfl | rfl | rfl | rfl
    · obtain rfl := Option.some.inj hq; exact h0
    · obtain rfl := Option.some.inj hq; exact h1
    · obtain rfl := Option.some.inj hq; exact h2
    · obtain rfl := Option.some.inj hq; exact h3
    · obtain rfl := Option.some.inj hq; exact h4
    · obtain rfl := Option.some.inj hq; exact h5
    · obtain rfl := Option.some.inj hq; exact h6
  · have hc : j < 3 := (List.getElem?_eq_some_iff.mp hq).1
    rcases (show j = 0 ∨ j = 1 ∨ j = 2 by omega) with rfl | rfl | rfl
    · obtain rfl := Option.some.inj hq; exact ⟨y1, y2⟩
    · obtain rfl := Option.some.inj hq; exact ⟨l1, l2⟩
    · obtain rfl := Option.some.inj hq; exact ⟨z1, z2⟩
set_option maxRecDepth 40000 in
theorem st_bad : ∀ w ∈ xBad, w ∈ lw_tbl := by decide +kernel
set_option maxRecDepth 40000 in
theorem st_nest : ∀ w ∈ xNest, w ∈ lw_tbl := by decide +kernel
set_option maxRecDepth 40000 in
theorem st_lay : ∀ w ∈ ([.laysStatic Bundle.tN "UNASSIGNED_STACK" Bundle.steD, .laysStatic Bundle.tN "SUPPRESSED_SENTINEL" Bundle.listD] : List Cond), w ∈ lw_tbl := by decide +kernel
set_option maxRecDepth 40000 in
theorem st_str : ∀ q ∈ xStr, Cond.stringRef "RecordTimes" q.1 q.2 ∈ lw_tbl := by decide +kernel
set_option maxRecDepth 40000 in
theorem st_exa : ∀ q ∈ xStr, Cond.exactly (.string "RecordTimes" q.1) "java/lang/String" ∈ flatC (Jvm.Cond.and given_1 narrow_1) := by decide +kernel
set_option maxRecDepth 40000 in
theorem st_ref : ∀ w ∈ ([.isRef (.static Bundle.tN "UNASSIGNED_STACK" Bundle.steD), .isRef (.static Bundle.tN "SUPPRESSED_SENTINEL" Bundle.listD), .not (.castable eIOE eIAE), .not (.castable eUOE eIAE), .not (.castable eUOE eIOE), .not (.castable eISE eIAE), .not (.castable eISE eIOE)] : List Cond), w ∈ flatC (Jvm.Cond.and given_1 narrow_1) := by decide +kernel
theorem st_x {args : Array Value} {s : State} (hts : ∀ w ∈ lw_tbl, w.before args s = true) (hgv : (Jvm.Cond.and given_1 narrow_1).before args s = true) : w_x (fun q => s.heap.size ≤ q) s s.heap := by
  have hf := flat_of_before _ hgv
  refine ⟨fun w hw => va_Nw.of (xBad_on w hw) (hts w (st_bad w hw)), fun q hq => ?_, xf.of (hts _ (st_lay _ (by decide +kernel))) (hf _ (st_ref _ (by decide +kernel))) (fun q h z => Nat.not_le.mpr h z), xf.of (hts _ (st_lay _ (by decide +kernel))) (hf _ (st_ref _ (by decide +kernel))) (fun q h z => Nat.not_le.mpr h z)⟩
  obtain ⟨sa, _, _, _, q1, -⟩ := Cond.exactly_spec (args := args) (first := s) (o := none) (s := s) (idx := []) (hf _ (st_exa q hq))
  exact ⟨sa, vk_R.of (hts _ (st_str q hq)) q1⟩
theorem st_nc {args : Array Value} {s : State} (hgv : (Jvm.Cond.and given_1 narrow_1).before args s = true) : x_ncs s := by
  have hf := flat_of_before _ hgv
  exact ⟨x_nc.of (hf _ (st_ref _ (by decide +kernel))), x_nc.of (hf _ (st_ref _ (by decide +kernel))), x_nc.of (hf _ (st_ref _ (by decide +kernel))), x_nc.of (hf _ (st_ref _ (by decide +kernel))), x_nc.of (hf _ (st_ref _ (by decide +kernel)))⟩
theorem st_ne {args : Array Value} {s : State} (hts : ∀ w ∈ lw_tbl, w.before args s = true) : ∀ w ∈ xNest, va_Nw w s := by
  intro w hw
  have hz := hts w (st_nest w hw)
  simp only [xNest, List.mem_cons, List.not_mem_nil, or_false] at hw
  rcases hw with e | e | e <;> subst e <;> exact va_Nw.of rfl hz
end STA
