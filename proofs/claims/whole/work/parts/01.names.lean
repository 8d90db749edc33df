-- ===== PART A: goes FIRST, ahead of the names: the tables' words, and 'selects' of the private methods out of them =====
/-- a private method of a class that the tables say can be made, by its rows of tables_1 -/
def lw_okq (q : MethodName × Nat) : Prop := (q.1.cls ≠ "java/lang/invoke/MethodHandle" ∧ q.1.cls ≠ "java/lang/invoke/VarHandle") ∧ Cond.instantiable q.1.cls q.2 ∈ tables_1 ∧ Cond.privateMethod q.1 ∈ tables_1 ∧ Cond.instanceMethod q.1 ∈ tables_1
theorem lw_p0 : lw_okq (⟨"RecordTimes$Line", "bytesBefore", "(II)I"⟩, 4) := ⟨⟨by decide +kernel, by decide +kernel⟩, List.mem_of_getElem? (i := 91) (by decide +kernel), List.mem_of_getElem? (i := 188) (by decide +kernel), List.mem_of_getElem? (i := 189) (by decide +kernel)⟩
theorem lw_p1 : lw_okq (⟨"RecordTimes$Slots", "shiftOf", "(II)I"⟩, 9) := ⟨⟨by decide +kernel, by decide +kernel⟩, List.mem_of_getElem? (i := 25) (by decide +kernel), List.mem_of_getElem? (i := 218) (by decide +kernel), List.mem_of_getElem? (i := 219) (by decide +kernel)⟩
theorem lw_p2 : lw_okq (⟨"java/lang/Throwable", "fillInStackTrace", "(I)Ljava/lang/Throwable;"⟩, 6) := ⟨⟨by decide +kernel, by decide +kernel⟩, List.mem_of_getElem? (i := 284) (by decide +kernel), List.mem_of_getElem? (i := 282) (by decide +kernel), List.mem_of_getElem? (i := 283) (by decide +kernel)⟩
theorem lw_p3 : lw_okq (⟨"RecordTimes$Line", "settle", "(I)V"⟩, 4) := ⟨⟨by decide +kernel, by decide +kernel⟩, List.mem_of_getElem? (i := 91) (by decide +kernel), List.mem_of_getElem? (i := 368) (by decide +kernel), List.mem_of_getElem? (i := 369) (by decide +kernel)⟩
theorem lw_p4 : lw_okq (⟨"RecordTimes$Line", "isBefore", "(II)Z"⟩, 4) := ⟨⟨by decide +kernel, by decide +kernel⟩, List.mem_of_getElem? (i := 91) (by decide +kernel), List.mem_of_getElem? (i := 372) (by decide +kernel), List.mem_of_getElem? (i := 373) (by decide +kernel)⟩
theorem lw_p5 : lw_okq (⟨"RecordTimes", "checkSlot", "(I)V"⟩, 6) := ⟨⟨by decide +kernel, by decide +kernel⟩, List.mem_of_getElem? (i := 17) (by decide +kernel), List.mem_of_getElem? (i := 435) (by decide +kernel), List.mem_of_getElem? (i := 436) (by decide +kernel)⟩
theorem lw_p6 : lw_okq (⟨"RecordTimes", "checkThere", "(I)V"⟩, 6) := ⟨⟨by decide +kernel, by decide +kernel⟩, List.mem_of_getElem? (i := 17) (by decide +kernel), List.mem_of_getElem? (i := 440) (by decide +kernel), List.mem_of_getElem? (i := 441) (by decide +kernel)⟩
theorem lw_p7 : lw_okq (⟨"RecordTimesModel", "throwing", "(ZZZ)Z"⟩, 20) := ⟨⟨by decide +kernel, by decide +kernel⟩, List.mem_of_getElem? (i := 576) (by decide +kernel), List.mem_of_getElem? (i := 655) (by decide +kernel), List.mem_of_getElem? (i := 656) (by decide +kernel)⟩
theorem lw_p8 : lw_okq (⟨"RecordTimesModel", "sumOf", "(I)I"⟩, 20) := ⟨⟨by decide +kernel, by decide +kernel⟩, List.mem_of_getElem? (i := 576) (by decide +kernel), List.mem_of_getElem? (i := 659) (by decide +kernel), List.mem_of_getElem? (i := 660) (by decide +kernel)⟩
theorem lw_p9 : lw_okq (⟨"RecordTimesModel", "offsetOf", "(I)I"⟩, 20) := ⟨⟨by decide +kernel, by decide +kernel⟩, List.mem_of_getElem? (i := 576) (by decide +kernel), List.mem_of_getElem? (i := 675) (by decide +kernel), List.mem_of_getElem? (i := 676) (by decide +kernel)⟩
theorem lw_p10 : lw_okq (⟨"RecordTimesModel", "firstMark", "(I)I"⟩, 20) := ⟨⟨by decide +kernel, by decide +kernel⟩, List.mem_of_getElem? (i := 576) (by decide +kernel), List.mem_of_getElem? (i := 679) (by decide +kernel), List.mem_of_getElem? (i := 680) (by decide +kernel)⟩
theorem lw_p11 : lw_okq (⟨"RecordTimesModel", "found", "(IIIII)I"⟩, 20) := ⟨⟨by decide +kernel, by decide +kernel⟩, List.mem_of_getElem? (i := 576) (by decide +kernel), List.mem_of_getElem? (i := 691) (by decide +kernel), List.mem_of_getElem? (i := 692) (by decide +kernel)⟩
theorem lw_p12 : lw_okq (⟨"RecordTimesModel", "fits", "(IIIII)Z"⟩, 20) := ⟨⟨by decide +kernel, by decide +kernel⟩, List.mem_of_getElem? (i := 576) (by decide +kernel), List.mem_of_getElem? (i := 695) (by decide +kernel), List.mem_of_getElem? (i := 696) (by decide +kernel)⟩
theorem lw_p13 : lw_okq (⟨"RecordTimesModel", "within", "(III)I"⟩, 20) := ⟨⟨by decide +kernel, by decide +kernel⟩, List.mem_of_getElem? (i := 576) (by decide +kernel), List.mem_of_getElem? (i := 699) (by decide +kernel), List.mem_of_getElem? (i := 700) (by decide +kernel)⟩
theorem lw_p14 : lw_okq (⟨"RecordTimesModel", "begin", "(I)I"⟩, 20) := ⟨⟨by decide +kernel, by decide +kernel⟩, List.mem_of_getElem? (i := 576) (by decide +kernel), List.mem_of_getElem? (i := 703) (by decide +kernel), List.mem_of_getElem? (i := 704) (by decide +kernel)⟩
theorem lw_p15 : lw_okq (⟨"RecordTimesModel", "goesAhead", "(II)Z"⟩, 20) := ⟨⟨by decide +kernel, by decide +kernel⟩, List.mem_of_getElem? (i := 576) (by decide +kernel), List.mem_of_getElem? (i := 707) (by decide +kernel), List.mem_of_getElem? (i := 708) (by decide +kernel)⟩
def lw_privs_1 : List (MethodName × Nat) := [(⟨"RecordTimes$Line", "bytesBefore", "(II)I"⟩, 4), (⟨"RecordTimes$Slots", "shiftOf", "(II)I"⟩, 9), (⟨"java/lang/Throwable", "fillInStackTrace", "(I)Ljava/lang/Throwable;"⟩, 6), (⟨"RecordTimes$Line", "settle", "(I)V"⟩, 4), (⟨"RecordTimes$Line", "isBefore", "(II)Z"⟩, 4), (⟨"RecordTimes", "checkSlot", "(I)V"⟩, 6), (⟨"RecordTimes", "checkThere", "(I)V"⟩, 6), (⟨"RecordTimesModel", "throwing", "(ZZZ)Z"⟩, 20), (⟨"RecordTimesModel", "sumOf", "(I)I"⟩, 20), (⟨"RecordTimesModel", "offsetOf", "(I)I"⟩, 20), (⟨"RecordTimesModel", "firstMark", "(I)I"⟩, 20), (⟨"RecordTimesModel", "found", "(IIIII)I"⟩, 20), (⟨"RecordTimesModel", "fits", "(IIIII)Z"⟩, 20), (⟨"RecordTimesModel", "within", "(III)I"⟩, 20), (⟨"RecordTimesModel", "begin", "(I)I"⟩, 20), (⟨"RecordTimesModel", "goesAhead", "(II)Z"⟩, 20)]
theorem lw_r1 : ∀ q ∈ lw_privs_1, lw_okq q := List.forall_mem_cons.mpr ⟨lw_p0, List.forall_mem_cons.mpr ⟨lw_p1, List.forall_mem_cons.mpr ⟨lw_p2, List.forall_mem_cons.mpr ⟨lw_p3, List.forall_mem_cons.mpr ⟨lw_p4, List.forall_mem_cons.mpr ⟨lw_p5, List.forall_mem_cons.mpr ⟨lw_p6, List.forall_mem_cons.mpr ⟨lw_p7, List.forall_mem_cons.mpr ⟨lw_p8, List.forall_mem_cons.mpr ⟨lw_p9, List.forall_mem_cons.mpr ⟨lw_p10, List.forall_mem_cons.mpr ⟨lw_p11, List.forall_mem_cons.mpr ⟨lw_p12, List.forall_mem_cons.mpr ⟨lw_p13, List.forall_mem_cons.mpr ⟨lw_p14, List.forall_mem_cons.mpr ⟨lw_p15, fun _ h => absurd h List.not_mem_nil⟩⟩⟩⟩⟩⟩⟩⟩⟩⟩⟩⟩⟩⟩⟩⟩
theorem lw_p16 : lw_okq (⟨"RecordTimesModel", "isSlot", "(I)Z"⟩, 20) := ⟨⟨by decide +kernel, by decide +kernel⟩, List.mem_of_getElem? (i := 576) (by decide +kernel), List.mem_of_getElem? (i := 715) (by decide +kernel), List.mem_of_getElem? (i := 716) (by decide +kernel)⟩
theorem lw_p17 : lw_okq (⟨"RecordTimesModel", "isGone", "(I)Z"⟩, 20) := ⟨⟨by decide +kernel, by decide +kernel⟩, List.mem_of_getElem? (i := 576) (by decide +kernel), List.mem_of_getElem? (i := 719) (by decide +kernel), List.mem_of_getElem? (i := 720) (by decide +kernel)⟩
theorem lw_p18 : lw_okq (⟨"RecordTimesModel", "sumWithin", "(IIII)I"⟩, 20) := ⟨⟨by decide +kernel, by decide +kernel⟩, List.mem_of_getElem? (i := 576) (by decide +kernel), List.mem_of_getElem? (i := 731) (by decide +kernel), List.mem_of_getElem? (i := 732) (by decide +kernel)⟩
def lw_privs_2 : List (MethodName × Nat) := [(⟨"RecordTimesModel", "isSlot", "(I)Z"⟩, 20), (⟨"RecordTimesModel", "isGone", "(I)Z"⟩, 20), (⟨"RecordTimesModel", "sumWithin", "(IIII)I"⟩, 20)]
theorem lw_r2 : ∀ q ∈ lw_privs_2, lw_okq q := List.forall_mem_cons.mpr ⟨lw_p16, List.forall_mem_cons.mpr ⟨lw_p17, List.forall_mem_cons.mpr ⟨lw_p18, fun _ h => absurd h List.not_mem_nil⟩⟩⟩
def lw_privs : List (MethodName × Nat) := lw_privs_1 ++ (lw_privs_2)
def lw_tbl : List Cond := k2_sels lw_privs ++ tables_1
theorem lw_privs_ok : ∀ q ∈ lw_privs, lw_okq q := by
  show ∀ q ∈ lw_privs_1 ++ (lw_privs_2), lw_okq q
  exact List.forall_mem_append.mpr ⟨lw_r1, lw_r2⟩

/-! all words that travel with a call: one list for every method -/
def wG : List Cond := lw_tbl.filter goodWord
theorem wG_of {w : Cond} (h : w ∈ lw_tbl) (hg : goodWord w = true) : w ∈ wG := List.mem_filter.mpr ⟨h, hg⟩
theorem wG_in : ∀ w ∈ wG, w ∈ lw_tbl := fun _ h => (List.mem_filter.mp h).1
theorem wG_good : ∀ w ∈ wG, goodWord w = true := fun _ h => (List.mem_filter.mp h).2
theorem wG_g {big ws : List Cond} (hb : ∀ w ∈ wG, w ∈ big) (h : ∀ w ∈ ws, w ∈ wG) : GoodIn big ws := fun w hw => ⟨hb w (h w hw), good_of_word (wG_good w (h w hw))⟩
theorem wG_c {c : Cond} : ∀ w ∈ wG, w ∈ c :: wG := fun _ h => List.mem_cons_of_mem _ h
theorem wG_V {big : List Cond} (hb : ∀ w ∈ wG, w ∈ big) {own C : String} {idx : Nat} {y : MethodName} {c1 : Cond} (h1 : Cond.methodLink own idx y ∈ wG) (h2 : Cond.instanceMethod y ∈ wG) (h3 : Cond.selects C y y ∈ wG) (h4 : Cond.initialized C ∈ wG) (h5 : c1 ∈ wG) : GoodIn big (wsV own idx C y (c1 :: wG)) := wG_g hb (fun w hw => by
  unfold wsV at hw
  rcases List.mem_append.mp hw with h | h
  · simp only [List.mem_cons, List.not_mem_nil, or_false] at h
    rcases h with h | h | h | h <;> rw [h] <;> assumption
  · rcases List.mem_cons.mp h with h | h
    · rw [h]; exact h5
    · exact h)
theorem wG_S {big : List Cond} (hb : ∀ w ∈ wG, w ∈ big) {own : String} {idx : Nat} {y : MethodName} {c1 : Cond} (h1 : Cond.methodLink own idx y ∈ wG) (h2 : Cond.static y ∈ wG) (h4 : Cond.initialized own ∈ wG) (h5 : c1 ∈ wG) : GoodIn big (wsS own idx y (c1 :: wG)) := wG_g hb (fun w hw => by
  unfold wsS at hw
  rcases List.mem_append.mp hw with h | h
  · simp only [List.mem_cons, List.not_mem_nil, or_false] at h
    rcases h with h | h | h <;> rw [h] <;> assumption
  · rcases List.mem_cons.mp h with h | h
    · rw [h]; exact h5
    · exact h)
theorem wG_I {big : List Cond} (hb : ∀ w ∈ wG, w ∈ big) {c1 : Cond} (h5 : c1 ∈ wG) : GoodIn big (c1 :: wG) := wG_g hb (fun w hw => (List.mem_cons.mp hw).elim (fun h => by rw [h]; exact h5) (fun h => h))
abbrev RX0 : String := "RecordTimes$Certificates"
def TX0 : u_T := fun k => match k with
  | 0 => ("RecordTimes$Certificates", "slot", "[I", true)
  | 1 => ("RecordTimes$Certificates", "keptSum", "[I", true)
  | 2 => ("RecordTimes$Certificates", "lastSum", "[I", true)
  | _ => ("RecordTimes$Certificates", "made", "I", false)
def tyX0 : Nat → FieldType := fun k => match k with
  | 0 => (.array .int)
  | 1 => (.array .int)
  | 2 => (.array .int)
  | _ => .int
theorem nmX0 : ∀ a, a < 4 → ∀ b, b < 4 → a ≠ b → (TX0 a).2.1 ≠ (TX0 b).2.1 := by decide +kernel
theorem tyX0_ok : ∀ k, k < 4 → parseFieldDescriptor (TX0 k).2.2.1 = some (tyX0 k) := by decide +kernel
set_option maxRecDepth 20000 in
theorem inX0 : ∀ w ∈ u_ws RX0 TX0 4, w ∈ wG := by decide +kernel
abbrev RX1 : String := "RecordTimes$Line"
def TX1 : u_T := fun k => match k with
  | 0 => ("RecordTimes$Line", "order", "[I", true)
  | 1 => ("RecordTimes$Line", "length", "I", false)
  | 2 => ("RecordTimes$Line", "slots", "LRecordTimes$Slots;", true)
  | _ => ("RecordTimes$Line", "marks", "LRecordTimes$Marks;", true)
def tyX1 : Nat → FieldType := fun k => match k with
  | 0 => (.array .int)
  | 1 => .int
  | 2 => .object "RecordTimes$Slots"
  | _ => .object "RecordTimes$Marks"
theorem nmX1 : ∀ a, a < 4 → ∀ b, b < 4 → a ≠ b → (TX1 a).2.1 ≠ (TX1 b).2.1 := by decide +kernel
theorem tyX1_ok : ∀ k, k < 4 → parseFieldDescriptor (TX1 k).2.2.1 = some (tyX1 k) := by decide +kernel
set_option maxRecDepth 20000 in
theorem inX1 : ∀ w ∈ u_ws RX1 TX1 4, w ∈ wG := by decide +kernel
abbrev RX2 : String := "RecordTimes$Listeners"
def TX2 : u_T := fun k => match k with
  | 0 => ("RecordTimes$Listeners", "person", "[I", true)
  | 1 => ("RecordTimes$Listeners", "slot", "[I", true)
  | 2 => ("RecordTimes$Listeners", "allowed", "[Z", true)
  | 3 => ("RecordTimes$Listeners", "rowsEver", "I", false)
  | _ => ("RecordTimes$Listeners", "rights", "[Z", true)
def tyX2 : Nat → FieldType := fun k => match k with
  | 0 => (.array .int)
  | 1 => (.array .int)
  | 2 => (.array .boolean)
  | 3 => .int
  | _ => (.array .boolean)
theorem nmX2 : ∀ a, a < 5 → ∀ b, b < 5 → a ≠ b → (TX2 a).2.1 ≠ (TX2 b).2.1 := by decide +kernel
theorem tyX2_ok : ∀ k, k < 5 → parseFieldDescriptor (TX2 k).2.2.1 = some (tyX2 k) := by decide +kernel
set_option maxRecDepth 20000 in
theorem inX2 : ∀ w ∈ u_ws RX2 TX2 5, w ∈ wG := by decide +kernel
abbrev RX3 : String := "RecordTimes$Marks"
def TX3 : u_T := fun k => match k with
  | 0 => ("RecordTimes$Marks", "source", "[I", true)
  | 1 => ("RecordTimes$Marks", "difference", "[I", true)
  | 2 => ("RecordTimes$Marks", "first", "[I", true)
  | _ => ("RecordTimes$Marks", "made", "I", false)
def tyX3 : Nat → FieldType := fun k => match k with
  | 0 => (.array .int)
  | 1 => (.array .int)
  | 2 => (.array .int)
  | _ => .int
theorem nmX3 : ∀ a, a < 4 → ∀ b, b < 4 → a ≠ b → (TX3 a).2.1 ≠ (TX3 b).2.1 := by decide +kernel
theorem tyX3_ok : ∀ k, k < 4 → parseFieldDescriptor (TX3 k).2.2.1 = some (tyX3 k) := by decide +kernel
set_option maxRecDepth 20000 in
theorem inX3 : ∀ w ∈ u_ws RX3 TX3 4, w ∈ wG := by decide +kernel
abbrev RX4 : String := "RecordTimes$Slots"
def TX4 : u_T := fun k => match k with
  | 0 => ("RecordTimes$Slots", "source", "[I", true)
  | 1 => ("RecordTimes$Slots", "clock", "[I", true)
  | 2 => ("RecordTimes$Slots", "length", "[I", true)
  | 3 => ("RecordTimes$Slots", "bytes", "[J", true)
  | 4 => ("RecordTimes$Slots", "unit", "[I", true)
  | 5 => ("RecordTimes$Slots", "incident", "[I", true)
  | 6 => ("RecordTimes$Slots", "keptSum", "[I", true)
  | 7 => ("RecordTimes$Slots", "there", "[Z", true)
  | _ => ("RecordTimes$Slots", "made", "I", false)
def tyX4 : Nat → FieldType := fun k => match k with
  | 0 => (.array .int)
  | 1 => (.array .int)
  | 2 => (.array .int)
  | 3 => (.array .long)
  | 4 => (.array .int)
  | 5 => (.array .int)
  | 6 => (.array .int)
  | 7 => (.array .boolean)
  | _ => .int
theorem nmX4 : ∀ a, a < 9 → ∀ b, b < 9 → a ≠ b → (TX4 a).2.1 ≠ (TX4 b).2.1 := by decide +kernel
theorem tyX4_ok : ∀ k, k < 9 → parseFieldDescriptor (TX4 k).2.2.1 = some (tyX4 k) := by decide +kernel
set_option maxRecDepth 20000 in
theorem inX4 : ∀ w ∈ u_ws RX4 TX4 9, w ∈ wG := by decide +kernel
abbrev RX5 : String := "RecordTimes"
def TX5 : u_T := fun k => match k with
  | 0 => ("RecordTimes", "slots", "LRecordTimes$Slots;", true)
  | 1 => ("RecordTimes", "marks", "LRecordTimes$Marks;", true)
  | 2 => ("RecordTimes", "line", "LRecordTimes$Line;", true)
  | 3 => ("RecordTimes", "certificates", "LRecordTimes$Certificates;", true)
  | 4 => ("RecordTimes", "listeners", "LRecordTimes$Listeners;", true)
  | _ => ("RecordTimes", "held", "[Z", true)
def tyX5 : Nat → FieldType := fun k => match k with
  | 0 => .object "RecordTimes$Slots"
  | 1 => .object "RecordTimes$Marks"
  | 2 => .object "RecordTimes$Line"
  | 3 => .object "RecordTimes$Certificates"
  | 4 => .object "RecordTimes$Listeners"
  | _ => (.array .boolean)
theorem nmX5 : ∀ a, a < 6 → ∀ b, b < 6 → a ≠ b → (TX5 a).2.1 ≠ (TX5 b).2.1 := by decide +kernel
theorem tyX5_ok : ∀ k, k < 6 → parseFieldDescriptor (TX5 k).2.2.1 = some (tyX5 k) := by decide +kernel
set_option maxRecDepth 20000 in
theorem inX5 : ∀ w ∈ u_ws RX5 TX5 6, w ∈ wG := by decide +kernel
abbrev RX6 : String := "RecordTimesModel"
def TX6 : u_T := fun k => match k with
  | 0 => ("RecordTimesModel", "thrown", "I", false)
  | 1 => ("RecordTimesModel", "slots", "I", false)
  | 2 => ("RecordTimesModel", "source", "[I", true)
  | 3 => ("RecordTimesModel", "clock", "[I", true)
  | 4 => ("RecordTimesModel", "length", "[I", true)
  | 5 => ("RecordTimesModel", "bytes", "[I", true)
  | 6 => ("RecordTimesModel", "unit", "[I", true)
  | 7 => ("RecordTimesModel", "incident", "[I", true)
  | 8 => ("RecordTimesModel", "kept", "[I", true)
  | 9 => ("RecordTimesModel", "dropped", "[Z", true)
  | 10 => ("RecordTimesModel", "marks", "I", false)
  | 11 => ("RecordTimesModel", "markSource", "[I", true)
  | 12 => ("RecordTimesModel", "markOffset", "[I", true)
  | 13 => ("RecordTimesModel", "held", "[Z", true)
  | 14 => ("RecordTimesModel", "rights", "[Z", true)
  | 15 => ("RecordTimesModel", "certificates", "I", false)
  | 16 => ("RecordTimesModel", "certified", "[I", true)
  | 17 => ("RecordTimesModel", "sumThen", "[I", true)
  | 18 => ("RecordTimesModel", "rows", "I", false)
  | _ => ("RecordTimesModel", "told", "[I", true)
def tyX6 : Nat → FieldType := fun k => match k with
  | 0 => .int
  | 1 => .int
  | 2 => (.array .int)
  | 3 => (.array .int)
  | 4 => (.array .int)
  | 5 => (.array .int)
  | 6 => (.array .int)
  | 7 => (.array .int)
  | 8 => (.array .int)
  | 9 => (.array .boolean)
  | 10 => .int
  | 11 => (.array .int)
  | 12 => (.array .int)
  | 13 => (.array .boolean)
  | 14 => (.array .boolean)
  | 15 => .int
  | 16 => (.array .int)
  | 17 => (.array .int)
  | 18 => .int
  | _ => (.array .int)
theorem nmX6 : ∀ a, a < 20 → ∀ b, b < 20 → a ≠ b → (TX6 a).2.1 ≠ (TX6 b).2.1 := by decide +kernel
theorem tyX6_ok : ∀ k, k < 20 → parseFieldDescriptor (TX6 k).2.2.1 = some (tyX6 k) := by decide +kernel
set_option maxRecDepth 20000 in
theorem inX6 : ∀ w ∈ u_ws RX6 TX6 20, w ∈ wG := by decide +kernel
abbrev RL : String := "RecordTimesLaw"
abbrev vwCl : List vw_C := [(RX0, TX0, 4), (RX1, TX1, 4), (RX2, TX2, 5), (RX3, TX3, 4), (RX4, TX4, 9), (RX5, TX5, 6), (RX6, TX6, 20)]
