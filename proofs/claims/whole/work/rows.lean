section
-- ===== PART A: goes FIRST, ahead of the names: the tables' words, and 'selects' of the private methods out of them =====
/-- a private method of a class that the tables say can be made, by its rows of tables_1 -/
def lw_okq (q : MethodName × Nat) : Prop := (q.1.cls ≠ "java/lang/invoke/MethodHandle" ∧ q.1.cls ≠ "java/lang/invoke/VarHandle") ∧ Cond.instantiable q.1.cls q.2 ∈ tables_1 ∧ Cond.privateMethod q.1 ∈ tables_1 ∧ Cond.instanceMethod q.1 ∈ tables_1
theorem lw_p0 : lw_okq (⟨"RecordTimes$Line", "bytesBefore", "(II)I"⟩, 4) := ⟨⟨by decide +kernel, by decide +kernel⟩, List.mem_of_getElem? (i := 91) (by decide +kernel), List.mem_of_getElem? (i := 188) (by decide +kernel), List.mem_of_getElem? (i := 189) (by decide +kernel)⟩
theorem lw_p1 : lw_okq (⟨"RecordTimes$Slots", "shiftOf", "(II)I"⟩, 9) := ⟨⟨by decide +kernel, by decide +kernel⟩, List.mem_of_getElem? (i := 25) (by decide +kernel), List.mem_of_getElem? (i := 218) (by decide +kernel), List.mem_of_getElem? (i := 219) (by decide +kernel)⟩
theorem lw_p2 : lw_okq (⟨"java/lang/Throwable", "fillInStackTrace", "(I)Ljava/lang/Throwable;"⟩, 6) := ⟨⟨by decide +kernel, by decide +kernel⟩, List.mem_of_getElem? (i := 284) (by decide +kernel), List.mem_of_getElem? (i := 282) (by decide +kernel), List.mem_of_getElem? (i := 283) (by decide +kernel)⟩
theorem lw_p3 : lw_okq (⟨"RecordTimes$Line", "settle", "(I)V"⟩, 4) := ⟨⟨by decide +kernel, by decide +kernel⟩, List.mem_of_getElem? (i := 91) (by decide +kernel), List.mem_of_getElem? (i := 368) (by decide +kernel), List.mem_of_getElem? (i := 369) (by decide +kernel)⟩
theorem lw_p4 : lw_okq (⟨"RecordTimes$Line", "isBefore", "(II)Z"⟩, 4) := ⟨⟨by decide +kernel, by decide +kernel⟩, List.mem_of_getElem? (i := 91) (by decide +kernel), List.mem_of_getElem? (i := 372) (by decide +kernel), List.mem_of_getElem? (i := 373) (by decide +kernel)⟩
theorem lw_p5 : lw_okq (⟨"RecordTimes", "checkSlot", "(I)V"⟩, 6) := ⟨⟨by decide +kernel, by decide +kernel⟩, List.mem_of_getElem? (i := 17) (by decide +kernel), List.mem_of_getElem? (i := 435) (by decide +kernel), List.mem_of_getElem? (i := 436) (by decide +kernel)⟩
theorem lw_p6 : lw_okq (⟨"RecordTimes", "checkThere", "(I)V"⟩, 6) := ⟨⟨by decide +kernel, by decide +kernel⟩, List.mem_of_getElem? (i := 17) (by decide +kernel), List.mem_of_getElem? (i := 440) (by decide +kernel), List.mem_of_getElem? (i := 441) (by decide +kernel)⟩
theorem lw_p7 : lw_okq (⟨"RecordTimesModel", "throwing", "(ZZZ)Z"⟩, 20) := ⟨⟨by decide +kernel, by decide +kernel⟩, List.mem_of_getElem? (i := 576) (by decide +kernel), List.mem_of_getElem? (i := 655) (by decide +kernel), List.mem_of_getElem? (i := 656) (by decide +kernel)⟩
theorem lw_p8 : lw_okq (⟨"RecordTimesModel", "sumOf", "(I)I"⟩, 20) := ⟨⟨by decide +kernel, by decide +kernel⟩, List.mem_of_getElem? (i := 576) (by decide +kernel), List.mem_of_getElem? (i := 659) (by decide +kernel), List.mem_of_getElem? (i := 660) (by decide +kernel)⟩
theorem lw_p9 : lw_okq (⟨"RecordTimesModel", "offsetOf", "(I)I"⟩, 20) := ⟨⟨by decide +kernel, by decide +kernel⟩, List.mem_of_getElem? (i := 576) (by decide +kernel), List.mem_of_getElem? (i := 675) (by decide +kernel), List.mem_of_getElem? (i := 676) (by decide +kernel)⟩
theorem lw_p10 : lw_okq (⟨"RecordTimesModel", "firstMark", "(I)I"⟩, 20) := ⟨⟨by decide +kernel, by decide +kernel⟩, List.mem_of_getElem? (i := 576) (by decide +kernel), List.mem_of_getElem? (i := 679) (by decide +kernel), List.mem_of_getElem? (i := 680) (by decide +kernel)⟩
theorem lw_p11 : lw_okq (⟨"RecordTimesModel", "found", "(IIIII)I"⟩, 20) := ⟨⟨by decide +kernel, by decide +kernel⟩, List.mem_of_getElem? (i := 576) (by decide +kernel), List.mem_of_getElem? (i := 691) (by decide +kernel), List.mem_of_getElem? (i := 692) (by decide +kernel)⟩
theorem lw_p12 : lw_okq (⟨"RecordTimesModel", "fits", "(IIIII)Z"⟩, 20) := ⟨⟨by decide +kernel, by decide +kernel⟩, List.mem_of_getElem? (i := 576) (by decide +kernel), List.mem_of_getElem? (i := 695) (by decide +kernel), List.mem_of_getElem? (i := 696) (by decide +kernel)⟩
theorem lw_p13 : lw_okq (⟨"RecordTimesModel", "within", "(III)I"⟩, 20) := ⟨⟨by decide +kernel, by decide +kernel⟩, List.mem_of_getElem? (i := 576) (by decide +kernel), List.mem_of_getElem? (i := 699) (by decide +kernel), List.mem_of_getElem? (i := 700) (by decide +kernel)⟩
theorem lw_p14 : lw_okq (⟨"RecordTimesModel", "begin", "(I)I"⟩, 20) := ⟨⟨by decide +kernel, by decide +kernel⟩, List.mem_of_getElem? (i := 576) (by decide +kernel), List.mem_of_getElem? (i := 703) (by decide +kernel), List.mem_of_getElem? (i := 704) (by decide +kernel)⟩
theorem lw_p15 : lw_okq (⟨"RecordTimesModel", "goesAhead", "(II)Z"⟩, 20) := ⟨⟨by decide +kernel, by decide +kernel⟩, List.mem_of_getElem? (i := 576) (by decide +kernel), List.mem_of_getElem? (i := 707) (by decide +kernel), List.mem_of_getElem? (i := 708) (by decide +kernel)⟩
def lw_privs_1 : List (MethodName × Nat) := [(⟨"RecordTimes$Line", "bytesBefore", "(II)I"⟩, 4), (⟨"RecordTimes$Slots", "shiftOf", "(II)I"⟩, 9), (⟨"java/lang/Throwable", "fillInStackTrace", "(I)Ljava/lang/Throwable;"⟩, 6), (⟨"RecordTimes$Line", "settle", "(I)V"⟩, 4), (⟨"RecordTimes$Line", "isBefore", "(II)Z"⟩, 4), (⟨"RecordTimes", "checkSlot", "(I)V"⟩, 6), (⟨"RecordTimes", "checkThere", "(I)V"⟩, 6), (⟨"RecordTimesModel", "throwing", "(ZZZ)Z"⟩, 20), (⟨"RecordTimesModel", "sumOf", "(I)I"⟩, 20), (⟨"RecordTimesModel", "offsetOf", "(I)I"⟩, 20), (⟨"RecordTimesModel", "firstMark", "(I)I"⟩, 20), (⟨"RecordTimesModel", "found", "(IIIII)I"⟩, 20), (⟨"RecordTimesModel", "fits", "(IIIII)Z"⟩, 20), (⟨"RecordTimesModel", "within", "(III)I"⟩, 20), (⟨"RecordTimesModel", "begin", "(I)I"⟩, 20), (⟨"RecordTimesModel", "goesAhead", "(II)Z"⟩, 20)]
theorem lw_r1 : ∀ q ∈ lw_privs_1, lw_okq q := List.forall_mem_cons.mpr ⟨lw_p0, List.forall_mem_cons.mpr ⟨lw_p1, List.forall_mem_cons.mpr ⟨lw_p2, List.forall_mem_cons.mpr ⟨lw_p3, List.forall_mem_cons.mpr ⟨lw_p4, List.forall_mem_cons.mpr ⟨lw_p5, List.forall_mem_cons.mpr ⟨lw_p6, List.forall_mem_cons.mpr ⟨lw_p7, List.forall_mem_cons.mpr ⟨lw_p8, List.forall_mem_cons.mpr ⟨lw_p9, List.forall_mem_cons.mpr ⟨lw_p10, List.forall_mem_cons.mpr ⟨lw_p11, List.forall_mem_cons.mpr ⟨lw_p12, List.forall_mem_cons.mpr ⟨lw_p13, List.forall_mem_cons.mpr ⟨lw_p14, List.forall_mem_cons.mpr ⟨lw_p15, fun _ h => absurd h List.not_mem_nil⟩⟩⟩⟩⟩⟩⟩⟩⟩⟩⟩⟩⟩⟩⟩⟩
theorem lw_p16 : lw_okq (⟨"RecordTimesModel", "isSlot", "(I)Z"⟩, 20) := ⟨⟨by decide +kernel, by decide +kernel⟩, List.mem_of_getElem? (i := 576) (by decide +kernel), List.mem_of_getElem? (i := 715) (by decide +kernel), List.mem_of_getElem? (i := 716) (by decide +kernel)⟩
theorem lw_p17 : lw_okq (⟨"RecordTimesModel", "isGone", "(I)Z"⟩, 20) := ⟨⟨by decide +kernel, by decide +kernel⟩, List.mem_of_getElem? (i := 576) (by decide +kernel), List.mem_of_getElem? (i := 719) (by decide +kernel), List.mem_of_getElem? (i := 720) (by decide +kernel)⟩
theorem lw_p18 : lw_okq (⟨"RecordTimesModel", "sumWithin", "(IIII)I"⟩, 20) := ⟨⟨by decide +kernel, by decide +kernel⟩, List.mem_of_getElem? (i := 576) (by decide +kernel), List.mem_of_getElem? (i := 731) (by decide +kernel), List.mem_of_getElem? (i := 732) (by decide +kernel)⟩
def lw_privs_2 : List (MethodName × Nat) := [(⟨"RecordTimesModel", "isSlot", "(I)Z"⟩, 20), (⟨"RecordTimesModel", "isGone", "(I)Z"⟩, 20), (⟨"RecordTimesModel", "sumWithin", "(IIII)I"⟩, 20)]
theorem lw_r2 : ∀ q ∈ lw_privs_2, lw_okq q := List.forall_mem_cons.mpr ⟨lw_p16, List.forall_mem_cons.mpr ⟨lw_p17, List.forall_mem_cons.mpr ⟨lw_p18, fun _ h => absurd h List.not_mem_nil⟩⟩⟩
def lw_privs : List (MethodName × Nat) := lw_privs_1 ++ (lw_privs_2)
def lw_tbl : List Cond := k2_sels lw_privs ++ tables_1
theorem lw_privs_ok : ∀ q ∈ lw_privs, lw_okq q := by
  show ∀ q ∈ lw_privs_1 ++ (lw_privs_2), lw_okq q
  exact List.forall_mem_append.mpr ⟨lw_r1, lw_r2⟩

/-! all words that travel with a call: one list for every method -/
def wG : List Cond := lw_tbl.filter goodWord
theorem wG_of {w : Cond} (h : w ∈ lw_tbl) (hg : goodWord w = true) : w ∈ wG := List.mem_filter.mpr ⟨h, hg⟩
theorem wG_in : ∀ w ∈ wG, w ∈ lw_tbl := fun _ h => (List.mem_filter.mp h).1
theorem wG_good : ∀ w ∈ wG, goodWord w = true := fun _ h => (List.mem_filter.mp h).2
theorem wG_g {big ws : List Cond} (hb : ∀ w ∈ wG, w ∈ big) (h : ∀ w ∈ ws, w ∈ wG) : GoodIn big ws := fun w hw => ⟨hb w (h w hw), good_of_word (wG_good w (h w hw))⟩
theorem wG_c {c : Cond} : ∀ w ∈ wG, w ∈ c :: wG := fun _ h => List.mem_cons_of_mem _ h
theorem wG_V {big : List Cond} (hb : ∀ w ∈ wG, w ∈ big) {own C : String} {idx : Nat} {y : MethodName} {c1 : Cond} (h1 : Cond.methodLink own idx y ∈ wG) (h2 : Cond.instanceMethod y ∈ wG) (h3 : Cond.selects C y y ∈ wG) (h4 : Cond.initialized C ∈ wG) (h5 : c1 ∈ wG) : GoodIn big (wsV own idx C y (c1 :: wG)) := wG_g hb (fun w hw => by
  unfold wsV at hw
  rcases List.mem_append.mp hw with h | h
  · simp only [List.mem_cons, List.not_mem_nil, or_false] at h
    rcases h with h | h | h | h <;> rw [h] <;> assumption
  · rcases List.mem_cons.mp h with h | h
    · rw [h]; exact h5
    · exact h)
theorem wG_S {big : List Cond} (hb : ∀ w ∈ wG, w ∈ big) {own : String} {idx : Nat} {y : MethodName} {c1 : Cond} (h1 : Cond.methodLink own idx y ∈ wG) (h2 : Cond.static y ∈ wG) (h4 : Cond.initialized own ∈ wG) (h5 : c1 ∈ wG) : GoodIn big (wsS own idx y (c1 :: wG)) := wG_g hb (fun w hw => by
  unfold wsS at hw
  rcases List.mem_append.mp hw with h | h
  · simp only [List.mem_cons, List.not_mem_nil, or_false] at h
    rcases h with h | h | h <;> rw [h] <;> assumption
  · rcases List.mem_cons.mp h with h | h
    · rw [h]; exact h5
    · exact h)
theorem wG_I {big : List Cond} (hb : ∀ w ∈ wG, w ∈ big) {c1 : Cond} (h5 : c1 ∈ wG) : GoodIn big (c1 :: wG) := wG_g hb (fun w hw => (List.mem_cons.mp hw).elim (fun h => by rw [h]; exact h5) (fun h => h))
abbrev RX0 : String := "RecordTimes$Certificates"
def TX0 : u_T := fun k => match k with
  | 0 => ("RecordTimes$Certificates", "slot", "[I", true)
  | 1 => ("RecordTimes$Certificates", "keptSum", "[I", true)
  | 2 => ("RecordTimes$Certificates", "lastSum", "[I", true)
  | _ => ("RecordTimes$Certificates", "made", "I", false)
def tyX0 : Nat → FieldType := fun k => match k with
  | 0 => (.array .int)
  | 1 => (.array .int)
  | 2 => (.array .int)
  | _ => .int
theorem nmX0 : ∀ a, a < 4 → ∀ b, b < 4 → a ≠ b → (TX0 a).2.1 ≠ (TX0 b).2.1 := by decide +kernel
theorem tyX0_ok : ∀ k, k < 4 → parseFieldDescriptor (TX0 k).2.2.1 = some (tyX0 k) := by decide +kernel
set_option maxRecDepth 20000 in
theorem inX0 : ∀ w ∈ u_ws RX0 TX0 4, w ∈ wG := by decide +kernel
abbrev RX1 : String := "RecordTimes$Line"
def TX1 : u_T := fun k => match k with
  | 0 => ("RecordTimes$Line", "order", "[I", true)
  | 1 => ("RecordTimes$Line", "length", "I", false)
  | 2 => ("RecordTimes$Line", "slots", "LRecordTimes$Slots;", true)
  | _ => ("RecordTimes$Line", "marks", "LRecordTimes$Marks;", true)
def tyX1 : Nat → FieldType := fun k => match k with
  | 0 => (.array .int)
  | 1 => .int
  | 2 => .object "RecordTimes$Slots"
  | _ => .object "RecordTimes$Marks"
theorem nmX1 : ∀ a, a < 4 → ∀ b, b < 4 → a ≠ b → (TX1 a).2.1 ≠ (TX1 b).2.1 := by decide +kernel
theorem tyX1_ok : ∀ k, k < 4 → parseFieldDescriptor (TX1 k).2.2.1 = some (tyX1 k) := by decide +kernel
set_option maxRecDepth 20000 in
theorem inX1 : ∀ w ∈ u_ws RX1 TX1 4, w ∈ wG := by decide +kernel
abbrev RX2 : String := "RecordTimes$Listeners"
def TX2 : u_T := fun k => match k with
  | 0 => ("RecordTimes$Listeners", "person", "[I", true)
  | 1 => ("RecordTimes$Listeners", "slot", "[I", true)
  | 2 => ("RecordTimes$Listeners", "allowed", "[Z", true)
  | 3 => ("RecordTimes$Listeners", "rowsEver", "I", false)
  | _ => ("RecordTimes$Listeners", "rights", "[Z", true)
def tyX2 : Nat → FieldType := fun k => match k with
  | 0 => (.array .int)
  | 1 => (.array .int)
  | 2 => (.array .boolean)
  | 3 => .int
  | _ => (.array .boolean)
theorem nmX2 : ∀ a, a < 5 → ∀ b, b < 5 → a ≠ b → (TX2 a).2.1 ≠ (TX2 b).2.1 := by decide +kernel
theorem tyX2_ok : ∀ k, k < 5 → parseFieldDescriptor (TX2 k).2.2.1 = some (tyX2 k) := by decide +kernel
set_option maxRecDepth 20000 in
theorem inX2 : ∀ w ∈ u_ws RX2 TX2 5, w ∈ wG := by decide +kernel
abbrev RX3 : String := "RecordTimes$Marks"
def TX3 : u_T := fun k => match k with
  | 0 => ("RecordTimes$Marks", "source", "[I", true)
  | 1 => ("RecordTimes$Marks", "difference", "[I", true)
  | 2 => ("RecordTimes$Marks", "first", "[I", true)
  | _ => ("RecordTimes$Marks", "made", "I", false)
def tyX3 : Nat → FieldType := fun k => match k with
  | 0 => (.array .int)
  | 1 => (.array .int)
  | 2 => (.array .int)
  | _ => .int
theorem nmX3 : ∀ a, a < 4 → ∀ b, b < 4 → a ≠ b → (TX3 a).2.1 ≠ (TX3 b).2.1 := by decide +kernel
theorem tyX3_ok : ∀ k, k < 4 → parseFieldDescriptor (TX3 k).2.2.1 = some (tyX3 k) := by decide +kernel
set_option maxRecDepth 20000 in
theorem inX3 : ∀ w ∈ u_ws RX3 TX3 4, w ∈ wG := by decide +kernel
abbrev RX4 : String := "RecordTimes$Slots"
def TX4 : u_T := fun k => match k with
  | 0 => ("RecordTimes$Slots", "source", "[I", true)
  | 1 => ("RecordTimes$Slots", "clock", "[I", true)
  | 2 => ("RecordTimes$Slots", "length", "[I", true)
  | 3 => ("RecordTimes$Slots", "bytes", "[J", true)
  | 4 => ("RecordTimes$Slots", "unit", "[I", true)
  | 5 => ("RecordTimes$Slots", "incident", "[I", true)
  | 6 => ("RecordTimes$Slots", "keptSum", "[I", true)
  | 7 => ("RecordTimes$Slots", "there", "[Z", true)
  | _ => ("RecordTimes$Slots", "made", "I", false)
def tyX4 : Nat → FieldType := fun k => match k with
  | 0 => (.array .int)
  | 1 => (.array .int)
  | 2 => (.array .int)
  | 3 => (.array .long)
  | 4 => (.array .int)
  | 5 => (.array .int)
  | 6 => (.array .int)
  | 7 => (.array .boolean)
  | _ => .int
theorem nmX4 : ∀ a, a < 9 → ∀ b, b < 9 → a ≠ b → (TX4 a).2.1 ≠ (TX4 b).2.1 := by decide +kernel
theorem tyX4_ok : ∀ k, k < 9 → parseFieldDescriptor (TX4 k).2.2.1 = some (tyX4 k) := by decide +kernel
set_option maxRecDepth 20000 in
theorem inX4 : ∀ w ∈ u_ws RX4 TX4 9, w ∈ wG := by decide +kernel
abbrev RX5 : String := "RecordTimes"
def TX5 : u_T := fun k => match k with
  | 0 => ("RecordTimes", "slots", "LRecordTimes$Slots;", true)
  | 1 => ("RecordTimes", "marks", "LRecordTimes$Marks;", true)
  | 2 => ("RecordTimes", "line", "LRecordTimes$Line;", true)
  | 3 => ("RecordTimes", "certificates", "LRecordTimes$Certificates;", true)
  | 4 => ("RecordTimes", "listeners", "LRecordTimes$Listeners;", true)
  | _ => ("RecordTimes", "held", "[Z", true)
def tyX5 : Nat → FieldType := fun k => match k with
  | 0 => .object "RecordTimes$Slots"
  | 1 => .object "RecordTimes$Marks"
  | 2 => .object "RecordTimes$Line"
  | 3 => .object "RecordTimes$Certificates"
  | 4 => .object "RecordTimes$Listeners"
  | _ => (.array .boolean)
theorem nmX5 : ∀ a, a < 6 → ∀ b, b < 6 → a ≠ b → (TX5 a).2.1 ≠ (TX5 b).2.1 := by decide +kernel
theorem tyX5_ok : ∀ k, k < 6 → parseFieldDescriptor (TX5 k).2.2.1 = some (tyX5 k) := by decide +kernel
set_option maxRecDepth 20000 in
theorem inX5 : ∀ w ∈ u_ws RX5 TX5 6, w ∈ wG := by decide +kernel
abbrev RX6 : String := "RecordTimesModel"
def TX6 : u_T := fun k => match k with
  | 0 => ("RecordTimesModel", "thrown", "I", false)
  | 1 => ("RecordTimesModel", "slots", "I", false)
  | 2 => ("RecordTimesModel", "source", "[I", true)
  | 3 => ("RecordTimesModel", "clock", "[I", true)
  | 4 => ("RecordTimesModel", "length", "[I", true)
  | 5 => ("RecordTimesModel", "bytes", "[I", true)
  | 6 => ("RecordTimesModel", "unit", "[I", true)
  | 7 => ("RecordTimesModel", "incident", "[I", true)
  | 8 => ("RecordTimesModel", "kept", "[I", true)
  | 9 => ("RecordTimesModel", "dropped", "[Z", true)
  | 10 => ("RecordTimesModel", "marks", "I", false)
  | 11 => ("RecordTimesModel", "markSource", "[I", true)
  | 12 => ("RecordTimesModel", "markOffset", "[I", true)
  | 13 => ("RecordTimesModel", "held", "[Z", true)
  | 14 => ("RecordTimesModel", "rights", "[Z", true)
  | 15 => ("RecordTimesModel", "certificates", "I", false)
  | 16 => ("RecordTimesModel", "certified", "[I", true)
  | 17 => ("RecordTimesModel", "sumThen", "[I", true)
  | 18 => ("RecordTimesModel", "rows", "I", false)
  | _ => ("RecordTimesModel", "told", "[I", true)
def tyX6 : Nat → FieldType := fun k => match k with
  | 0 => .int
  | 1 => .int
  | 2 => (.array .int)
  | 3 => (.array .int)
  | 4 => (.array .int)
  | 5 => (.array .int)
  | 6 => (.array .int)
  | 7 => (.array .int)
  | 8 => (.array .int)
  | 9 => (.array .boolean)
  | 10 => .int
  | 11 => (.array .int)
  | 12 => (.array .int)
  | 13 => (.array .boolean)
  | 14 => (.array .boolean)
  | 15 => .int
  | 16 => (.array .int)
  | 17 => (.array .int)
  | 18 => .int
  | _ => (.array .int)
theorem nmX6 : ∀ a, a < 20 → ∀ b, b < 20 → a ≠ b → (TX6 a).2.1 ≠ (TX6 b).2.1 := by decide +kernel
theorem tyX6_ok : ∀ k, k < 20 → parseFieldDescriptor (TX6 k).2.2.1 = some (tyX6 k) := by decide +kernel
set_option maxRecDepth 20000 in
theorem inX6 : ∀ w ∈ u_ws RX6 TX6 20, w ∈ wG := by decide +kernel
abbrev RL : String := "RecordTimesLaw"
abbrev vwCl : List vw_C := [(RX0, TX0, 4), (RX1, TX1, 4), (RX2, TX2, 5), (RX3, TX3, 4), (RX4, TX4, 9), (RX5, TX5, 6), (RX6, TX6, 20)]
end
section
abbrev cX5_init : ByteArray := prog_1_method_1_code
abbrev yX5_init : MethodName := ⟨"RecordTimes", "<init>", "()V"⟩
abbrev wsX5_init : List Cond := Cond.code yX5_init cX5_init 1 none :: wG
abbrev cX5_slot : ByteArray := prog_1_method_2_code
abbrev yX5_slot : MethodName := ⟨"RecordTimes", "slot", "(IIIJII)I"⟩
abbrev wsX5_slot : List Cond := Cond.code yX5_slot cX5_slot 9 (some .int) :: wG
abbrev cX5_mark : ByteArray := prog_1_method_3_code
abbrev yX5_mark : MethodName := ⟨"RecordTimes", "mark", "(III)I"⟩
abbrev wsX5_mark : List Cond := Cond.code yX5_mark cX5_mark 5 (some .int) :: wG
abbrev cX5_offset : ByteArray := prog_1_method_4_code
abbrev yX5_offset : MethodName := ⟨"RecordTimes", "offset", "(I)I"⟩
abbrev wsX5_offset : List Cond := Cond.code yX5_offset cX5_offset 2 (some .int) :: wG
abbrev cX5_contradiction : ByteArray := prog_1_method_5_code
abbrev yX5_contradiction : MethodName := ⟨"RecordTimes", "contradiction", "(I)I"⟩
abbrev wsX5_contradiction : List Cond := Cond.code yX5_contradiction cX5_contradiction 2 (some .int) :: wG
abbrev cX5_find : ByteArray := prog_1_method_6_code
abbrev yX5_find : MethodName := ⟨"RecordTimes", "find", "(IIIII)I"⟩
abbrev wsX5_find : List Cond := Cond.code yX5_find cX5_find 9 (some .int) :: wG
abbrev cX5_time : ByteArray := prog_1_method_7_code
abbrev yX5_time : MethodName := ⟨"RecordTimes", "time", "(I)I"⟩
abbrev wsX5_time : List Cond := Cond.code yX5_time cX5_time 2 (some .int) :: wG
abbrev cX5_sum : ByteArray := prog_1_method_8_code
abbrev yX5_sum : MethodName := ⟨"RecordTimes", "sum", "(I)I"⟩
abbrev wsX5_sum : List Cond := Cond.code yX5_sum cX5_sum 2 (some .int) :: wG
abbrev cX5_part : ByteArray := prog_1_method_9_code
abbrev yX5_part : MethodName := ⟨"RecordTimes", "part", "(III)I"⟩
abbrev wsX5_part : List Cond := Cond.code yX5_part cX5_part 4 (some .int) :: wG
abbrev cX5_size : ByteArray := prog_1_method_10_code
abbrev yX5_size : MethodName := ⟨"RecordTimes", "size", "(II)I"⟩
abbrev wsX5_size : List Cond := Cond.code yX5_size cX5_size 5 (some .int) :: wG
abbrev cX5_export : ByteArray := prog_1_method_11_code
abbrev yX5_export : MethodName := ⟨"RecordTimes", "export", "(II)I"⟩
abbrev wsX5_export : List Cond := Cond.code yX5_export cX5_export 5 (some .int) :: wG
abbrev cX5_hold : ByteArray := prog_1_method_12_code
abbrev yX5_hold : MethodName := ⟨"RecordTimes", "hold", "(IZ)V"⟩
abbrev wsX5_hold : List Cond := Cond.code yX5_hold cX5_hold 3 none :: wG
abbrev cX5_drop : ByteArray := prog_1_method_13_code
abbrev yX5_drop : MethodName := ⟨"RecordTimes", "drop", "(I)I"⟩
abbrev wsX5_drop : List Cond := Cond.code yX5_drop cX5_drop 2 (some .int) :: wG
abbrev cX5_certificate : ByteArray := prog_1_method_14_code
abbrev yX5_certificate : MethodName := ⟨"RecordTimes", "certificate", "(II)I"⟩
abbrev wsX5_certificate : List Cond := Cond.code yX5_certificate cX5_certificate 3 (some .int) :: wG
abbrev cX5_right : ByteArray := prog_1_method_15_code
abbrev yX5_right : MethodName := ⟨"RecordTimes", "right", "(IIZ)V"⟩
abbrev wsX5_right : List Cond := Cond.code yX5_right cX5_right 4 none :: wG
abbrev cX5_listen : ByteArray := prog_1_method_16_code
abbrev yX5_listen : MethodName := ⟨"RecordTimes", "listen", "(II)I"⟩
abbrev wsX5_listen : List Cond := Cond.code yX5_listen cX5_listen 4 (some .int) :: wG
abbrev cX5_row : ByteArray := prog_1_method_17_code
abbrev yX5_row : MethodName := ⟨"RecordTimes", "row", "(II)I"⟩
abbrev wsX5_row : List Cond := Cond.code yX5_row cX5_row 4 (some .int) :: wG
abbrev cX5_poke : ByteArray := prog_1_method_18_code
abbrev yX5_poke : MethodName := ⟨"RecordTimes", "poke", "(III)V"⟩
abbrev wsX5_poke : List Cond := Cond.code yX5_poke cX5_poke 4 none :: wG
abbrev cX5_verify : ByteArray := prog_1_method_19_code
abbrev yX5_verify : MethodName := ⟨"RecordTimes", "verify", "()I"⟩
abbrev wsX5_verify : List Cond := Cond.code yX5_verify cX5_verify 2 (some .int) :: wG
abbrev cX5_count : ByteArray := prog_1_method_20_code
abbrev yX5_count : MethodName := ⟨"RecordTimes", "count", "(I)I"⟩
abbrev wsX5_count : List Cond := Cond.code yX5_count cX5_count 2 (some .int) :: wG
abbrev cX5_checkSource : ByteArray := prog_1_method_21_code
abbrev yX5_checkSource : MethodName := ⟨"RecordTimes", "checkSource", "(I)V"⟩
abbrev wsX5_checkSource : List Cond := Cond.code yX5_checkSource cX5_checkSource 1 none :: wG
abbrev cX5_checkUnit : ByteArray := prog_1_method_22_code
abbrev yX5_checkUnit : MethodName := ⟨"RecordTimes", "checkUnit", "(I)V"⟩
abbrev wsX5_checkUnit : List Cond := Cond.code yX5_checkUnit cX5_checkUnit 1 none :: wG
abbrev cX5_checkIncident : ByteArray := prog_1_method_23_code
abbrev yX5_checkIncident : MethodName := ⟨"RecordTimes", "checkIncident", "(I)V"⟩
abbrev wsX5_checkIncident : List Cond := Cond.code yX5_checkIncident cX5_checkIncident 1 none :: wG
abbrev cX5_checkPerson : ByteArray := prog_1_method_24_code
abbrev yX5_checkPerson : MethodName := ⟨"RecordTimes", "checkPerson", "(I)V"⟩
abbrev wsX5_checkPerson : List Cond := Cond.code yX5_checkPerson cX5_checkPerson 1 none :: wG
abbrev cX5_checkTime : ByteArray := prog_1_method_25_code
abbrev yX5_checkTime : MethodName := ⟨"RecordTimes", "checkTime", "(I)V"⟩
abbrev wsX5_checkTime : List Cond := Cond.code yX5_checkTime cX5_checkTime 1 none :: wG
abbrev cX5_checkPlace : ByteArray := prog_1_method_26_code
abbrev yX5_checkPlace : MethodName := ⟨"RecordTimes", "checkPlace", "(I)V"⟩
abbrev wsX5_checkPlace : List Cond := Cond.code yX5_checkPlace cX5_checkPlace 1 none :: wG
abbrev cX5_checkSlot : ByteArray := prog_1_method_27_code
abbrev yX5_checkSlot : MethodName := ⟨"RecordTimes", "checkSlot", "(I)V"⟩
abbrev wsX5_checkSlot : List Cond := Cond.code yX5_checkSlot cX5_checkSlot 2 none :: wG
abbrev cX5_checkThere : ByteArray := prog_1_method_28_code
abbrev yX5_checkThere : MethodName := ⟨"RecordTimes", "checkThere", "(I)V"⟩
abbrev wsX5_checkThere : List Cond := Cond.code yX5_checkThere cX5_checkThere 2 none :: wG
abbrev cX6_init : ByteArray := prog_8_method_1_code
abbrev yX6_init : MethodName := ⟨"RecordTimesModel", "<init>", "()V"⟩
abbrev wsX6_init : List Cond := Cond.code yX6_init cX6_init 1 none :: wG
abbrev cX6_thrown : ByteArray := prog_8_method_2_code
abbrev yX6_thrown : MethodName := ⟨"RecordTimesModel", "thrown", "()I"⟩
abbrev wsX6_thrown : List Cond := Cond.code yX6_thrown cX6_thrown 1 (some .int) :: wG
abbrev cX6_throwing : ByteArray := prog_8_method_3_code
abbrev yX6_throwing : MethodName := ⟨"RecordTimesModel", "throwing", "(ZZZ)Z"⟩
abbrev wsX6_throwing : List Cond := Cond.code yX6_throwing cX6_throwing 4 (some .boolean) :: wG
abbrev cX6_in : ByteArray := prog_8_method_4_code
abbrev yX6_in : MethodName := ⟨"RecordTimesModel", "in", "(III)Z"⟩
abbrev wsX6_in : List Cond := Cond.code yX6_in cX6_in 3 (some .boolean) :: wG
abbrev cX6_isSlot : ByteArray := prog_8_method_5_code
abbrev yX6_isSlot : MethodName := ⟨"RecordTimesModel", "isSlot", "(I)Z"⟩
abbrev wsX6_isSlot : List Cond := Cond.code yX6_isSlot cX6_isSlot 2 (some .boolean) :: wG
abbrev cX6_with : ByteArray := prog_8_method_6_code
abbrev yX6_with : MethodName := ⟨"RecordTimesModel", "with", "(II)I"⟩
abbrev wsX6_with : List Cond := Cond.code yX6_with cX6_with 3 (some .int) :: wG
abbrev cX6_sumOf : ByteArray := prog_8_method_7_code
abbrev yX6_sumOf : MethodName := ⟨"RecordTimesModel", "sumOf", "(I)I"⟩
abbrev wsX6_sumOf : List Cond := Cond.code yX6_sumOf cX6_sumOf 4 (some .int) :: wG
abbrev cX6_slot : ByteArray := prog_8_method_8_code
abbrev yX6_slot : MethodName := ⟨"RecordTimesModel", "slot", "(IIIJII)I"⟩
abbrev wsX6_slot : List Cond := Cond.code yX6_slot cX6_slot 11 (some .int) :: wG
abbrev cX6_firstMark : ByteArray := prog_8_method_9_code
abbrev yX6_firstMark : MethodName := ⟨"RecordTimesModel", "firstMark", "(I)I"⟩
abbrev wsX6_firstMark : List Cond := Cond.code yX6_firstMark cX6_firstMark 3 (some .int) :: wG
abbrev cX6_offsetOf : ByteArray := prog_8_method_10_code
abbrev yX6_offsetOf : MethodName := ⟨"RecordTimesModel", "offsetOf", "(I)I"⟩
abbrev wsX6_offsetOf : List Cond := Cond.code yX6_offsetOf cX6_offsetOf 3 (some .int) :: wG
abbrev cX6_mark : ByteArray := prog_8_method_11_code
abbrev yX6_mark : MethodName := ⟨"RecordTimesModel", "mark", "(III)I"⟩
abbrev wsX6_mark : List Cond := Cond.code yX6_mark cX6_mark 4 (some .int) :: wG
abbrev cX6_offset : ByteArray := prog_8_method_12_code
abbrev yX6_offset : MethodName := ⟨"RecordTimesModel", "offset", "(I)I"⟩
abbrev wsX6_offset : List Cond := Cond.code yX6_offset cX6_offset 2 (some .int) :: wG
abbrev cX6_contradiction : ByteArray := prog_8_method_13_code
abbrev yX6_contradiction : MethodName := ⟨"RecordTimesModel", "contradiction", "(I)I"⟩
abbrev wsX6_contradiction : List Cond := Cond.code yX6_contradiction cX6_contradiction 5 (some .int) :: wG
abbrev cX6_begin : ByteArray := prog_8_method_14_code
abbrev yX6_begin : MethodName := ⟨"RecordTimesModel", "begin", "(I)I"⟩
abbrev wsX6_begin : List Cond := Cond.code yX6_begin cX6_begin 2 (some .int) :: wG
abbrev cX6_goesAhead : ByteArray := prog_8_method_15_code
abbrev yX6_goesAhead : MethodName := ⟨"RecordTimesModel", "goesAhead", "(II)Z"⟩
abbrev wsX6_goesAhead : List Cond := Cond.code yX6_goesAhead cX6_goesAhead 5 (some .boolean) :: wG
abbrev cX6_within : ByteArray := prog_8_method_16_code
abbrev yX6_within : MethodName := ⟨"RecordTimesModel", "within", "(III)I"⟩
abbrev wsX6_within : List Cond := Cond.code yX6_within cX6_within 6 (some .int) :: wG
abbrev cX6_fits : ByteArray := prog_8_method_17_code
abbrev yX6_fits : MethodName := ⟨"RecordTimesModel", "fits", "(IIIII)Z"⟩
abbrev wsX6_fits : List Cond := Cond.code yX6_fits cX6_fits 6 (some .boolean) :: wG
abbrev cX6_found : ByteArray := prog_8_method_18_code
abbrev yX6_found : MethodName := ⟨"RecordTimesModel", "found", "(IIIII)I"⟩
abbrev wsX6_found : List Cond := Cond.code yX6_found cX6_found 9 (some .int) :: wG
abbrev cX6_find : ByteArray := prog_8_method_19_code
abbrev yX6_find : MethodName := ⟨"RecordTimesModel", "find", "(IIIII)I"⟩
abbrev wsX6_find : List Cond := Cond.code yX6_find cX6_find 6 (some .int) :: wG
abbrev cX6_isGone : ByteArray := prog_8_method_20_code
abbrev yX6_isGone : MethodName := ⟨"RecordTimesModel", "isGone", "(I)Z"⟩
abbrev wsX6_isGone : List Cond := Cond.code yX6_isGone cX6_isGone 2 (some .boolean) :: wG
abbrev cX6_time : ByteArray := prog_8_method_21_code
abbrev yX6_time : MethodName := ⟨"RecordTimesModel", "time", "(I)I"⟩
abbrev wsX6_time : List Cond := Cond.code yX6_time cX6_time 2 (some .int) :: wG
abbrev cX6_sum : ByteArray := prog_8_method_22_code
abbrev yX6_sum : MethodName := ⟨"RecordTimesModel", "sum", "(I)I"⟩
abbrev wsX6_sum : List Cond := Cond.code yX6_sum cX6_sum 2 (some .int) :: wG
abbrev cX6_sumWithin : ByteArray := prog_8_method_23_code
abbrev yX6_sumWithin : MethodName := ⟨"RecordTimesModel", "sumWithin", "(IIII)I"⟩
abbrev wsX6_sumWithin : List Cond := Cond.code yX6_sumWithin cX6_sumWithin 7 (some .int) :: wG
abbrev cX6_part : ByteArray := prog_8_method_24_code
abbrev yX6_part : MethodName := ⟨"RecordTimesModel", "part", "(III)I"⟩
abbrev wsX6_part : List Cond := Cond.code yX6_part cX6_part 4 (some .int) :: wG
abbrev cX6_size : ByteArray := prog_8_method_25_code
abbrev yX6_size : MethodName := ⟨"RecordTimesModel", "size", "(II)I"⟩
abbrev wsX6_size : List Cond := Cond.code yX6_size cX6_size 5 (some .int) :: wG
abbrev cX6_export : ByteArray := prog_8_method_26_code
abbrev yX6_export : MethodName := ⟨"RecordTimesModel", "export", "(II)I"⟩
abbrev wsX6_export : List Cond := Cond.code yX6_export cX6_export 6 (some .int) :: wG
abbrev cX6_hold : ByteArray := prog_8_method_27_code
abbrev yX6_hold : MethodName := ⟨"RecordTimesModel", "hold", "(IZ)V"⟩
abbrev wsX6_hold : List Cond := Cond.code yX6_hold cX6_hold 4 none :: wG
abbrev cX6_drop : ByteArray := prog_8_method_28_code
abbrev yX6_drop : MethodName := ⟨"RecordTimesModel", "drop", "(I)I"⟩
abbrev wsX6_drop : List Cond := Cond.code yX6_drop cX6_drop 2 (some .int) :: wG
abbrev cX6_certificate : ByteArray := prog_8_method_29_code
abbrev yX6_certificate : MethodName := ⟨"RecordTimesModel", "certificate", "(II)I"⟩
abbrev wsX6_certificate : List Cond := Cond.code yX6_certificate cX6_certificate 3 (some .int) :: wG
abbrev cX6_right : ByteArray := prog_8_method_30_code
abbrev yX6_right : MethodName := ⟨"RecordTimesModel", "right", "(IIZ)V"⟩
abbrev wsX6_right : List Cond := Cond.code yX6_right cX6_right 4 none :: wG
abbrev cX6_listen : ByteArray := prog_8_method_31_code
abbrev yX6_listen : MethodName := ⟨"RecordTimesModel", "listen", "(II)I"⟩
abbrev wsX6_listen : List Cond := Cond.code yX6_listen cX6_listen 5 (some .int) :: wG
abbrev cX6_row : ByteArray := prog_8_method_32_code
abbrev yX6_row : MethodName := ⟨"RecordTimesModel", "row", "(II)I"⟩
abbrev wsX6_row : List Cond := Cond.code yX6_row cX6_row 4 (some .int) :: wG
abbrev cX6_poke : ByteArray := prog_8_method_33_code
abbrev yX6_poke : MethodName := ⟨"RecordTimesModel", "poke", "(III)V"⟩
abbrev wsX6_poke : List Cond := Cond.code yX6_poke cX6_poke 5 none :: wG
abbrev cX6_verify : ByteArray := prog_8_method_34_code
abbrev yX6_verify : MethodName := ⟨"RecordTimesModel", "verify", "()I"⟩
abbrev wsX6_verify : List Cond := Cond.code yX6_verify cX6_verify 2 (some .int) :: wG
abbrev cX6_count : ByteArray := prog_8_method_35_code
abbrev yX6_count : MethodName := ⟨"RecordTimesModel", "count", "(I)I"⟩
abbrev wsX6_count : List Cond := Cond.code yX6_count cX6_count 4 (some .int) :: wG
abbrev cX0_init : ByteArray := prog_2_method_1_code
abbrev yX0_init : MethodName := ⟨"RecordTimes$Certificates", "<init>", "()V"⟩
abbrev wsX0_init : List Cond := Cond.code yX0_init cX0_init 1 none :: wG
abbrev cX0_add : ByteArray := prog_2_method_2_code
abbrev yX0_add : MethodName := ⟨"RecordTimes$Certificates", "add", "(III)I"⟩
abbrev wsX0_add : List Cond := Cond.code yX0_add cX0_add 5 (some .int) :: wG
abbrev cX1_init : ByteArray := prog_3_method_1_code
abbrev yX1_init : MethodName := ⟨"RecordTimes$Line", "<init>", "(LRecordTimes$Slots;LRecordTimes$Marks;)V"⟩
abbrev wsX1_init : List Cond := Cond.code yX1_init cX1_init 3 none :: wG
abbrev cX1_insert : ByteArray := prog_3_method_2_code
abbrev yX1_insert : MethodName := ⟨"RecordTimes$Line", "insert", "(I)V"⟩
abbrev wsX1_insert : List Cond := Cond.code yX1_insert cX1_insert 2 none :: wG
abbrev cX1_remove : ByteArray := prog_3_method_3_code
abbrev yX1_remove : MethodName := ⟨"RecordTimes$Line", "remove", "(I)V"⟩
abbrev wsX1_remove : List Cond := Cond.code yX1_remove cX1_remove 4 none :: wG
abbrev cX1_sortAgain : ByteArray := prog_3_method_4_code
abbrev yX1_sortAgain : MethodName := ⟨"RecordTimes$Line", "sortAgain", "()V"⟩
abbrev wsX1_sortAgain : List Cond := Cond.code yX1_sortAgain cX1_sortAgain 2 none :: wG
abbrev cX1_beginOf : ByteArray := prog_3_method_5_code
abbrev yX1_beginOf : MethodName := ⟨"RecordTimes$Line", "beginOf", "(I)I"⟩
abbrev wsX1_beginOf : List Cond := Cond.code yX1_beginOf cX1_beginOf 2 (some .int) :: wG
abbrev cX1_bytesWithin : ByteArray := prog_3_method_6_code
abbrev yX1_bytesWithin : MethodName := ⟨"RecordTimes$Line", "bytesWithin", "(III)I"⟩
abbrev wsX1_bytesWithin : List Cond := Cond.code yX1_bytesWithin cX1_bytesWithin 4 (some .int) :: wG
abbrev cX1_sumWithin : ByteArray := prog_3_method_7_code
abbrev yX1_sumWithin : MethodName := ⟨"RecordTimes$Line", "sumWithin", "(IIII)I"⟩
abbrev wsX1_sumWithin : List Cond := Cond.code yX1_sumWithin cX1_sumWithin 5 (some .int) :: wG
abbrev cX1_bytesBefore : ByteArray := prog_3_method_8_code
abbrev yX1_bytesBefore : MethodName := ⟨"RecordTimes$Line", "bytesBefore", "(II)I"⟩
abbrev wsX1_bytesBefore : List Cond := Cond.code yX1_bytesBefore cX1_bytesBefore 5 (some .int) :: wG
abbrev cX1_settle : ByteArray := prog_3_method_9_code
abbrev yX1_settle : MethodName := ⟨"RecordTimes$Line", "settle", "(I)V"⟩
abbrev wsX1_settle : List Cond := Cond.code yX1_settle cX1_settle 4 none :: wG
abbrev cX1_isBefore : ByteArray := prog_3_method_10_code
abbrev yX1_isBefore : MethodName := ⟨"RecordTimes$Line", "isBefore", "(II)Z"⟩
abbrev wsX1_isBefore : List Cond := Cond.code yX1_isBefore cX1_isBefore 5 (some .boolean) :: wG
abbrev cX2_init : ByteArray := prog_4_method_1_code
abbrev yX2_init : MethodName := ⟨"RecordTimes$Listeners", "<init>", "()V"⟩
abbrev wsX2_init : List Cond := Cond.code yX2_init cX2_init 1 none :: wG
abbrev cX2_allow : ByteArray := prog_4_method_2_code
abbrev yX2_allow : MethodName := ⟨"RecordTimes$Listeners", "allow", "(IIZ)V"⟩
abbrev wsX2_allow : List Cond := Cond.code yX2_allow cX2_allow 4 none :: wG
abbrev cX2_mayHear : ByteArray := prog_4_method_3_code
abbrev yX2_mayHear : MethodName := ⟨"RecordTimes$Listeners", "mayHear", "(II)Z"⟩
abbrev wsX2_mayHear : List Cond := Cond.code yX2_mayHear cX2_mayHear 3 (some .boolean) :: wG
abbrev cX2_keepRow : ByteArray := prog_4_method_4_code
abbrev yX2_keepRow : MethodName := ⟨"RecordTimes$Listeners", "keepRow", "(IIZ)V"⟩
abbrev wsX2_keepRow : List Cond := Cond.code yX2_keepRow cX2_keepRow 5 none :: wG
abbrev cX2_isKept : ByteArray := prog_4_method_5_code
abbrev yX2_isKept : MethodName := ⟨"RecordTimes$Listeners", "isKept", "(I)Z"⟩
abbrev wsX2_isKept : List Cond := Cond.code yX2_isKept cX2_isKept 2 (some .boolean) :: wG
abbrev cX3_init : ByteArray := prog_5_method_1_code
abbrev yX3_init : MethodName := ⟨"RecordTimes$Marks", "<init>", "()V"⟩
abbrev wsX3_init : List Cond := Cond.code yX3_init cX3_init 2 none :: wG
abbrev cX3_add : ByteArray := prog_5_method_2_code
abbrev yX3_add : MethodName := ⟨"RecordTimes$Marks", "add", "(II)I"⟩
abbrev wsX3_add : List Cond := Cond.code yX3_add cX3_add 4 (some .int) :: wG
abbrev cX3_offsetOf : ByteArray := prog_5_method_3_code
abbrev yX3_offsetOf : MethodName := ⟨"RecordTimes$Marks", "offsetOf", "(I)I"⟩
abbrev wsX3_offsetOf : List Cond := Cond.code yX3_offsetOf cX3_offsetOf 3 (some .int) :: wG
abbrev cX3_contradictionAt : ByteArray := prog_5_method_4_code
abbrev yX3_contradictionAt : MethodName := ⟨"RecordTimes$Marks", "contradictionAt", "(I)I"⟩
abbrev wsX3_contradictionAt : List Cond := Cond.code yX3_contradictionAt cX3_contradictionAt 4 (some .int) :: wG
abbrev cX4_init : ByteArray := prog_6_method_1_code
abbrev yX4_init : MethodName := ⟨"RecordTimes$Slots", "<init>", "()V"⟩
abbrev wsX4_init : List Cond := Cond.code yX4_init cX4_init 1 none :: wG
abbrev cX4_add : ByteArray := prog_6_method_2_code
abbrev yX4_add : MethodName := ⟨"RecordTimes$Slots", "add", "(IIIJII)I"⟩
abbrev wsX4_add : List Cond := Cond.code yX4_add cX4_add 9 (some .int) :: wG
abbrev cX4_isOf : ByteArray := prog_6_method_3_code
abbrev yX4_isOf : MethodName := ⟨"RecordTimes$Slots", "isOf", "(III)Z"⟩
abbrev wsX4_isOf : List Cond := Cond.code yX4_isOf cX4_isOf 4 (some .boolean) :: wG
abbrev cX4_sumNow : ByteArray := prog_6_method_4_code
abbrev yX4_sumNow : MethodName := ⟨"RecordTimes$Slots", "sumNow", "(I)I"⟩
abbrev wsX4_sumNow : List Cond := Cond.code yX4_sumNow cX4_sumNow 2 (some .int) :: wG
abbrev cX4_sumOn : ByteArray := prog_6_method_5_code
abbrev yX4_sumOn : MethodName := ⟨"RecordTimes$Slots", "sumOn", "(IIII)I"⟩
abbrev wsX4_sumOn : List Cond := Cond.code yX4_sumOn cX4_sumOn 9 (some .int) :: wG
abbrev cX4_alter : ByteArray := prog_6_method_6_code
abbrev yX4_alter : MethodName := ⟨"RecordTimes$Slots", "alter", "(III)V"⟩
abbrev wsX4_alter : List Cond := Cond.code yX4_alter cX4_alter 4 none :: wG
abbrev cX4_shiftOf : ByteArray := prog_6_method_7_code
abbrev yX4_shiftOf : MethodName := ⟨"RecordTimes$Slots", "shiftOf", "(II)I"⟩
abbrev wsX4_shiftOf : List Cond := Cond.code yX4_shiftOf cX4_shiftOf 3 (some .int) :: wG
abbrev cL_slot : ByteArray := method_3_code
abbrev yL_slot : MethodName := ⟨"RecordTimesLaw", "slot", "(LRecordTimes;IIIJII[J)I"⟩
abbrev wsL_slot : List Cond := Cond.codeWith yL_slot cL_slot 10 (some .int) [(0, 18, 21, 13), (0, 18, 25, 15), (0, 18, 29, 17)] :: wG
abbrev cL_mark : ByteArray := method_4_code
abbrev yL_mark : MethodName := ⟨"RecordTimesLaw", "mark", "(LRecordTimes;III[J)I"⟩
abbrev wsL_mark : List Cond := Cond.codeWith yL_mark cL_mark 6 (some .int) [(0, 12, 15, 13), (0, 12, 19, 15), (0, 12, 23, 17)] :: wG
abbrev cL_offset : ByteArray := method_5_code
abbrev yL_offset : MethodName := ⟨"RecordTimesLaw", "offset", "(LRecordTimes;I[J)I"⟩
abbrev wsL_offset : List Cond := Cond.codeWith yL_offset cL_offset 4 (some .int) [(0, 9, 12, 13)] :: wG
abbrev cL_contradiction : ByteArray := method_6_code
abbrev yL_contradiction : MethodName := ⟨"RecordTimesLaw", "contradiction", "(LRecordTimes;I[J)I"⟩
abbrev wsL_contradiction : List Cond := Cond.codeWith yL_contradiction cL_contradiction 4 (some .int) [(0, 9, 12, 15)] :: wG
abbrev cL_find : ByteArray := method_7_code
abbrev yL_find : MethodName := ⟨"RecordTimesLaw", "find", "(LRecordTimes;IIIII[J)I"⟩
abbrev wsL_find : List Cond := Cond.codeWith yL_find cL_find 8 (some .int) [(0, 16, 19, 13), (0, 16, 23, 15)] :: wG
abbrev cL_time : ByteArray := method_8_code
abbrev yL_time : MethodName := ⟨"RecordTimesLaw", "time", "(LRecordTimes;I[J)I"⟩
abbrev wsL_time : List Cond := Cond.codeWith yL_time cL_time 4 (some .int) [(0, 9, 12, 13), (0, 9, 15, 37)] :: wG
abbrev cL_sum : ByteArray := method_9_code
abbrev yL_sum : MethodName := ⟨"RecordTimesLaw", "sum", "(LRecordTimes;I[J)I"⟩
abbrev wsL_sum : List Cond := Cond.codeWith yL_sum cL_sum 4 (some .int) [(0, 9, 12, 13), (0, 9, 15, 37)] :: wG
abbrev cL_part : ByteArray := method_10_code
abbrev yL_part : MethodName := ⟨"RecordTimesLaw", "part", "(LRecordTimes;III[J)I"⟩
abbrev wsL_part : List Cond := Cond.codeWith yL_part cL_part 6 (some .int) [(0, 12, 15, 13), (0, 12, 19, 37)] :: wG
abbrev cL_hold : ByteArray := method_11_code
abbrev yL_hold : MethodName := ⟨"RecordTimesLaw", "hold", "(LRecordTimes;IZ)I"⟩
abbrev wsL_hold : List Cond := Cond.codeWith yL_hold cL_hold 4 (some .int) [(0, 6, 9, 13), (0, 6, 12, 37)] :: wG
abbrev cL_drop : ByteArray := method_12_code
abbrev yL_drop : MethodName := ⟨"RecordTimesLaw", "drop", "(LRecordTimes;I[J)I"⟩
abbrev wsL_drop : List Cond := Cond.codeWith yL_drop cL_drop 4 (some .int) [(0, 9, 12, 13), (0, 9, 15, 37)] :: wG
abbrev cL_certificate : ByteArray := method_13_code
abbrev yL_certificate : MethodName := ⟨"RecordTimesLaw", "certificate", "(LRecordTimes;II[J)I"⟩
abbrev wsL_certificate : List Cond := Cond.codeWith yL_certificate cL_certificate 5 (some .int) [(0, 10, 13, 13)] :: wG
abbrev cL_right : ByteArray := method_14_code
abbrev yL_right : MethodName := ⟨"RecordTimesLaw", "right", "(LRecordTimes;IIZ)I"⟩
abbrev wsL_right : List Cond := Cond.codeWith yL_right cL_right 5 (some .int) [(0, 7, 10, 13)] :: wG
abbrev cL_listen : ByteArray := method_15_code
abbrev yL_listen : MethodName := ⟨"RecordTimesLaw", "listen", "(LRecordTimes;II[J)I"⟩
abbrev wsL_listen : List Cond := Cond.codeWith yL_listen cL_listen 5 (some .int) [(0, 10, 13, 13), (0, 10, 17, 37)] :: wG
abbrev cL_row : ByteArray := method_16_code
abbrev yL_row : MethodName := ⟨"RecordTimesLaw", "row", "(LRecordTimes;II[J)I"⟩
abbrev wsL_row : List Cond := Cond.codeWith yL_row cL_row 5 (some .int) [(0, 10, 13, 13)] :: wG
abbrev cL_poke : ByteArray := method_17_code
abbrev yL_poke : MethodName := ⟨"RecordTimesLaw", "poke", "(LRecordTimes;III)I"⟩
abbrev wsL_poke : List Cond := Cond.codeWith yL_poke cL_poke 5 (some .int) [(0, 7, 10, 13), (0, 7, 14, 15), (0, 7, 18, 37)] :: wG
abbrev cL_count : ByteArray := method_18_code
abbrev yL_count : MethodName := ⟨"RecordTimesLaw", "count", "(LRecordTimes;I[J)I"⟩
abbrev wsL_count : List Cond := Cond.codeWith yL_count cL_count 4 (some .int) [(0, 9, 12, 13)] :: wG
abbrev cL_law : ByteArray := code
theorem p_0 : Cond.selects "RecordTimes$Line" ⟨"RecordTimes$Line", "bytesBefore", "(II)I"⟩ ⟨"RecordTimes$Line", "bytesBefore", "(II)I"⟩ ∈ wG := wG_of (List.mem_of_getElem? (i := 0) (by decide +kernel)) (by decide +kernel)
theorem p_1 : Cond.selects "RecordTimes$Slots" ⟨"RecordTimes$Slots", "shiftOf", "(II)I"⟩ ⟨"RecordTimes$Slots", "shiftOf", "(II)I"⟩ ∈ wG := wG_of (List.mem_of_getElem? (i := 1) (by decide +kernel)) (by decide +kernel)
theorem p_2 : Cond.selects "java/lang/Throwable" ⟨"java/lang/Throwable", "fillInStackTrace", "(I)Ljava/lang/Throwable;"⟩ ⟨"java/lang/Throwable", "fillInStackTrace", "(I)Ljava/lang/Throwable;"⟩ ∈ wG := wG_of (List.mem_of_getElem? (i := 2) (by decide +kernel)) (by decide +kernel)
theorem p_3 : Cond.selects "RecordTimes$Line" ⟨"RecordTimes$Line", "settle", "(I)V"⟩ ⟨"RecordTimes$Line", "settle", "(I)V"⟩ ∈ wG := wG_of (List.mem_of_getElem? (i := 3) (by decide +kernel)) (by decide +kernel)
theorem p_4 : Cond.selects "RecordTimes$Line" ⟨"RecordTimes$Line", "isBefore", "(II)Z"⟩ ⟨"RecordTimes$Line", "isBefore", "(II)Z"⟩ ∈ wG := wG_of (List.mem_of_getElem? (i := 4) (by decide +kernel)) (by decide +kernel)
theorem p_5 : Cond.selects "RecordTimes" ⟨"RecordTimes", "checkSlot", "(I)V"⟩ ⟨"RecordTimes", "checkSlot", "(I)V"⟩ ∈ wG := wG_of (List.mem_of_getElem? (i := 5) (by decide +kernel)) (by decide +kernel)
theorem p_6 : Cond.selects "RecordTimes" ⟨"RecordTimes", "checkThere", "(I)V"⟩ ⟨"RecordTimes", "checkThere", "(I)V"⟩ ∈ wG := wG_of (List.mem_of_getElem? (i := 6) (by decide +kernel)) (by decide +kernel)
theorem p_7 : Cond.selects "RecordTimesModel" ⟨"RecordTimesModel", "throwing", "(ZZZ)Z"⟩ ⟨"RecordTimesModel", "throwing", "(ZZZ)Z"⟩ ∈ wG := wG_of (List.mem_of_getElem? (i := 7) (by decide +kernel)) (by decide +kernel)
theorem p_8 : Cond.selects "RecordTimesModel" ⟨"RecordTimesModel", "sumOf", "(I)I"⟩ ⟨"RecordTimesModel", "sumOf", "(I)I"⟩ ∈ wG := wG_of (List.mem_of_getElem? (i := 8) (by decide +kernel)) (by decide +kernel)
theorem p_9 : Cond.selects "RecordTimesModel" ⟨"RecordTimesModel", "offsetOf", "(I)I"⟩ ⟨"RecordTimesModel", "offsetOf", "(I)I"⟩ ∈ wG := wG_of (List.mem_of_getElem? (i := 9) (by decide +kernel)) (by decide +kernel)
theorem p_10 : Cond.selects "RecordTimesModel" ⟨"RecordTimesModel", "firstMark", "(I)I"⟩ ⟨"RecordTimesModel", "firstMark", "(I)I"⟩ ∈ wG := wG_of (List.mem_of_getElem? (i := 10) (by decide +kernel)) (by decide +kernel)
theorem p_11 : Cond.selects "RecordTimesModel" ⟨"RecordTimesModel", "found", "(IIIII)I"⟩ ⟨"RecordTimesModel", "found", "(IIIII)I"⟩ ∈ wG := wG_of (List.mem_of_getElem? (i := 11) (by decide +kernel)) (by decide +kernel)
theorem p_12 : Cond.selects "RecordTimesModel" ⟨"RecordTimesModel", "fits", "(IIIII)Z"⟩ ⟨"RecordTimesModel", "fits", "(IIIII)Z"⟩ ∈ wG := wG_of (List.mem_of_getElem? (i := 12) (by decide +kernel)) (by decide +kernel)
theorem p_13 : Cond.selects "RecordTimesModel" ⟨"RecordTimesModel", "within", "(III)I"⟩ ⟨"RecordTimesModel", "within", "(III)I"⟩ ∈ wG := wG_of (List.mem_of_getElem? (i := 13) (by decide +kernel)) (by decide +kernel)
theorem p_14 : Cond.selects "RecordTimesModel" ⟨"RecordTimesModel", "begin", "(I)I"⟩ ⟨"RecordTimesModel", "begin", "(I)I"⟩ ∈ wG := wG_of (List.mem_of_getElem? (i := 14) (by decide +kernel)) (by decide +kernel)
theorem p_15 : Cond.selects "RecordTimesModel" ⟨"RecordTimesModel", "goesAhead", "(II)Z"⟩ ⟨"RecordTimesModel", "goesAhead", "(II)Z"⟩ ∈ wG := wG_of (List.mem_of_getElem? (i := 15) (by decide +kernel)) (by decide +kernel)
theorem p_16 : Cond.selects "RecordTimesModel" ⟨"RecordTimesModel", "isSlot", "(I)Z"⟩ ⟨"RecordTimesModel", "isSlot", "(I)Z"⟩ ∈ wG := wG_of (List.mem_of_getElem? (i := 16) (by decide +kernel)) (by decide +kernel)
theorem p_17 : Cond.selects "RecordTimesModel" ⟨"RecordTimesModel", "isGone", "(I)Z"⟩ ⟨"RecordTimesModel", "isGone", "(I)Z"⟩ ∈ wG := wG_of (List.mem_of_getElem? (i := 17) (by decide +kernel)) (by decide +kernel)
theorem p_18 : Cond.selects "RecordTimesModel" ⟨"RecordTimesModel", "sumWithin", "(IIII)I"⟩ ⟨"RecordTimesModel", "sumWithin", "(IIII)I"⟩ ∈ wG := wG_of (List.mem_of_getElem? (i := 18) (by decide +kernel)) (by decide +kernel)
theorem q_0 : (Jvm.Cond.initialized "RecordTimesLaw") ∈ wG := wG_of (List.mem_of_getElem? (i := 19) (by decide +kernel)) (by decide +kernel)
theorem q_1 : (Jvm.Cond.initialized "RecordTimes") ∈ wG := wG_of (List.mem_of_getElem? (i := 20) (by decide +kernel)) (by decide +kernel)
theorem q_2 : (Jvm.Cond.initialized "RecordTimes$Slots") ∈ wG := wG_of (List.mem_of_getElem? (i := 21) (by decide +kernel)) (by decide +kernel)
theorem q_3 : (Jvm.Cond.initialized "RecordTimes$Marks") ∈ wG := wG_of (List.mem_of_getElem? (i := 22) (by decide +kernel)) (by decide +kernel)
theorem q_4 : (Jvm.Cond.initialized "RecordTimes$Line") ∈ wG := wG_of (List.mem_of_getElem? (i := 23) (by decide +kernel)) (by decide +kernel)
theorem q_5 : (Jvm.Cond.initialized "RecordTimes$Certificates") ∈ wG := wG_of (List.mem_of_getElem? (i := 24) (by decide +kernel)) (by decide +kernel)
theorem q_6 : (Jvm.Cond.initialized "RecordTimes$Listeners") ∈ wG := wG_of (List.mem_of_getElem? (i := 25) (by decide +kernel)) (by decide +kernel)
theorem q_7 : (Jvm.Cond.initialized "RecordTimesModel") ∈ wG := wG_of (List.mem_of_getElem? (i := 26) (by decide +kernel)) (by decide +kernel)
theorem q_8 : (Jvm.Cond.initialized "java/lang/Throwable") ∈ wG := wG_of (List.mem_of_getElem? (i := 27) (by decide +kernel)) (by decide +kernel)
theorem q_9 : (Jvm.Cond.initialized "java/lang/Exception") ∈ wG := wG_of (List.mem_of_getElem? (i := 28) (by decide +kernel)) (by decide +kernel)
theorem q_10 : (Jvm.Cond.initialized "java/lang/RuntimeException") ∈ wG := wG_of (List.mem_of_getElem? (i := 29) (by decide +kernel)) (by decide +kernel)
theorem q_11 : (Jvm.Cond.initialized "java/lang/IllegalArgumentException") ∈ wG := wG_of (List.mem_of_getElem? (i := 30) (by decide +kernel)) (by decide +kernel)
theorem q_12 : (Jvm.Cond.initialized "java/lang/IndexOutOfBoundsException") ∈ wG := wG_of (List.mem_of_getElem? (i := 31) (by decide +kernel)) (by decide +kernel)
theorem q_13 : (Jvm.Cond.initialized "java/lang/UnsupportedOperationException") ∈ wG := wG_of (List.mem_of_getElem? (i := 32) (by decide +kernel)) (by decide +kernel)
theorem q_14 : (Jvm.Cond.initialized "java/lang/Math") ∈ wG := wG_of (List.mem_of_getElem? (i := 33) (by decide +kernel)) (by decide +kernel)
theorem q_15 : (Jvm.Cond.initialized "java/lang/IllegalStateException") ∈ wG := wG_of (List.mem_of_getElem? (i := 34) (by decide +kernel)) (by decide +kernel)
theorem q_16 : (Jvm.Cond.classLink "RecordTimesLaw" (8 : Nat) "RecordTimes") ∈ wG := wG_of (List.mem_of_getElem? (i := 35) (by decide +kernel)) (by decide +kernel)
theorem q_17 : (Jvm.Cond.instantiable "RecordTimes" (6 : Nat)) ∈ wG := wG_of (List.mem_of_getElem? (i := 36) (by decide +kernel)) (by decide +kernel)
theorem q_18 : (Jvm.Cond.methodLink "RecordTimesLaw" (73 : Nat) ({ cls := "RecordTimes", name := "<init>", desc := "()V" } : Jvm.MethodName)) ∈ wG := wG_of (List.mem_of_getElem? (i := 37) (by decide +kernel)) (by decide +kernel)
theorem q_19 : (Jvm.Cond.instanceMethod ({ cls := "RecordTimes", name := "<init>", desc := "()V" } : Jvm.MethodName)) ∈ wG := wG_of (List.mem_of_getElem? (i := 38) (by decide +kernel)) (by decide +kernel)
theorem q_20 : (Jvm.Cond.code ({ cls := "RecordTimes", name := "<init>", desc := "()V" } : Jvm.MethodName) prog_1_method_1_code (1 : Nat) (Option.none : Option Jvm.ClassFile.FieldType)) ∈ wG := wG_of (List.mem_of_getElem? (i := 39) (by decide +kernel)) (by decide +kernel)
theorem q_21 : (Jvm.Cond.methodLink "RecordTimes" (1 : Nat) ({ cls := "java/lang/Object", name := "<init>", desc := "()V" } : Jvm.MethodName)) ∈ wG := wG_of (List.mem_of_getElem? (i := 40) (by decide +kernel)) (by decide +kernel)
theorem q_22 : (Jvm.Cond.instanceMethod ({ cls := "java/lang/Object", name := "<init>", desc := "()V" } : Jvm.MethodName)) ∈ wG := wG_of (List.mem_of_getElem? (i := 41) (by decide +kernel)) (by decide +kernel)
theorem q_23 : (Jvm.Cond.code ({ cls := "java/lang/Object", name := "<init>", desc := "()V" } : Jvm.MethodName) object_method_1_code (1 : Nat) (Option.none : Option Jvm.ClassFile.FieldType)) ∈ wG := wG_of (List.mem_of_getElem? (i := 42) (by decide +kernel)) (by decide +kernel)
theorem q_24 : (Jvm.Cond.classLink "RecordTimes" (7 : Nat) "RecordTimes$Slots") ∈ wG := wG_of (List.mem_of_getElem? (i := 43) (by decide +kernel)) (by decide +kernel)
theorem q_25 : (Jvm.Cond.instantiable "RecordTimes$Slots" (9 : Nat)) ∈ wG := wG_of (List.mem_of_getElem? (i := 44) (by decide +kernel)) (by decide +kernel)
theorem q_27 : (Jvm.Cond.instanceMethod ({ cls := "RecordTimes$Slots", name := "<init>", desc := "()V" } : Jvm.MethodName)) ∈ wG := wG_of (List.mem_of_getElem? (i := 46) (by decide +kernel)) (by decide +kernel)
theorem q_28 : (Jvm.Cond.code ({ cls := "RecordTimes$Slots", name := "<init>", desc := "()V" } : Jvm.MethodName) prog_6_method_1_code (1 : Nat) (Option.none : Option Jvm.ClassFile.FieldType)) ∈ wG := wG_of (List.mem_of_getElem? (i := 47) (by decide +kernel)) (by decide +kernel)
theorem q_29 : (Jvm.Cond.methodLink "RecordTimes$Slots" (3 : Nat) ({ cls := "java/lang/Object", name := "<init>", desc := "()V" } : Jvm.MethodName)) ∈ wG := wG_of (List.mem_of_getElem? (i := 48) (by decide +kernel)) (by decide +kernel)
theorem q_30 : (Jvm.Cond.fieldLink "RecordTimes$Slots" (9 : Nat) "RecordTimes$Slots" "source" "[I") ∈ wG := wG_of (List.mem_of_getElem? (i := 49) (by decide +kernel)) (by decide +kernel)
theorem q_31 : (Jvm.Cond.fieldLink "RecordTimes$Line" (36 : Nat) "RecordTimes$Slots" "source" "[I") ∈ wG := wG_of (List.mem_of_getElem? (i := 50) (by decide +kernel)) (by decide +kernel)
theorem q_32 : (Jvm.Cond.fieldLink "RecordTimes$Slots" (15 : Nat) "RecordTimes$Slots" "clock" "[I") ∈ wG := wG_of (List.mem_of_getElem? (i := 51) (by decide +kernel)) (by decide +kernel)
theorem q_33 : (Jvm.Cond.fieldLink "RecordTimes$Line" (31 : Nat) "RecordTimes$Slots" "clock" "[I") ∈ wG := wG_of (List.mem_of_getElem? (i := 52) (by decide +kernel)) (by decide +kernel)
theorem q_34 : (Jvm.Cond.fieldLink "RecordTimes$Slots" (18 : Nat) "RecordTimes$Slots" "length" "[I") ∈ wG := wG_of (List.mem_of_getElem? (i := 53) (by decide +kernel)) (by decide +kernel)
theorem q_35 : (Jvm.Cond.fieldLink "RecordTimes$Line" (61 : Nat) "RecordTimes$Slots" "length" "[I") ∈ wG := wG_of (List.mem_of_getElem? (i := 54) (by decide +kernel)) (by decide +kernel)
theorem q_36 : (Jvm.Cond.fieldLink "RecordTimes" (206 : Nat) "RecordTimes$Slots" "length" "[I") ∈ wG := wG_of (List.mem_of_getElem? (i := 55) (by decide +kernel)) (by decide +kernel)
theorem q_37 : (Jvm.Cond.fieldLink "RecordTimes$Slots" (21 : Nat) "RecordTimes$Slots" "bytes" "[J") ∈ wG := wG_of (List.mem_of_getElem? (i := 56) (by decide +kernel)) (by decide +kernel)
theorem q_38 : (Jvm.Cond.fieldLink "RecordTimes$Slots" (25 : Nat) "RecordTimes$Slots" "unit" "[I") ∈ wG := wG_of (List.mem_of_getElem? (i := 57) (by decide +kernel)) (by decide +kernel)
theorem q_39 : (Jvm.Cond.fieldLink "RecordTimes$Slots" (28 : Nat) "RecordTimes$Slots" "incident" "[I") ∈ wG := wG_of (List.mem_of_getElem? (i := 58) (by decide +kernel)) (by decide +kernel)
theorem q_40 : (Jvm.Cond.fieldLink "RecordTimes" (144 : Nat) "RecordTimes$Slots" "incident" "[I") ∈ wG := wG_of (List.mem_of_getElem? (i := 59) (by decide +kernel)) (by decide +kernel)
theorem q_41 : (Jvm.Cond.fieldLink "RecordTimes$Slots" (31 : Nat) "RecordTimes$Slots" "keptSum" "[I") ∈ wG := wG_of (List.mem_of_getElem? (i := 60) (by decide +kernel)) (by decide +kernel)
theorem q_42 : (Jvm.Cond.fieldLink "RecordTimes" (155 : Nat) "RecordTimes$Slots" "keptSum" "[I") ∈ wG := wG_of (List.mem_of_getElem? (i := 61) (by decide +kernel)) (by decide +kernel)
theorem q_43 : (Jvm.Cond.fieldLink "RecordTimes$Slots" (34 : Nat) "RecordTimes$Slots" "there" "[Z") ∈ wG := wG_of (List.mem_of_getElem? (i := 62) (by decide +kernel)) (by decide +kernel)
theorem q_44 : (Jvm.Cond.fieldLink "RecordTimes" (149 : Nat) "RecordTimes$Slots" "there" "[Z") ∈ wG := wG_of (List.mem_of_getElem? (i := 63) (by decide +kernel)) (by decide +kernel)
theorem q_45 : (Jvm.Cond.fieldLink "RecordTimes$Slots" (38 : Nat) "RecordTimes$Slots" "made" "I") ∈ wG := wG_of (List.mem_of_getElem? (i := 64) (by decide +kernel)) (by decide +kernel)
theorem q_46 : (Jvm.Cond.fieldLink "RecordTimes" (70 : Nat) "RecordTimes$Slots" "made" "I") ∈ wG := wG_of (List.mem_of_getElem? (i := 65) (by decide +kernel)) (by decide +kernel)
theorem q_66 : (Jvm.Cond.arrayClass Jvm.ClassFile.FieldType.int) ∈ wG := wG_of (List.mem_of_getElem? (i := 85) (by decide +kernel)) (by decide +kernel)
theorem q_67 : (Jvm.Cond.arrayClass Jvm.ClassFile.FieldType.long) ∈ wG := wG_of (List.mem_of_getElem? (i := 86) (by decide +kernel)) (by decide +kernel)
theorem q_68 : (Jvm.Cond.arrayClass Jvm.ClassFile.FieldType.boolean) ∈ wG := wG_of (List.mem_of_getElem? (i := 87) (by decide +kernel)) (by decide +kernel)
theorem q_69 : (Jvm.Cond.classLink "RecordTimes" (16 : Nat) "RecordTimes$Marks") ∈ wG := wG_of (List.mem_of_getElem? (i := 88) (by decide +kernel)) (by decide +kernel)
theorem q_70 : (Jvm.Cond.instantiable "RecordTimes$Marks" (4 : Nat)) ∈ wG := wG_of (List.mem_of_getElem? (i := 89) (by decide +kernel)) (by decide +kernel)
theorem q_71 : (Jvm.Cond.methodLink "RecordTimes" (18 : Nat) ({ cls := "RecordTimes$Marks", name := "<init>", desc := "()V" } : Jvm.MethodName)) ∈ wG := wG_of (List.mem_of_getElem? (i := 90) (by decide +kernel)) (by decide +kernel)
theorem q_72 : (Jvm.Cond.instanceMethod ({ cls := "RecordTimes$Marks", name := "<init>", desc := "()V" } : Jvm.MethodName)) ∈ wG := wG_of (List.mem_of_getElem? (i := 91) (by decide +kernel)) (by decide +kernel)
theorem q_73 : (Jvm.Cond.code ({ cls := "RecordTimes$Marks", name := "<init>", desc := "()V" } : Jvm.MethodName) prog_5_method_1_code (2 : Nat) (Option.none : Option Jvm.ClassFile.FieldType)) ∈ wG := wG_of (List.mem_of_getElem? (i := 92) (by decide +kernel)) (by decide +kernel)
theorem q_74 : (Jvm.Cond.methodLink "RecordTimes$Marks" (3 : Nat) ({ cls := "java/lang/Object", name := "<init>", desc := "()V" } : Jvm.MethodName)) ∈ wG := wG_of (List.mem_of_getElem? (i := 93) (by decide +kernel)) (by decide +kernel)
theorem q_75 : (Jvm.Cond.fieldLink "RecordTimes$Marks" (9 : Nat) "RecordTimes$Marks" "source" "[I") ∈ wG := wG_of (List.mem_of_getElem? (i := 94) (by decide +kernel)) (by decide +kernel)
theorem q_76 : (Jvm.Cond.fieldLink "RecordTimes$Marks" (15 : Nat) "RecordTimes$Marks" "difference" "[I") ∈ wG := wG_of (List.mem_of_getElem? (i := 95) (by decide +kernel)) (by decide +kernel)
theorem q_77 : (Jvm.Cond.fieldLink "RecordTimes$Marks" (18 : Nat) "RecordTimes$Marks" "first" "[I") ∈ wG := wG_of (List.mem_of_getElem? (i := 96) (by decide +kernel)) (by decide +kernel)
theorem q_78 : (Jvm.Cond.fieldLink "RecordTimes" (92 : Nat) "RecordTimes$Marks" "first" "[I") ∈ wG := wG_of (List.mem_of_getElem? (i := 97) (by decide +kernel)) (by decide +kernel)
theorem q_79 : (Jvm.Cond.fieldLink "RecordTimes$Marks" (21 : Nat) "RecordTimes$Marks" "made" "I") ∈ wG := wG_of (List.mem_of_getElem? (i := 98) (by decide +kernel)) (by decide +kernel)
theorem q_80 : (Jvm.Cond.fieldLink "RecordTimes" (86 : Nat) "RecordTimes$Marks" "made" "I") ∈ wG := wG_of (List.mem_of_getElem? (i := 99) (by decide +kernel)) (by decide +kernel)
theorem q_90 : (Jvm.Cond.classLink "RecordTimes" (23 : Nat) "RecordTimes$Line") ∈ wG := wG_of (List.mem_of_getElem? (i := 109) (by decide +kernel)) (by decide +kernel)
theorem q_91 : (Jvm.Cond.instantiable "RecordTimes$Line" (4 : Nat)) ∈ wG := wG_of (List.mem_of_getElem? (i := 110) (by decide +kernel)) (by decide +kernel)
theorem q_92 : (Jvm.Cond.methodLink "RecordTimes" (25 : Nat) ({ cls := "RecordTimes$Line", name := "<init>", desc := "(LRecordTimes$Slots;LRecordTimes$Marks;)V" } : Jvm.MethodName)) ∈ wG := wG_of (List.mem_of_getElem? (i := 111) (by decide +kernel)) (by decide +kernel)
theorem q_93 : (Jvm.Cond.instanceMethod ({ cls := "RecordTimes$Line", name := "<init>", desc := "(LRecordTimes$Slots;LRecordTimes$Marks;)V" } : Jvm.MethodName)) ∈ wG := wG_of (List.mem_of_getElem? (i := 112) (by decide +kernel)) (by decide +kernel)
theorem q_94 : (Jvm.Cond.code ({ cls := "RecordTimes$Line", name := "<init>", desc := "(LRecordTimes$Slots;LRecordTimes$Marks;)V" } : Jvm.MethodName) prog_3_method_1_code (3 : Nat) (Option.none : Option Jvm.ClassFile.FieldType)) ∈ wG := wG_of (List.mem_of_getElem? (i := 113) (by decide +kernel)) (by decide +kernel)
theorem q_95 : (Jvm.Cond.methodLink "RecordTimes$Line" (3 : Nat) ({ cls := "java/lang/Object", name := "<init>", desc := "()V" } : Jvm.MethodName)) ∈ wG := wG_of (List.mem_of_getElem? (i := 114) (by decide +kernel)) (by decide +kernel)
theorem q_96 : (Jvm.Cond.fieldLink "RecordTimes$Line" (9 : Nat) "RecordTimes$Line" "order" "[I") ∈ wG := wG_of (List.mem_of_getElem? (i := 115) (by decide +kernel)) (by decide +kernel)
theorem q_97 : (Jvm.Cond.fieldLink "RecordTimes" (112 : Nat) "RecordTimes$Line" "order" "[I") ∈ wG := wG_of (List.mem_of_getElem? (i := 116) (by decide +kernel)) (by decide +kernel)
theorem q_98 : (Jvm.Cond.fieldLink "RecordTimes$Line" (23 : Nat) "RecordTimes$Line" "length" "I") ∈ wG := wG_of (List.mem_of_getElem? (i := 117) (by decide +kernel)) (by decide +kernel)
theorem q_99 : (Jvm.Cond.fieldLink "RecordTimes" (109 : Nat) "RecordTimes$Line" "length" "I") ∈ wG := wG_of (List.mem_of_getElem? (i := 118) (by decide +kernel)) (by decide +kernel)
theorem q_100 : (Jvm.Cond.fieldLink "RecordTimes$Line" (15 : Nat) "RecordTimes$Line" "slots" "LRecordTimes$Slots;") ∈ wG := wG_of (List.mem_of_getElem? (i := 119) (by decide +kernel)) (by decide +kernel)
theorem q_101 : (Jvm.Cond.fieldLink "RecordTimes$Line" (19 : Nat) "RecordTimes$Line" "marks" "LRecordTimes$Marks;") ∈ wG := wG_of (List.mem_of_getElem? (i := 120) (by decide +kernel)) (by decide +kernel)
theorem q_111 : (Jvm.Cond.classLink "RecordTimes" (32 : Nat) "RecordTimes$Certificates") ∈ wG := wG_of (List.mem_of_getElem? (i := 130) (by decide +kernel)) (by decide +kernel)
theorem q_112 : (Jvm.Cond.instantiable "RecordTimes$Certificates" (4 : Nat)) ∈ wG := wG_of (List.mem_of_getElem? (i := 131) (by decide +kernel)) (by decide +kernel)
theorem q_114 : (Jvm.Cond.instanceMethod ({ cls := "RecordTimes$Certificates", name := "<init>", desc := "()V" } : Jvm.MethodName)) ∈ wG := wG_of (List.mem_of_getElem? (i := 133) (by decide +kernel)) (by decide +kernel)
theorem q_115 : (Jvm.Cond.code ({ cls := "RecordTimes$Certificates", name := "<init>", desc := "()V" } : Jvm.MethodName) prog_2_method_1_code (1 : Nat) (Option.none : Option Jvm.ClassFile.FieldType)) ∈ wG := wG_of (List.mem_of_getElem? (i := 134) (by decide +kernel)) (by decide +kernel)
theorem q_116 : (Jvm.Cond.methodLink "RecordTimes$Certificates" (3 : Nat) ({ cls := "java/lang/Object", name := "<init>", desc := "()V" } : Jvm.MethodName)) ∈ wG := wG_of (List.mem_of_getElem? (i := 135) (by decide +kernel)) (by decide +kernel)
theorem q_117 : (Jvm.Cond.fieldLink "RecordTimes$Certificates" (9 : Nat) "RecordTimes$Certificates" "slot" "[I") ∈ wG := wG_of (List.mem_of_getElem? (i := 136) (by decide +kernel)) (by decide +kernel)
theorem q_118 : (Jvm.Cond.fieldLink "RecordTimes" (166 : Nat) "RecordTimes$Certificates" "slot" "[I") ∈ wG := wG_of (List.mem_of_getElem? (i := 137) (by decide +kernel)) (by decide +kernel)
theorem q_119 : (Jvm.Cond.fieldLink "RecordTimes$Certificates" (15 : Nat) "RecordTimes$Certificates" "keptSum" "[I") ∈ wG := wG_of (List.mem_of_getElem? (i := 138) (by decide +kernel)) (by decide +kernel)
theorem q_120 : (Jvm.Cond.fieldLink "RecordTimes" (169 : Nat) "RecordTimes$Certificates" "keptSum" "[I") ∈ wG := wG_of (List.mem_of_getElem? (i := 139) (by decide +kernel)) (by decide +kernel)
theorem q_121 : (Jvm.Cond.fieldLink "RecordTimes$Certificates" (18 : Nat) "RecordTimes$Certificates" "lastSum" "[I") ∈ wG := wG_of (List.mem_of_getElem? (i := 140) (by decide +kernel)) (by decide +kernel)
theorem q_122 : (Jvm.Cond.fieldLink "RecordTimes" (170 : Nat) "RecordTimes$Certificates" "lastSum" "[I") ∈ wG := wG_of (List.mem_of_getElem? (i := 141) (by decide +kernel)) (by decide +kernel)
theorem q_123 : (Jvm.Cond.fieldLink "RecordTimes$Certificates" (21 : Nat) "RecordTimes$Certificates" "made" "I") ∈ wG := wG_of (List.mem_of_getElem? (i := 142) (by decide +kernel)) (by decide +kernel)
theorem q_124 : (Jvm.Cond.fieldLink "RecordTimes" (160 : Nat) "RecordTimes$Certificates" "made" "I") ∈ wG := wG_of (List.mem_of_getElem? (i := 143) (by decide +kernel)) (by decide +kernel)
theorem q_134 : (Jvm.Cond.classLink "RecordTimes" (39 : Nat) "RecordTimes$Listeners") ∈ wG := wG_of (List.mem_of_getElem? (i := 153) (by decide +kernel)) (by decide +kernel)
theorem q_135 : (Jvm.Cond.instantiable "RecordTimes$Listeners" (5 : Nat)) ∈ wG := wG_of (List.mem_of_getElem? (i := 154) (by decide +kernel)) (by decide +kernel)
theorem q_137 : (Jvm.Cond.instanceMethod ({ cls := "RecordTimes$Listeners", name := "<init>", desc := "()V" } : Jvm.MethodName)) ∈ wG := wG_of (List.mem_of_getElem? (i := 156) (by decide +kernel)) (by decide +kernel)
theorem q_138 : (Jvm.Cond.code ({ cls := "RecordTimes$Listeners", name := "<init>", desc := "()V" } : Jvm.MethodName) prog_4_method_1_code (1 : Nat) (Option.none : Option Jvm.ClassFile.FieldType)) ∈ wG := wG_of (List.mem_of_getElem? (i := 157) (by decide +kernel)) (by decide +kernel)
theorem q_139 : (Jvm.Cond.methodLink "RecordTimes$Listeners" (3 : Nat) ({ cls := "java/lang/Object", name := "<init>", desc := "()V" } : Jvm.MethodName)) ∈ wG := wG_of (List.mem_of_getElem? (i := 158) (by decide +kernel)) (by decide +kernel)
theorem q_140 : (Jvm.Cond.fieldLink "RecordTimes$Listeners" (9 : Nat) "RecordTimes$Listeners" "person" "[I") ∈ wG := wG_of (List.mem_of_getElem? (i := 159) (by decide +kernel)) (by decide +kernel)
theorem q_141 : (Jvm.Cond.fieldLink "RecordTimes" (197 : Nat) "RecordTimes$Listeners" "person" "[I") ∈ wG := wG_of (List.mem_of_getElem? (i := 160) (by decide +kernel)) (by decide +kernel)
theorem q_142 : (Jvm.Cond.fieldLink "RecordTimes$Listeners" (15 : Nat) "RecordTimes$Listeners" "slot" "[I") ∈ wG := wG_of (List.mem_of_getElem? (i := 161) (by decide +kernel)) (by decide +kernel)
theorem q_143 : (Jvm.Cond.fieldLink "RecordTimes" (200 : Nat) "RecordTimes$Listeners" "slot" "[I") ∈ wG := wG_of (List.mem_of_getElem? (i := 162) (by decide +kernel)) (by decide +kernel)
theorem q_144 : (Jvm.Cond.fieldLink "RecordTimes$Listeners" (18 : Nat) "RecordTimes$Listeners" "allowed" "[Z") ∈ wG := wG_of (List.mem_of_getElem? (i := 163) (by decide +kernel)) (by decide +kernel)
theorem q_145 : (Jvm.Cond.fieldLink "RecordTimes" (201 : Nat) "RecordTimes$Listeners" "allowed" "[Z") ∈ wG := wG_of (List.mem_of_getElem? (i := 164) (by decide +kernel)) (by decide +kernel)
theorem q_146 : (Jvm.Cond.fieldLink "RecordTimes$Listeners" (25 : Nat) "RecordTimes$Listeners" "rowsEver" "I") ∈ wG := wG_of (List.mem_of_getElem? (i := 165) (by decide +kernel)) (by decide +kernel)
theorem q_147 : (Jvm.Cond.fieldLink "RecordTimes" (216 : Nat) "RecordTimes$Listeners" "rowsEver" "I") ∈ wG := wG_of (List.mem_of_getElem? (i := 166) (by decide +kernel)) (by decide +kernel)
theorem q_148 : (Jvm.Cond.fieldLink "RecordTimes$Listeners" (22 : Nat) "RecordTimes$Listeners" "rights" "[Z") ∈ wG := wG_of (List.mem_of_getElem? (i := 167) (by decide +kernel)) (by decide +kernel)
theorem q_160 : (Jvm.Cond.fieldLink "RecordTimes" (10 : Nat) "RecordTimes" "slots" "LRecordTimes$Slots;") ∈ wG := wG_of (List.mem_of_getElem? (i := 179) (by decide +kernel)) (by decide +kernel)
theorem q_161 : (Jvm.Cond.fieldLink "RecordTimes" (19 : Nat) "RecordTimes" "marks" "LRecordTimes$Marks;") ∈ wG := wG_of (List.mem_of_getElem? (i := 180) (by decide +kernel)) (by decide +kernel)
theorem q_162 : (Jvm.Cond.fieldLink "RecordTimes" (28 : Nat) "RecordTimes" "line" "LRecordTimes$Line;") ∈ wG := wG_of (List.mem_of_getElem? (i := 181) (by decide +kernel)) (by decide +kernel)
theorem q_163 : (Jvm.Cond.fieldLink "RecordTimes" (35 : Nat) "RecordTimes" "certificates" "LRecordTimes$Certificates;") ∈ wG := wG_of (List.mem_of_getElem? (i := 182) (by decide +kernel)) (by decide +kernel)
theorem q_164 : (Jvm.Cond.fieldLink "RecordTimes" (42 : Nat) "RecordTimes" "listeners" "LRecordTimes$Listeners;") ∈ wG := wG_of (List.mem_of_getElem? (i := 183) (by decide +kernel)) (by decide +kernel)
theorem q_165 : (Jvm.Cond.fieldLink "RecordTimes" (46 : Nat) "RecordTimes" "held" "[Z") ∈ wG := wG_of (List.mem_of_getElem? (i := 184) (by decide +kernel)) (by decide +kernel)
theorem q_179 : (Jvm.Cond.methodLink "RecordTimesLaw" (113 : Nat) ({ cls := "RecordTimes", name := "size", desc := "(II)I" } : Jvm.MethodName)) ∈ wG := wG_of (List.mem_of_getElem? (i := 198) (by decide +kernel)) (by decide +kernel)
theorem q_180 : (Jvm.Cond.instanceMethod ({ cls := "RecordTimes", name := "size", desc := "(II)I" } : Jvm.MethodName)) ∈ wG := wG_of (List.mem_of_getElem? (i := 199) (by decide +kernel)) (by decide +kernel)
theorem q_181 : (Jvm.Cond.selects "RecordTimes" ({ cls := "RecordTimes", name := "size", desc := "(II)I" } : Jvm.MethodName) ({ cls := "RecordTimes", name := "size", desc := "(II)I" } : Jvm.MethodName)) ∈ wG := wG_of (List.mem_of_getElem? (i := 200) (by decide +kernel)) (by decide +kernel)
theorem q_182 : (Jvm.Cond.code ({ cls := "RecordTimes", name := "size", desc := "(II)I" } : Jvm.MethodName) prog_1_method_10_code (5 : Nat) (Option.some Jvm.ClassFile.FieldType.int)) ∈ wG := wG_of (List.mem_of_getElem? (i := 201) (by decide +kernel)) (by decide +kernel)
theorem q_183 : (Jvm.Cond.methodLink "RecordTimes" (119 : Nat) ({ cls := "RecordTimes$Line", name := "bytesWithin", desc := "(III)I" } : Jvm.MethodName)) ∈ wG := wG_of (List.mem_of_getElem? (i := 202) (by decide +kernel)) (by decide +kernel)
theorem q_184 : (Jvm.Cond.instanceMethod ({ cls := "RecordTimes$Line", name := "bytesWithin", desc := "(III)I" } : Jvm.MethodName)) ∈ wG := wG_of (List.mem_of_getElem? (i := 203) (by decide +kernel)) (by decide +kernel)
theorem q_185 : (Jvm.Cond.selects "RecordTimes$Line" ({ cls := "RecordTimes$Line", name := "bytesWithin", desc := "(III)I" } : Jvm.MethodName) ({ cls := "RecordTimes$Line", name := "bytesWithin", desc := "(III)I" } : Jvm.MethodName)) ∈ wG := wG_of (List.mem_of_getElem? (i := 204) (by decide +kernel)) (by decide +kernel)
theorem q_186 : (Jvm.Cond.code ({ cls := "RecordTimes$Line", name := "bytesWithin", desc := "(III)I" } : Jvm.MethodName) prog_3_method_6_code (4 : Nat) (Option.some Jvm.ClassFile.FieldType.int)) ∈ wG := wG_of (List.mem_of_getElem? (i := 205) (by decide +kernel)) (by decide +kernel)
theorem q_187 : (Jvm.Cond.methodLink "RecordTimes$Line" (45 : Nat) ({ cls := "RecordTimes$Line", name := "bytesBefore", desc := "(II)I" } : Jvm.MethodName)) ∈ wG := wG_of (List.mem_of_getElem? (i := 206) (by decide +kernel)) (by decide +kernel)
theorem q_189 : (Jvm.Cond.instanceMethod ({ cls := "RecordTimes$Line", name := "bytesBefore", desc := "(II)I" } : Jvm.MethodName)) ∈ wG := wG_of (List.mem_of_getElem? (i := 208) (by decide +kernel)) (by decide +kernel)
theorem q_190 : (Jvm.Cond.code ({ cls := "RecordTimes$Line", name := "bytesBefore", desc := "(II)I" } : Jvm.MethodName) prog_3_method_8_code (5 : Nat) (Option.some Jvm.ClassFile.FieldType.int)) ∈ wG := wG_of (List.mem_of_getElem? (i := 209) (by decide +kernel)) (by decide +kernel)
theorem q_191 : (Jvm.Cond.methodLink "RecordTimes$Line" (58 : Nat) ({ cls := "RecordTimes$Line", name := "beginOf", desc := "(I)I" } : Jvm.MethodName)) ∈ wG := wG_of (List.mem_of_getElem? (i := 210) (by decide +kernel)) (by decide +kernel)
theorem q_192 : (Jvm.Cond.instanceMethod ({ cls := "RecordTimes$Line", name := "beginOf", desc := "(I)I" } : Jvm.MethodName)) ∈ wG := wG_of (List.mem_of_getElem? (i := 211) (by decide +kernel)) (by decide +kernel)
theorem q_193 : (Jvm.Cond.selects "RecordTimes$Line" ({ cls := "RecordTimes$Line", name := "beginOf", desc := "(I)I" } : Jvm.MethodName) ({ cls := "RecordTimes$Line", name := "beginOf", desc := "(I)I" } : Jvm.MethodName)) ∈ wG := wG_of (List.mem_of_getElem? (i := 212) (by decide +kernel)) (by decide +kernel)
theorem q_194 : (Jvm.Cond.code ({ cls := "RecordTimes$Line", name := "beginOf", desc := "(I)I" } : Jvm.MethodName) prog_3_method_5_code (2 : Nat) (Option.some Jvm.ClassFile.FieldType.int)) ∈ wG := wG_of (List.mem_of_getElem? (i := 213) (by decide +kernel)) (by decide +kernel)
theorem q_195 : (Jvm.Cond.methodLink "RecordTimes$Line" (39 : Nat) ({ cls := "RecordTimes$Marks", name := "offsetOf", desc := "(I)I" } : Jvm.MethodName)) ∈ wG := wG_of (List.mem_of_getElem? (i := 214) (by decide +kernel)) (by decide +kernel)
theorem q_196 : (Jvm.Cond.instanceMethod ({ cls := "RecordTimes$Marks", name := "offsetOf", desc := "(I)I" } : Jvm.MethodName)) ∈ wG := wG_of (List.mem_of_getElem? (i := 215) (by decide +kernel)) (by decide +kernel)
theorem q_197 : (Jvm.Cond.selects "RecordTimes$Marks" ({ cls := "RecordTimes$Marks", name := "offsetOf", desc := "(I)I" } : Jvm.MethodName) ({ cls := "RecordTimes$Marks", name := "offsetOf", desc := "(I)I" } : Jvm.MethodName)) ∈ wG := wG_of (List.mem_of_getElem? (i := 216) (by decide +kernel)) (by decide +kernel)
theorem q_198 : (Jvm.Cond.code ({ cls := "RecordTimes$Marks", name := "offsetOf", desc := "(I)I" } : Jvm.MethodName) prog_5_method_3_code (3 : Nat) (Option.some Jvm.ClassFile.FieldType.int)) ∈ wG := wG_of (List.mem_of_getElem? (i := 217) (by decide +kernel)) (by decide +kernel)
theorem q_199 : (Jvm.Cond.methodLink "RecordTimes$Line" (63 : Nat) ({ cls := "java/lang/Math", name := "min", desc := "(II)I" } : Jvm.MethodName)) ∈ wG := wG_of (List.mem_of_getElem? (i := 218) (by decide +kernel)) (by decide +kernel)
theorem q_200 : (Jvm.Cond.static ({ cls := "java/lang/Math", name := "min", desc := "(II)I" } : Jvm.MethodName)) ∈ wG := wG_of (List.mem_of_getElem? (i := 219) (by decide +kernel)) (by decide +kernel)
theorem q_201 : (Jvm.Cond.code ({ cls := "java/lang/Math", name := "min", desc := "(II)I" } : Jvm.MethodName) prog_13_method_69_code (2 : Nat) (Option.some Jvm.ClassFile.FieldType.int)) ∈ wG := wG_of (List.mem_of_getElem? (i := 220) (by decide +kernel)) (by decide +kernel)
theorem q_202 : (Jvm.Cond.methodLink "RecordTimes$Line" (49 : Nat) ({ cls := "java/lang/Math", name := "max", desc := "(II)I" } : Jvm.MethodName)) ∈ wG := wG_of (List.mem_of_getElem? (i := 221) (by decide +kernel)) (by decide +kernel)
theorem q_203 : (Jvm.Cond.static ({ cls := "java/lang/Math", name := "max", desc := "(II)I" } : Jvm.MethodName)) ∈ wG := wG_of (List.mem_of_getElem? (i := 222) (by decide +kernel)) (by decide +kernel)
theorem q_204 : (Jvm.Cond.code ({ cls := "java/lang/Math", name := "max", desc := "(II)I" } : Jvm.MethodName) prog_13_method_65_code (2 : Nat) (Option.some Jvm.ClassFile.FieldType.int)) ∈ wG := wG_of (List.mem_of_getElem? (i := 223) (by decide +kernel)) (by decide +kernel)
theorem q_205 : (Jvm.Cond.methodLink "RecordTimesLaw" (117 : Nat) ({ cls := "RecordTimes", name := "export", desc := "(II)I" } : Jvm.MethodName)) ∈ wG := wG_of (List.mem_of_getElem? (i := 224) (by decide +kernel)) (by decide +kernel)
theorem q_206 : (Jvm.Cond.instanceMethod ({ cls := "RecordTimes", name := "export", desc := "(II)I" } : Jvm.MethodName)) ∈ wG := wG_of (List.mem_of_getElem? (i := 225) (by decide +kernel)) (by decide +kernel)
theorem q_207 : (Jvm.Cond.selects "RecordTimes" ({ cls := "RecordTimes", name := "export", desc := "(II)I" } : Jvm.MethodName) ({ cls := "RecordTimes", name := "export", desc := "(II)I" } : Jvm.MethodName)) ∈ wG := wG_of (List.mem_of_getElem? (i := 226) (by decide +kernel)) (by decide +kernel)
theorem q_208 : (Jvm.Cond.code ({ cls := "RecordTimes", name := "export", desc := "(II)I" } : Jvm.MethodName) prog_1_method_11_code (5 : Nat) (Option.some Jvm.ClassFile.FieldType.int)) ∈ wG := wG_of (List.mem_of_getElem? (i := 227) (by decide +kernel)) (by decide +kernel)
theorem q_209 : (Jvm.Cond.methodLink "RecordTimes" (135 : Nat) ({ cls := "RecordTimes$Line", name := "sumWithin", desc := "(IIII)I" } : Jvm.MethodName)) ∈ wG := wG_of (List.mem_of_getElem? (i := 228) (by decide +kernel)) (by decide +kernel)
theorem q_210 : (Jvm.Cond.instanceMethod ({ cls := "RecordTimes$Line", name := "sumWithin", desc := "(IIII)I" } : Jvm.MethodName)) ∈ wG := wG_of (List.mem_of_getElem? (i := 229) (by decide +kernel)) (by decide +kernel)
theorem q_211 : (Jvm.Cond.selects "RecordTimes$Line" ({ cls := "RecordTimes$Line", name := "sumWithin", desc := "(IIII)I" } : Jvm.MethodName) ({ cls := "RecordTimes$Line", name := "sumWithin", desc := "(IIII)I" } : Jvm.MethodName)) ∈ wG := wG_of (List.mem_of_getElem? (i := 230) (by decide +kernel)) (by decide +kernel)
theorem q_212 : (Jvm.Cond.code ({ cls := "RecordTimes$Line", name := "sumWithin", desc := "(IIII)I" } : Jvm.MethodName) prog_3_method_7_code (5 : Nat) (Option.some Jvm.ClassFile.FieldType.int)) ∈ wG := wG_of (List.mem_of_getElem? (i := 231) (by decide +kernel)) (by decide +kernel)
theorem q_213 : (Jvm.Cond.methodLink "RecordTimes$Line" (54 : Nat) ({ cls := "RecordTimes$Slots", name := "sumOn", desc := "(IIII)I" } : Jvm.MethodName)) ∈ wG := wG_of (List.mem_of_getElem? (i := 232) (by decide +kernel)) (by decide +kernel)
theorem q_214 : (Jvm.Cond.instanceMethod ({ cls := "RecordTimes$Slots", name := "sumOn", desc := "(IIII)I" } : Jvm.MethodName)) ∈ wG := wG_of (List.mem_of_getElem? (i := 233) (by decide +kernel)) (by decide +kernel)
theorem q_215 : (Jvm.Cond.selects "RecordTimes$Slots" ({ cls := "RecordTimes$Slots", name := "sumOn", desc := "(IIII)I" } : Jvm.MethodName) ({ cls := "RecordTimes$Slots", name := "sumOn", desc := "(IIII)I" } : Jvm.MethodName)) ∈ wG := wG_of (List.mem_of_getElem? (i := 234) (by decide +kernel)) (by decide +kernel)
theorem q_216 : (Jvm.Cond.code ({ cls := "RecordTimes$Slots", name := "sumOn", desc := "(IIII)I" } : Jvm.MethodName) prog_6_method_5_code (9 : Nat) (Option.some Jvm.ClassFile.FieldType.int)) ∈ wG := wG_of (List.mem_of_getElem? (i := 235) (by decide +kernel)) (by decide +kernel)
theorem q_217 : (Jvm.Cond.methodLink "RecordTimes$Slots" (50 : Nat) ({ cls := "RecordTimes$Slots", name := "shiftOf", desc := "(II)I" } : Jvm.MethodName)) ∈ wG := wG_of (List.mem_of_getElem? (i := 236) (by decide +kernel)) (by decide +kernel)
theorem q_219 : (Jvm.Cond.instanceMethod ({ cls := "RecordTimes$Slots", name := "shiftOf", desc := "(II)I" } : Jvm.MethodName)) ∈ wG := wG_of (List.mem_of_getElem? (i := 238) (by decide +kernel)) (by decide +kernel)
theorem q_220 : (Jvm.Cond.code ({ cls := "RecordTimes$Slots", name := "shiftOf", desc := "(II)I" } : Jvm.MethodName) prog_6_method_7_code (3 : Nat) (Option.some Jvm.ClassFile.FieldType.int)) ∈ wG := wG_of (List.mem_of_getElem? (i := 239) (by decide +kernel)) (by decide +kernel)
theorem q_221 : (Jvm.Cond.constant "RecordTimes$Slots" (54 : Nat) (-2048144789 : Int32)) ∈ wG := wG_of (List.mem_of_getElem? (i := 240) (by decide +kernel)) (by decide +kernel)
theorem q_222 : (Jvm.Cond.methodLink "RecordTimesLaw" (146 : Nat) ({ cls := "RecordTimes", name := "verify", desc := "()I" } : Jvm.MethodName)) ∈ wG := wG_of (List.mem_of_getElem? (i := 241) (by decide +kernel)) (by decide +kernel)
theorem q_223 : (Jvm.Cond.instanceMethod ({ cls := "RecordTimes", name := "verify", desc := "()I" } : Jvm.MethodName)) ∈ wG := wG_of (List.mem_of_getElem? (i := 242) (by decide +kernel)) (by decide +kernel)
theorem q_224 : (Jvm.Cond.selects "RecordTimes" ({ cls := "RecordTimes", name := "verify", desc := "()I" } : Jvm.MethodName) ({ cls := "RecordTimes", name := "verify", desc := "()I" } : Jvm.MethodName)) ∈ wG := wG_of (List.mem_of_getElem? (i := 243) (by decide +kernel)) (by decide +kernel)
theorem q_225 : (Jvm.Cond.code ({ cls := "RecordTimes", name := "verify", desc := "()I" } : Jvm.MethodName) prog_1_method_19_code (2 : Nat) (Option.some Jvm.ClassFile.FieldType.int)) ∈ wG := wG_of (List.mem_of_getElem? (i := 244) (by decide +kernel)) (by decide +kernel)
theorem q_226 : (Jvm.Cond.methodLink "RecordTimes" (132 : Nat) ({ cls := "RecordTimes$Slots", name := "sumNow", desc := "(I)I" } : Jvm.MethodName)) ∈ wG := wG_of (List.mem_of_getElem? (i := 245) (by decide +kernel)) (by decide +kernel)
theorem q_227 : (Jvm.Cond.instanceMethod ({ cls := "RecordTimes$Slots", name := "sumNow", desc := "(I)I" } : Jvm.MethodName)) ∈ wG := wG_of (List.mem_of_getElem? (i := 246) (by decide +kernel)) (by decide +kernel)
theorem q_228 : (Jvm.Cond.selects "RecordTimes$Slots" ({ cls := "RecordTimes$Slots", name := "sumNow", desc := "(I)I" } : Jvm.MethodName) ({ cls := "RecordTimes$Slots", name := "sumNow", desc := "(I)I" } : Jvm.MethodName)) ∈ wG := wG_of (List.mem_of_getElem? (i := 247) (by decide +kernel)) (by decide +kernel)
theorem q_229 : (Jvm.Cond.code ({ cls := "RecordTimes$Slots", name := "sumNow", desc := "(I)I" } : Jvm.MethodName) prog_6_method_4_code (2 : Nat) (Option.some Jvm.ClassFile.FieldType.int)) ∈ wG := wG_of (List.mem_of_getElem? (i := 248) (by decide +kernel)) (by decide +kernel)
theorem q_230 : (Jvm.Cond.methodLink "RecordTimes$Slots" (46 : Nat) ({ cls := "RecordTimes$Slots", name := "sumOn", desc := "(IIII)I" } : Jvm.MethodName)) ∈ wG := wG_of (List.mem_of_getElem? (i := 249) (by decide +kernel)) (by decide +kernel)
theorem q_231 : (Jvm.Cond.methodLink "RecordTimesLaw" (79 : Nat) ({ cls := "RecordTimesLaw", name := "slot", desc := "(LRecordTimes;IIIJII[J)I" } : Jvm.MethodName)) ∈ wG := wG_of (List.mem_of_getElem? (i := 250) (by decide +kernel)) (by decide +kernel)
theorem q_232 : (Jvm.Cond.static ({ cls := "RecordTimesLaw", name := "slot", desc := "(LRecordTimes;IIIJII[J)I" } : Jvm.MethodName)) ∈ wG := wG_of (List.mem_of_getElem? (i := 251) (by decide +kernel)) (by decide +kernel)
theorem q_233 : (Jvm.Cond.codeWith ({ cls := "RecordTimesLaw", name := "slot", desc := "(LRecordTimes;IIIJII[J)I" } : Jvm.MethodName) method_3_code (10 : Nat) (Option.some Jvm.ClassFile.FieldType.int) [((0 : Nat), (18 : Nat), (21 : Nat), (13 : Nat)), ((0 : Nat), (18 : Nat), (25 : Nat), (15 : Nat)), ((0 : Nat), (18 : Nat), (29 : Nat), (17 : Nat))]) ∈ wG := wG_of (List.mem_of_getElem? (i := 252) (by decide +kernel)) (by decide +kernel)
theorem q_234 : (Jvm.Cond.classLink "RecordTimesLaw" (13 : Nat) "java/lang/IllegalArgumentException") ∈ wG := wG_of (List.mem_of_getElem? (i := 253) (by decide +kernel)) (by decide +kernel)
theorem q_235 : (Jvm.Cond.classLink "RecordTimesLaw" (15 : Nat) "java/lang/IndexOutOfBoundsException") ∈ wG := wG_of (List.mem_of_getElem? (i := 254) (by decide +kernel)) (by decide +kernel)
theorem q_236 : (Jvm.Cond.classLink "RecordTimesLaw" (17 : Nat) "java/lang/UnsupportedOperationException") ∈ wG := wG_of (List.mem_of_getElem? (i := 255) (by decide +kernel)) (by decide +kernel)
theorem q_237 : (Jvm.Cond.methodLink "RecordTimesLaw" (7 : Nat) ({ cls := "RecordTimes", name := "slot", desc := "(IIIJII)I" } : Jvm.MethodName)) ∈ wG := wG_of (List.mem_of_getElem? (i := 256) (by decide +kernel)) (by decide +kernel)
theorem q_238 : (Jvm.Cond.instanceMethod ({ cls := "RecordTimes", name := "slot", desc := "(IIIJII)I" } : Jvm.MethodName)) ∈ wG := wG_of (List.mem_of_getElem? (i := 257) (by decide +kernel)) (by decide +kernel)
theorem q_239 : (Jvm.Cond.selects "RecordTimes" ({ cls := "RecordTimes", name := "slot", desc := "(IIIJII)I" } : Jvm.MethodName) ({ cls := "RecordTimes", name := "slot", desc := "(IIIJII)I" } : Jvm.MethodName)) ∈ wG := wG_of (List.mem_of_getElem? (i := 258) (by decide +kernel)) (by decide +kernel)
theorem q_240 : (Jvm.Cond.code ({ cls := "RecordTimes", name := "slot", desc := "(IIIJII)I" } : Jvm.MethodName) prog_1_method_2_code (9 : Nat) (Option.some Jvm.ClassFile.FieldType.int)) ∈ wG := wG_of (List.mem_of_getElem? (i := 259) (by decide +kernel)) (by decide +kernel)
theorem q_241 : (Jvm.Cond.methodLink "RecordTimes" (50 : Nat) ({ cls := "RecordTimes", name := "checkSource", desc := "(I)V" } : Jvm.MethodName)) ∈ wG := wG_of (List.mem_of_getElem? (i := 260) (by decide +kernel)) (by decide +kernel)
theorem q_242 : (Jvm.Cond.static ({ cls := "RecordTimes", name := "checkSource", desc := "(I)V" } : Jvm.MethodName)) ∈ wG := wG_of (List.mem_of_getElem? (i := 261) (by decide +kernel)) (by decide +kernel)
theorem q_243 : (Jvm.Cond.code ({ cls := "RecordTimes", name := "checkSource", desc := "(I)V" } : Jvm.MethodName) prog_1_method_21_code (1 : Nat) (Option.none : Option Jvm.ClassFile.FieldType)) ∈ wG := wG_of (List.mem_of_getElem? (i := 262) (by decide +kernel)) (by decide +kernel)
theorem q_244 : (Jvm.Cond.classLink "RecordTimes" (161 : Nat) "java/lang/IllegalArgumentException") ∈ wG := wG_of (List.mem_of_getElem? (i := 263) (by decide +kernel)) (by decide +kernel)
theorem q_245 : (Jvm.Cond.instantiable "java/lang/IllegalArgumentException" (6 : Nat)) ∈ wG := wG_of (List.mem_of_getElem? (i := 264) (by decide +kernel)) (by decide +kernel)
theorem q_253 : (Jvm.Cond.selects "java/lang/IllegalArgumentException" ({ cls := "java/lang/Throwable", name := "fillInStackTrace", desc := "(I)Ljava/lang/Throwable;" } : Jvm.MethodName) ({ cls := "java/lang/Throwable", name := "fillInStackTrace", desc := "(I)Ljava/lang/Throwable;" } : Jvm.MethodName)) ∈ wG := wG_of (List.mem_of_getElem? (i := 272) (by decide +kernel)) (by decide +kernel)
theorem q_254 : (Jvm.Cond.selects "java/lang/IllegalArgumentException" ({ cls := "java/lang/Throwable", name := "fillInStackTrace", desc := "()Ljava/lang/Throwable;" } : Jvm.MethodName) ({ cls := "java/lang/Throwable", name := "fillInStackTrace", desc := "()Ljava/lang/Throwable;" } : Jvm.MethodName)) ∈ wG := wG_of (List.mem_of_getElem? (i := 273) (by decide +kernel)) (by decide +kernel)
theorem q_265 : (Jvm.Cond.fieldLink "java/lang/Throwable" (198 : Nat) "java/lang/Throwable" "backtrace" "Ljava/lang/Object;") ∈ wG := wG_of (List.mem_of_getElem? (i := 284) (by decide +kernel)) (by decide +kernel)
theorem q_267 : (Jvm.Cond.instanceMethod ({ cls := "java/lang/Throwable", name := "<init>", desc := "()V" } : Jvm.MethodName)) ∈ wG := wG_of (List.mem_of_getElem? (i := 286) (by decide +kernel)) (by decide +kernel)
theorem q_268 : (Jvm.Cond.code ({ cls := "java/lang/Throwable", name := "<init>", desc := "()V" } : Jvm.MethodName) prog_16_method_1_code (1 : Nat) (Option.none : Option Jvm.ClassFile.FieldType)) ∈ wG := wG_of (List.mem_of_getElem? (i := 287) (by decide +kernel)) (by decide +kernel)
theorem q_269 : (Jvm.Cond.methodLink "java/lang/Throwable" (1 : Nat) ({ cls := "java/lang/Object", name := "<init>", desc := "()V" } : Jvm.MethodName)) ∈ wG := wG_of (List.mem_of_getElem? (i := 288) (by decide +kernel)) (by decide +kernel)
theorem q_270 : (Jvm.Cond.fieldLink "java/lang/Throwable" (13 : Nat) "java/lang/Throwable" "UNASSIGNED_STACK" "[Ljava/lang/StackTraceElement;") ∈ wG := wG_of (List.mem_of_getElem? (i := 289) (by decide +kernel)) (by decide +kernel)
theorem q_272 : (Jvm.Cond.fieldLink "java/lang/Throwable" (20 : Nat) "java/lang/Throwable" "SUPPRESSED_SENTINEL" "Ljava/util/List;") ∈ wG := wG_of (List.mem_of_getElem? (i := 291) (by decide +kernel)) (by decide +kernel)
theorem q_274 : (Jvm.Cond.methodLink "java/lang/Throwable" (27 : Nat) ({ cls := "java/lang/Throwable", name := "fillInStackTrace", desc := "()Ljava/lang/Throwable;" } : Jvm.MethodName)) ∈ wG := wG_of (List.mem_of_getElem? (i := 293) (by decide +kernel)) (by decide +kernel)
theorem q_275 : (Jvm.Cond.instanceMethod ({ cls := "java/lang/Throwable", name := "fillInStackTrace", desc := "()Ljava/lang/Throwable;" } : Jvm.MethodName)) ∈ wG := wG_of (List.mem_of_getElem? (i := 294) (by decide +kernel)) (by decide +kernel)
theorem q_277 : (Jvm.Cond.selects "java/lang/IllegalStateException" ({ cls := "java/lang/Throwable", name := "fillInStackTrace", desc := "()Ljava/lang/Throwable;" } : Jvm.MethodName) ({ cls := "java/lang/Throwable", name := "fillInStackTrace", desc := "()Ljava/lang/Throwable;" } : Jvm.MethodName)) ∈ wG := wG_of (List.mem_of_getElem? (i := 296) (by decide +kernel)) (by decide +kernel)
theorem q_278 : (Jvm.Cond.selects "java/lang/IndexOutOfBoundsException" ({ cls := "java/lang/Throwable", name := "fillInStackTrace", desc := "()Ljava/lang/Throwable;" } : Jvm.MethodName) ({ cls := "java/lang/Throwable", name := "fillInStackTrace", desc := "()Ljava/lang/Throwable;" } : Jvm.MethodName)) ∈ wG := wG_of (List.mem_of_getElem? (i := 297) (by decide +kernel)) (by decide +kernel)
theorem q_279 : (Jvm.Cond.selects "java/lang/UnsupportedOperationException" ({ cls := "java/lang/Throwable", name := "fillInStackTrace", desc := "()Ljava/lang/Throwable;" } : Jvm.MethodName) ({ cls := "java/lang/Throwable", name := "fillInStackTrace", desc := "()Ljava/lang/Throwable;" } : Jvm.MethodName)) ∈ wG := wG_of (List.mem_of_getElem? (i := 298) (by decide +kernel)) (by decide +kernel)
theorem q_280 : (Jvm.Cond.codeSync ({ cls := "java/lang/Throwable", name := "fillInStackTrace", desc := "()Ljava/lang/Throwable;" } : Jvm.MethodName) prog_16_method_18_code (1 : Nat) (Option.some (Jvm.ClassFile.FieldType.object "java/lang/Throwable"))) ∈ wG := wG_of (List.mem_of_getElem? (i := 299) (by decide +kernel)) (by decide +kernel)
theorem q_281 : (Jvm.Cond.methodLink "java/lang/Throwable" (202 : Nat) ({ cls := "java/lang/Throwable", name := "fillInStackTrace", desc := "(I)Ljava/lang/Throwable;" } : Jvm.MethodName)) ∈ wG := wG_of (List.mem_of_getElem? (i := 300) (by decide +kernel)) (by decide +kernel)
theorem q_283 : (Jvm.Cond.instanceMethod ({ cls := "java/lang/Throwable", name := "fillInStackTrace", desc := "(I)Ljava/lang/Throwable;" } : Jvm.MethodName)) ∈ wG := wG_of (List.mem_of_getElem? (i := 302) (by decide +kernel)) (by decide +kernel)
theorem q_284 : (Jvm.Cond.instantiable "java/lang/Throwable" (6 : Nat)) ∈ wG := wG_of (List.mem_of_getElem? (i := 303) (by decide +kernel)) (by decide +kernel)
theorem q_285 : (Jvm.Cond.native ({ cls := "java/lang/Throwable", name := "fillInStackTrace", desc := "(I)Ljava/lang/Throwable;" } : Jvm.MethodName)) ∈ wG := wG_of (List.mem_of_getElem? (i := 304) (by decide +kernel)) (by decide +kernel)
theorem q_287 : (Jvm.Cond.methodLink "RecordTimes" (165 : Nat) ({ cls := "java/lang/IllegalArgumentException", name := "<init>", desc := "(Ljava/lang/String;)V" } : Jvm.MethodName)) ∈ wG := wG_of (List.mem_of_getElem? (i := 306) (by decide +kernel)) (by decide +kernel)
theorem q_288 : (Jvm.Cond.instanceMethod ({ cls := "java/lang/IllegalArgumentException", name := "<init>", desc := "(Ljava/lang/String;)V" } : Jvm.MethodName)) ∈ wG := wG_of (List.mem_of_getElem? (i := 307) (by decide +kernel)) (by decide +kernel)
theorem q_289 : (Jvm.Cond.code ({ cls := "java/lang/IllegalArgumentException", name := "<init>", desc := "(Ljava/lang/String;)V" } : Jvm.MethodName) prog_10_method_2_code (2 : Nat) (Option.none : Option Jvm.ClassFile.FieldType)) ∈ wG := wG_of (List.mem_of_getElem? (i := 308) (by decide +kernel)) (by decide +kernel)
theorem q_290 : (Jvm.Cond.methodLink "java/lang/IllegalArgumentException" (7 : Nat) ({ cls := "java/lang/RuntimeException", name := "<init>", desc := "(Ljava/lang/String;)V" } : Jvm.MethodName)) ∈ wG := wG_of (List.mem_of_getElem? (i := 309) (by decide +kernel)) (by decide +kernel)
theorem q_291 : (Jvm.Cond.instanceMethod ({ cls := "java/lang/RuntimeException", name := "<init>", desc := "(Ljava/lang/String;)V" } : Jvm.MethodName)) ∈ wG := wG_of (List.mem_of_getElem? (i := 310) (by decide +kernel)) (by decide +kernel)
theorem q_292 : (Jvm.Cond.code ({ cls := "java/lang/RuntimeException", name := "<init>", desc := "(Ljava/lang/String;)V" } : Jvm.MethodName) prog_14_method_2_code (2 : Nat) (Option.none : Option Jvm.ClassFile.FieldType)) ∈ wG := wG_of (List.mem_of_getElem? (i := 311) (by decide +kernel)) (by decide +kernel)
theorem q_293 : (Jvm.Cond.methodLink "java/lang/RuntimeException" (7 : Nat) ({ cls := "java/lang/Exception", name := "<init>", desc := "(Ljava/lang/String;)V" } : Jvm.MethodName)) ∈ wG := wG_of (List.mem_of_getElem? (i := 312) (by decide +kernel)) (by decide +kernel)
theorem q_294 : (Jvm.Cond.instanceMethod ({ cls := "java/lang/Exception", name := "<init>", desc := "(Ljava/lang/String;)V" } : Jvm.MethodName)) ∈ wG := wG_of (List.mem_of_getElem? (i := 313) (by decide +kernel)) (by decide +kernel)
theorem q_295 : (Jvm.Cond.code ({ cls := "java/lang/Exception", name := "<init>", desc := "(Ljava/lang/String;)V" } : Jvm.MethodName) prog_9_method_2_code (2 : Nat) (Option.none : Option Jvm.ClassFile.FieldType)) ∈ wG := wG_of (List.mem_of_getElem? (i := 314) (by decide +kernel)) (by decide +kernel)
theorem q_296 : (Jvm.Cond.methodLink "java/lang/Exception" (7 : Nat) ({ cls := "java/lang/Throwable", name := "<init>", desc := "(Ljava/lang/String;)V" } : Jvm.MethodName)) ∈ wG := wG_of (List.mem_of_getElem? (i := 315) (by decide +kernel)) (by decide +kernel)
theorem q_297 : (Jvm.Cond.instanceMethod ({ cls := "java/lang/Throwable", name := "<init>", desc := "(Ljava/lang/String;)V" } : Jvm.MethodName)) ∈ wG := wG_of (List.mem_of_getElem? (i := 316) (by decide +kernel)) (by decide +kernel)
theorem q_298 : (Jvm.Cond.code ({ cls := "java/lang/Throwable", name := "<init>", desc := "(Ljava/lang/String;)V" } : Jvm.MethodName) prog_16_method_2_code (2 : Nat) (Option.none : Option Jvm.ClassFile.FieldType)) ∈ wG := wG_of (List.mem_of_getElem? (i := 317) (by decide +kernel)) (by decide +kernel)
theorem q_300 : (Jvm.Cond.fieldLink "java/lang/Throwable" (31 : Nat) "java/lang/Throwable" "detailMessage" "Ljava/lang/String;") ∈ wG := wG_of (List.mem_of_getElem? (i := 319) (by decide +kernel)) (by decide +kernel)
theorem q_301 : (Jvm.Cond.fieldLink "java/lang/Throwable" (7 : Nat) "java/lang/Throwable" "cause" "Ljava/lang/Throwable;") ∈ wG := wG_of (List.mem_of_getElem? (i := 320) (by decide +kernel)) (by decide +kernel)
theorem q_302 : (Jvm.Cond.fieldLink "java/lang/Throwable" (17 : Nat) "java/lang/Throwable" "stackTrace" "[Ljava/lang/StackTraceElement;") ∈ wG := wG_of (List.mem_of_getElem? (i := 321) (by decide +kernel)) (by decide +kernel)
theorem q_303 : (Jvm.Cond.fieldLink "java/lang/Throwable" (24 : Nat) "java/lang/Throwable" "suppressedExceptions" "Ljava/util/List;") ∈ wG := wG_of (List.mem_of_getElem? (i := 322) (by decide +kernel)) (by decide +kernel)
theorem q_312 : (Jvm.Cond.arrayClass Jvm.ClassFile.FieldType.byte) ∈ wG := wG_of (List.mem_of_getElem? (i := 331) (by decide +kernel)) (by decide +kernel)
theorem q_313 : (Jvm.Cond.methodLink "RecordTimes" (54 : Nat) ({ cls := "RecordTimes", name := "checkUnit", desc := "(I)V" } : Jvm.MethodName)) ∈ wG := wG_of (List.mem_of_getElem? (i := 332) (by decide +kernel)) (by decide +kernel)
theorem q_314 : (Jvm.Cond.static ({ cls := "RecordTimes", name := "checkUnit", desc := "(I)V" } : Jvm.MethodName)) ∈ wG := wG_of (List.mem_of_getElem? (i := 333) (by decide +kernel)) (by decide +kernel)
theorem q_315 : (Jvm.Cond.code ({ cls := "RecordTimes", name := "checkUnit", desc := "(I)V" } : Jvm.MethodName) prog_1_method_22_code (1 : Nat) (Option.none : Option Jvm.ClassFile.FieldType)) ∈ wG := wG_of (List.mem_of_getElem? (i := 334) (by decide +kernel)) (by decide +kernel)
theorem q_317 : (Jvm.Cond.methodLink "RecordTimes" (57 : Nat) ({ cls := "RecordTimes", name := "checkIncident", desc := "(I)V" } : Jvm.MethodName)) ∈ wG := wG_of (List.mem_of_getElem? (i := 336) (by decide +kernel)) (by decide +kernel)
theorem q_318 : (Jvm.Cond.static ({ cls := "RecordTimes", name := "checkIncident", desc := "(I)V" } : Jvm.MethodName)) ∈ wG := wG_of (List.mem_of_getElem? (i := 337) (by decide +kernel)) (by decide +kernel)
theorem q_319 : (Jvm.Cond.code ({ cls := "RecordTimes", name := "checkIncident", desc := "(I)V" } : Jvm.MethodName) prog_1_method_23_code (1 : Nat) (Option.none : Option Jvm.ClassFile.FieldType)) ∈ wG := wG_of (List.mem_of_getElem? (i := 338) (by decide +kernel)) (by decide +kernel)
theorem q_321 : (Jvm.Cond.methodLink "RecordTimes" (60 : Nat) ({ cls := "RecordTimes", name := "checkTime", desc := "(I)V" } : Jvm.MethodName)) ∈ wG := wG_of (List.mem_of_getElem? (i := 340) (by decide +kernel)) (by decide +kernel)
theorem q_322 : (Jvm.Cond.static ({ cls := "RecordTimes", name := "checkTime", desc := "(I)V" } : Jvm.MethodName)) ∈ wG := wG_of (List.mem_of_getElem? (i := 341) (by decide +kernel)) (by decide +kernel)
theorem q_323 : (Jvm.Cond.code ({ cls := "RecordTimes", name := "checkTime", desc := "(I)V" } : Jvm.MethodName) prog_1_method_25_code (1 : Nat) (Option.none : Option Jvm.ClassFile.FieldType)) ∈ wG := wG_of (List.mem_of_getElem? (i := 342) (by decide +kernel)) (by decide +kernel)
theorem q_324 : (Jvm.Cond.constant "RecordTimes" (229 : Nat) (9999999 : Int32)) ∈ wG := wG_of (List.mem_of_getElem? (i := 343) (by decide +kernel)) (by decide +kernel)
theorem q_325 : (Jvm.Cond.classLink "RecordTimes" (63 : Nat) "java/lang/IndexOutOfBoundsException") ∈ wG := wG_of (List.mem_of_getElem? (i := 344) (by decide +kernel)) (by decide +kernel)
theorem q_326 : (Jvm.Cond.instantiable "java/lang/IndexOutOfBoundsException" (6 : Nat)) ∈ wG := wG_of (List.mem_of_getElem? (i := 345) (by decide +kernel)) (by decide +kernel)
theorem q_328 : (Jvm.Cond.selects "java/lang/IndexOutOfBoundsException" ({ cls := "java/lang/Throwable", name := "fillInStackTrace", desc := "(I)Ljava/lang/Throwable;" } : Jvm.MethodName) ({ cls := "java/lang/Throwable", name := "fillInStackTrace", desc := "(I)Ljava/lang/Throwable;" } : Jvm.MethodName)) ∈ wG := wG_of (List.mem_of_getElem? (i := 347) (by decide +kernel)) (by decide +kernel)
theorem q_335 : (Jvm.Cond.methodLink "RecordTimes" (67 : Nat) ({ cls := "java/lang/IndexOutOfBoundsException", name := "<init>", desc := "(Ljava/lang/String;)V" } : Jvm.MethodName)) ∈ wG := wG_of (List.mem_of_getElem? (i := 354) (by decide +kernel)) (by decide +kernel)
theorem q_336 : (Jvm.Cond.instanceMethod ({ cls := "java/lang/IndexOutOfBoundsException", name := "<init>", desc := "(Ljava/lang/String;)V" } : Jvm.MethodName)) ∈ wG := wG_of (List.mem_of_getElem? (i := 355) (by decide +kernel)) (by decide +kernel)
theorem q_337 : (Jvm.Cond.code ({ cls := "java/lang/IndexOutOfBoundsException", name := "<init>", desc := "(Ljava/lang/String;)V" } : Jvm.MethodName) prog_12_method_2_code (2 : Nat) (Option.none : Option Jvm.ClassFile.FieldType)) ∈ wG := wG_of (List.mem_of_getElem? (i := 356) (by decide +kernel)) (by decide +kernel)
theorem q_338 : (Jvm.Cond.methodLink "java/lang/IndexOutOfBoundsException" (7 : Nat) ({ cls := "java/lang/RuntimeException", name := "<init>", desc := "(Ljava/lang/String;)V" } : Jvm.MethodName)) ∈ wG := wG_of (List.mem_of_getElem? (i := 357) (by decide +kernel)) (by decide +kernel)
theorem q_342 : (Jvm.Cond.classLink "RecordTimes" (74 : Nat) "java/lang/UnsupportedOperationException") ∈ wG := wG_of (List.mem_of_getElem? (i := 361) (by decide +kernel)) (by decide +kernel)
theorem q_343 : (Jvm.Cond.instantiable "java/lang/UnsupportedOperationException" (6 : Nat)) ∈ wG := wG_of (List.mem_of_getElem? (i := 362) (by decide +kernel)) (by decide +kernel)
theorem q_345 : (Jvm.Cond.selects "java/lang/UnsupportedOperationException" ({ cls := "java/lang/Throwable", name := "fillInStackTrace", desc := "(I)Ljava/lang/Throwable;" } : Jvm.MethodName) ({ cls := "java/lang/Throwable", name := "fillInStackTrace", desc := "(I)Ljava/lang/Throwable;" } : Jvm.MethodName)) ∈ wG := wG_of (List.mem_of_getElem? (i := 364) (by decide +kernel)) (by decide +kernel)
theorem q_352 : (Jvm.Cond.methodLink "RecordTimes" (78 : Nat) ({ cls := "java/lang/UnsupportedOperationException", name := "<init>", desc := "(Ljava/lang/String;)V" } : Jvm.MethodName)) ∈ wG := wG_of (List.mem_of_getElem? (i := 371) (by decide +kernel)) (by decide +kernel)
theorem q_353 : (Jvm.Cond.instanceMethod ({ cls := "java/lang/UnsupportedOperationException", name := "<init>", desc := "(Ljava/lang/String;)V" } : Jvm.MethodName)) ∈ wG := wG_of (List.mem_of_getElem? (i := 372) (by decide +kernel)) (by decide +kernel)
theorem q_354 : (Jvm.Cond.code ({ cls := "java/lang/UnsupportedOperationException", name := "<init>", desc := "(Ljava/lang/String;)V" } : Jvm.MethodName) prog_17_method_2_code (2 : Nat) (Option.none : Option Jvm.ClassFile.FieldType)) ∈ wG := wG_of (List.mem_of_getElem? (i := 373) (by decide +kernel)) (by decide +kernel)
theorem q_355 : (Jvm.Cond.methodLink "java/lang/UnsupportedOperationException" (7 : Nat) ({ cls := "java/lang/RuntimeException", name := "<init>", desc := "(Ljava/lang/String;)V" } : Jvm.MethodName)) ∈ wG := wG_of (List.mem_of_getElem? (i := 374) (by decide +kernel)) (by decide +kernel)
theorem q_358 : (Jvm.Cond.methodLink "RecordTimes" (79 : Nat) ({ cls := "RecordTimes$Slots", name := "add", desc := "(IIIJII)I" } : Jvm.MethodName)) ∈ wG := wG_of (List.mem_of_getElem? (i := 377) (by decide +kernel)) (by decide +kernel)
theorem q_359 : (Jvm.Cond.instanceMethod ({ cls := "RecordTimes$Slots", name := "add", desc := "(IIIJII)I" } : Jvm.MethodName)) ∈ wG := wG_of (List.mem_of_getElem? (i := 378) (by decide +kernel)) (by decide +kernel)
theorem q_360 : (Jvm.Cond.selects "RecordTimes$Slots" ({ cls := "RecordTimes$Slots", name := "add", desc := "(IIIJII)I" } : Jvm.MethodName) ({ cls := "RecordTimes$Slots", name := "add", desc := "(IIIJII)I" } : Jvm.MethodName)) ∈ wG := wG_of (List.mem_of_getElem? (i := 379) (by decide +kernel)) (by decide +kernel)
theorem q_361 : (Jvm.Cond.code ({ cls := "RecordTimes$Slots", name := "add", desc := "(IIIJII)I" } : Jvm.MethodName) prog_6_method_2_code (9 : Nat) (Option.some Jvm.ClassFile.FieldType.int)) ∈ wG := wG_of (List.mem_of_getElem? (i := 380) (by decide +kernel)) (by decide +kernel)
theorem q_362 : (Jvm.Cond.methodLink "RecordTimes$Slots" (42 : Nat) ({ cls := "RecordTimes$Slots", name := "sumNow", desc := "(I)I" } : Jvm.MethodName)) ∈ wG := wG_of (List.mem_of_getElem? (i := 381) (by decide +kernel)) (by decide +kernel)
theorem q_363 : (Jvm.Cond.methodLink "RecordTimes" (83 : Nat) ({ cls := "RecordTimes$Line", name := "insert", desc := "(I)V" } : Jvm.MethodName)) ∈ wG := wG_of (List.mem_of_getElem? (i := 382) (by decide +kernel)) (by decide +kernel)
theorem q_364 : (Jvm.Cond.instanceMethod ({ cls := "RecordTimes$Line", name := "insert", desc := "(I)V" } : Jvm.MethodName)) ∈ wG := wG_of (List.mem_of_getElem? (i := 383) (by decide +kernel)) (by decide +kernel)
theorem q_365 : (Jvm.Cond.selects "RecordTimes$Line" ({ cls := "RecordTimes$Line", name := "insert", desc := "(I)V" } : Jvm.MethodName) ({ cls := "RecordTimes$Line", name := "insert", desc := "(I)V" } : Jvm.MethodName)) ∈ wG := wG_of (List.mem_of_getElem? (i := 384) (by decide +kernel)) (by decide +kernel)
theorem q_366 : (Jvm.Cond.code ({ cls := "RecordTimes$Line", name := "insert", desc := "(I)V" } : Jvm.MethodName) prog_3_method_2_code (2 : Nat) (Option.none : Option Jvm.ClassFile.FieldType)) ∈ wG := wG_of (List.mem_of_getElem? (i := 385) (by decide +kernel)) (by decide +kernel)
theorem q_367 : (Jvm.Cond.methodLink "RecordTimes$Line" (27 : Nat) ({ cls := "RecordTimes$Line", name := "settle", desc := "(I)V" } : Jvm.MethodName)) ∈ wG := wG_of (List.mem_of_getElem? (i := 386) (by decide +kernel)) (by decide +kernel)
theorem q_369 : (Jvm.Cond.instanceMethod ({ cls := "RecordTimes$Line", name := "settle", desc := "(I)V" } : Jvm.MethodName)) ∈ wG := wG_of (List.mem_of_getElem? (i := 388) (by decide +kernel)) (by decide +kernel)
theorem q_370 : (Jvm.Cond.code ({ cls := "RecordTimes$Line", name := "settle", desc := "(I)V" } : Jvm.MethodName) prog_3_method_9_code (4 : Nat) (Option.none : Option Jvm.ClassFile.FieldType)) ∈ wG := wG_of (List.mem_of_getElem? (i := 389) (by decide +kernel)) (by decide +kernel)
theorem q_371 : (Jvm.Cond.methodLink "RecordTimes$Line" (66 : Nat) ({ cls := "RecordTimes$Line", name := "isBefore", desc := "(II)Z" } : Jvm.MethodName)) ∈ wG := wG_of (List.mem_of_getElem? (i := 390) (by decide +kernel)) (by decide +kernel)
theorem q_373 : (Jvm.Cond.instanceMethod ({ cls := "RecordTimes$Line", name := "isBefore", desc := "(II)Z" } : Jvm.MethodName)) ∈ wG := wG_of (List.mem_of_getElem? (i := 392) (by decide +kernel)) (by decide +kernel)
theorem q_374 : (Jvm.Cond.code ({ cls := "RecordTimes$Line", name := "isBefore", desc := "(II)Z" } : Jvm.MethodName) prog_3_method_10_code (5 : Nat) (Option.some Jvm.ClassFile.FieldType.boolean)) ∈ wG := wG_of (List.mem_of_getElem? (i := 393) (by decide +kernel)) (by decide +kernel)
theorem q_375 : (Jvm.Cond.methodLink "RecordTimesLaw" (89 : Nat) ({ cls := "RecordTimesLaw", name := "mark", desc := "(LRecordTimes;III[J)I" } : Jvm.MethodName)) ∈ wG := wG_of (List.mem_of_getElem? (i := 394) (by decide +kernel)) (by decide +kernel)
theorem q_376 : (Jvm.Cond.static ({ cls := "RecordTimesLaw", name := "mark", desc := "(LRecordTimes;III[J)I" } : Jvm.MethodName)) ∈ wG := wG_of (List.mem_of_getElem? (i := 395) (by decide +kernel)) (by decide +kernel)
theorem q_377 : (Jvm.Cond.codeWith ({ cls := "RecordTimesLaw", name := "mark", desc := "(LRecordTimes;III[J)I" } : Jvm.MethodName) method_4_code (6 : Nat) (Option.some Jvm.ClassFile.FieldType.int) [((0 : Nat), (12 : Nat), (15 : Nat), (13 : Nat)), ((0 : Nat), (12 : Nat), (19 : Nat), (15 : Nat)), ((0 : Nat), (12 : Nat), (23 : Nat), (17 : Nat))]) ∈ wG := wG_of (List.mem_of_getElem? (i := 396) (by decide +kernel)) (by decide +kernel)
theorem q_378 : (Jvm.Cond.methodLink "RecordTimesLaw" (19 : Nat) ({ cls := "RecordTimes", name := "mark", desc := "(III)I" } : Jvm.MethodName)) ∈ wG := wG_of (List.mem_of_getElem? (i := 397) (by decide +kernel)) (by decide +kernel)
theorem q_379 : (Jvm.Cond.instanceMethod ({ cls := "RecordTimes", name := "mark", desc := "(III)I" } : Jvm.MethodName)) ∈ wG := wG_of (List.mem_of_getElem? (i := 398) (by decide +kernel)) (by decide +kernel)
theorem q_380 : (Jvm.Cond.selects "RecordTimes" ({ cls := "RecordTimes", name := "mark", desc := "(III)I" } : Jvm.MethodName) ({ cls := "RecordTimes", name := "mark", desc := "(III)I" } : Jvm.MethodName)) ∈ wG := wG_of (List.mem_of_getElem? (i := 399) (by decide +kernel)) (by decide +kernel)
theorem q_381 : (Jvm.Cond.code ({ cls := "RecordTimes", name := "mark", desc := "(III)I" } : Jvm.MethodName) prog_1_method_3_code (5 : Nat) (Option.some Jvm.ClassFile.FieldType.int)) ∈ wG := wG_of (List.mem_of_getElem? (i := 400) (by decide +kernel)) (by decide +kernel)
theorem q_383 : (Jvm.Cond.methodLink "RecordTimes" (89 : Nat) ({ cls := "RecordTimes$Marks", name := "add", desc := "(II)I" } : Jvm.MethodName)) ∈ wG := wG_of (List.mem_of_getElem? (i := 402) (by decide +kernel)) (by decide +kernel)
theorem q_384 : (Jvm.Cond.instanceMethod ({ cls := "RecordTimes$Marks", name := "add", desc := "(II)I" } : Jvm.MethodName)) ∈ wG := wG_of (List.mem_of_getElem? (i := 403) (by decide +kernel)) (by decide +kernel)
theorem q_385 : (Jvm.Cond.selects "RecordTimes$Marks" ({ cls := "RecordTimes$Marks", name := "add", desc := "(II)I" } : Jvm.MethodName) ({ cls := "RecordTimes$Marks", name := "add", desc := "(II)I" } : Jvm.MethodName)) ∈ wG := wG_of (List.mem_of_getElem? (i := 404) (by decide +kernel)) (by decide +kernel)
theorem q_386 : (Jvm.Cond.code ({ cls := "RecordTimes$Marks", name := "add", desc := "(II)I" } : Jvm.MethodName) prog_5_method_2_code (4 : Nat) (Option.some Jvm.ClassFile.FieldType.int)) ∈ wG := wG_of (List.mem_of_getElem? (i := 405) (by decide +kernel)) (by decide +kernel)
theorem q_387 : (Jvm.Cond.methodLink "RecordTimes" (96 : Nat) ({ cls := "RecordTimes$Line", name := "sortAgain", desc := "()V" } : Jvm.MethodName)) ∈ wG := wG_of (List.mem_of_getElem? (i := 406) (by decide +kernel)) (by decide +kernel)
theorem q_388 : (Jvm.Cond.instanceMethod ({ cls := "RecordTimes$Line", name := "sortAgain", desc := "()V" } : Jvm.MethodName)) ∈ wG := wG_of (List.mem_of_getElem? (i := 407) (by decide +kernel)) (by decide +kernel)
theorem q_389 : (Jvm.Cond.selects "RecordTimes$Line" ({ cls := "RecordTimes$Line", name := "sortAgain", desc := "()V" } : Jvm.MethodName) ({ cls := "RecordTimes$Line", name := "sortAgain", desc := "()V" } : Jvm.MethodName)) ∈ wG := wG_of (List.mem_of_getElem? (i := 408) (by decide +kernel)) (by decide +kernel)
theorem q_390 : (Jvm.Cond.code ({ cls := "RecordTimes$Line", name := "sortAgain", desc := "()V" } : Jvm.MethodName) prog_3_method_4_code (2 : Nat) (Option.none : Option Jvm.ClassFile.FieldType)) ∈ wG := wG_of (List.mem_of_getElem? (i := 409) (by decide +kernel)) (by decide +kernel)
theorem q_391 : (Jvm.Cond.methodLink "RecordTimesLaw" (93 : Nat) ({ cls := "RecordTimesLaw", name := "offset", desc := "(LRecordTimes;I[J)I" } : Jvm.MethodName)) ∈ wG := wG_of (List.mem_of_getElem? (i := 410) (by decide +kernel)) (by decide +kernel)
theorem q_392 : (Jvm.Cond.static ({ cls := "RecordTimesLaw", name := "offset", desc := "(LRecordTimes;I[J)I" } : Jvm.MethodName)) ∈ wG := wG_of (List.mem_of_getElem? (i := 411) (by decide +kernel)) (by decide +kernel)
theorem q_393 : (Jvm.Cond.codeWith ({ cls := "RecordTimesLaw", name := "offset", desc := "(LRecordTimes;I[J)I" } : Jvm.MethodName) method_5_code (4 : Nat) (Option.some Jvm.ClassFile.FieldType.int) [((0 : Nat), (9 : Nat), (12 : Nat), (13 : Nat))]) ∈ wG := wG_of (List.mem_of_getElem? (i := 412) (by decide +kernel)) (by decide +kernel)
theorem q_394 : (Jvm.Cond.methodLink "RecordTimesLaw" (23 : Nat) ({ cls := "RecordTimes", name := "offset", desc := "(I)I" } : Jvm.MethodName)) ∈ wG := wG_of (List.mem_of_getElem? (i := 413) (by decide +kernel)) (by decide +kernel)
theorem q_395 : (Jvm.Cond.instanceMethod ({ cls := "RecordTimes", name := "offset", desc := "(I)I" } : Jvm.MethodName)) ∈ wG := wG_of (List.mem_of_getElem? (i := 414) (by decide +kernel)) (by decide +kernel)
theorem q_396 : (Jvm.Cond.selects "RecordTimes" ({ cls := "RecordTimes", name := "offset", desc := "(I)I" } : Jvm.MethodName) ({ cls := "RecordTimes", name := "offset", desc := "(I)I" } : Jvm.MethodName)) ∈ wG := wG_of (List.mem_of_getElem? (i := 415) (by decide +kernel)) (by decide +kernel)
theorem q_397 : (Jvm.Cond.code ({ cls := "RecordTimes", name := "offset", desc := "(I)I" } : Jvm.MethodName) prog_1_method_4_code (2 : Nat) (Option.some Jvm.ClassFile.FieldType.int)) ∈ wG := wG_of (List.mem_of_getElem? (i := 416) (by decide +kernel)) (by decide +kernel)
theorem q_398 : (Jvm.Cond.methodLink "RecordTimes" (99 : Nat) ({ cls := "RecordTimes$Marks", name := "offsetOf", desc := "(I)I" } : Jvm.MethodName)) ∈ wG := wG_of (List.mem_of_getElem? (i := 417) (by decide +kernel)) (by decide +kernel)
theorem q_399 : (Jvm.Cond.methodLink "RecordTimesLaw" (97 : Nat) ({ cls := "RecordTimesLaw", name := "contradiction", desc := "(LRecordTimes;I[J)I" } : Jvm.MethodName)) ∈ wG := wG_of (List.mem_of_getElem? (i := 418) (by decide +kernel)) (by decide +kernel)
theorem q_400 : (Jvm.Cond.static ({ cls := "RecordTimesLaw", name := "contradiction", desc := "(LRecordTimes;I[J)I" } : Jvm.MethodName)) ∈ wG := wG_of (List.mem_of_getElem? (i := 419) (by decide +kernel)) (by decide +kernel)
theorem q_401 : (Jvm.Cond.codeWith ({ cls := "RecordTimesLaw", name := "contradiction", desc := "(LRecordTimes;I[J)I" } : Jvm.MethodName) method_6_code (4 : Nat) (Option.some Jvm.ClassFile.FieldType.int) [((0 : Nat), (9 : Nat), (12 : Nat), (15 : Nat))]) ∈ wG := wG_of (List.mem_of_getElem? (i := 420) (by decide +kernel)) (by decide +kernel)
theorem q_402 : (Jvm.Cond.methodLink "RecordTimesLaw" (27 : Nat) ({ cls := "RecordTimes", name := "contradiction", desc := "(I)I" } : Jvm.MethodName)) ∈ wG := wG_of (List.mem_of_getElem? (i := 421) (by decide +kernel)) (by decide +kernel)
theorem q_403 : (Jvm.Cond.instanceMethod ({ cls := "RecordTimes", name := "contradiction", desc := "(I)I" } : Jvm.MethodName)) ∈ wG := wG_of (List.mem_of_getElem? (i := 422) (by decide +kernel)) (by decide +kernel)
theorem q_404 : (Jvm.Cond.selects "RecordTimes" ({ cls := "RecordTimes", name := "contradiction", desc := "(I)I" } : Jvm.MethodName) ({ cls := "RecordTimes", name := "contradiction", desc := "(I)I" } : Jvm.MethodName)) ∈ wG := wG_of (List.mem_of_getElem? (i := 423) (by decide +kernel)) (by decide +kernel)
theorem q_405 : (Jvm.Cond.code ({ cls := "RecordTimes", name := "contradiction", desc := "(I)I" } : Jvm.MethodName) prog_1_method_5_code (2 : Nat) (Option.some Jvm.ClassFile.FieldType.int)) ∈ wG := wG_of (List.mem_of_getElem? (i := 424) (by decide +kernel)) (by decide +kernel)
theorem q_406 : (Jvm.Cond.methodLink "RecordTimes" (103 : Nat) ({ cls := "RecordTimes", name := "checkPlace", desc := "(I)V" } : Jvm.MethodName)) ∈ wG := wG_of (List.mem_of_getElem? (i := 425) (by decide +kernel)) (by decide +kernel)
theorem q_407 : (Jvm.Cond.static ({ cls := "RecordTimes", name := "checkPlace", desc := "(I)V" } : Jvm.MethodName)) ∈ wG := wG_of (List.mem_of_getElem? (i := 426) (by decide +kernel)) (by decide +kernel)
theorem q_408 : (Jvm.Cond.code ({ cls := "RecordTimes", name := "checkPlace", desc := "(I)V" } : Jvm.MethodName) prog_1_method_26_code (1 : Nat) (Option.none : Option Jvm.ClassFile.FieldType)) ∈ wG := wG_of (List.mem_of_getElem? (i := 427) (by decide +kernel)) (by decide +kernel)
theorem q_410 : (Jvm.Cond.methodLink "RecordTimes" (106 : Nat) ({ cls := "RecordTimes$Marks", name := "contradictionAt", desc := "(I)I" } : Jvm.MethodName)) ∈ wG := wG_of (List.mem_of_getElem? (i := 429) (by decide +kernel)) (by decide +kernel)
theorem q_411 : (Jvm.Cond.instanceMethod ({ cls := "RecordTimes$Marks", name := "contradictionAt", desc := "(I)I" } : Jvm.MethodName)) ∈ wG := wG_of (List.mem_of_getElem? (i := 430) (by decide +kernel)) (by decide +kernel)
theorem q_412 : (Jvm.Cond.selects "RecordTimes$Marks" ({ cls := "RecordTimes$Marks", name := "contradictionAt", desc := "(I)I" } : Jvm.MethodName) ({ cls := "RecordTimes$Marks", name := "contradictionAt", desc := "(I)I" } : Jvm.MethodName)) ∈ wG := wG_of (List.mem_of_getElem? (i := 431) (by decide +kernel)) (by decide +kernel)
theorem q_413 : (Jvm.Cond.code ({ cls := "RecordTimes$Marks", name := "contradictionAt", desc := "(I)I" } : Jvm.MethodName) prog_5_method_4_code (4 : Nat) (Option.some Jvm.ClassFile.FieldType.int)) ∈ wG := wG_of (List.mem_of_getElem? (i := 432) (by decide +kernel)) (by decide +kernel)
theorem q_414 : (Jvm.Cond.methodLink "RecordTimes$Marks" (25 : Nat) ({ cls := "RecordTimes$Marks", name := "offsetOf", desc := "(I)I" } : Jvm.MethodName)) ∈ wG := wG_of (List.mem_of_getElem? (i := 433) (by decide +kernel)) (by decide +kernel)
theorem q_415 : (Jvm.Cond.methodLink "RecordTimesLaw" (100 : Nat) ({ cls := "RecordTimesLaw", name := "find", desc := "(LRecordTimes;IIIII[J)I" } : Jvm.MethodName)) ∈ wG := wG_of (List.mem_of_getElem? (i := 434) (by decide +kernel)) (by decide +kernel)
theorem q_416 : (Jvm.Cond.static ({ cls := "RecordTimesLaw", name := "find", desc := "(LRecordTimes;IIIII[J)I" } : Jvm.MethodName)) ∈ wG := wG_of (List.mem_of_getElem? (i := 435) (by decide +kernel)) (by decide +kernel)
theorem q_417 : (Jvm.Cond.codeWith ({ cls := "RecordTimesLaw", name := "find", desc := "(LRecordTimes;IIIII[J)I" } : Jvm.MethodName) method_7_code (8 : Nat) (Option.some Jvm.ClassFile.FieldType.int) [((0 : Nat), (16 : Nat), (19 : Nat), (13 : Nat)), ((0 : Nat), (16 : Nat), (23 : Nat), (15 : Nat))]) ∈ wG := wG_of (List.mem_of_getElem? (i := 436) (by decide +kernel)) (by decide +kernel)
theorem q_418 : (Jvm.Cond.methodLink "RecordTimesLaw" (30 : Nat) ({ cls := "RecordTimes", name := "find", desc := "(IIIII)I" } : Jvm.MethodName)) ∈ wG := wG_of (List.mem_of_getElem? (i := 437) (by decide +kernel)) (by decide +kernel)
theorem q_419 : (Jvm.Cond.instanceMethod ({ cls := "RecordTimes", name := "find", desc := "(IIIII)I" } : Jvm.MethodName)) ∈ wG := wG_of (List.mem_of_getElem? (i := 438) (by decide +kernel)) (by decide +kernel)
theorem q_420 : (Jvm.Cond.selects "RecordTimes" ({ cls := "RecordTimes", name := "find", desc := "(IIIII)I" } : Jvm.MethodName) ({ cls := "RecordTimes", name := "find", desc := "(IIIII)I" } : Jvm.MethodName)) ∈ wG := wG_of (List.mem_of_getElem? (i := 439) (by decide +kernel)) (by decide +kernel)
theorem q_421 : (Jvm.Cond.code ({ cls := "RecordTimes", name := "find", desc := "(IIIII)I" } : Jvm.MethodName) prog_1_method_6_code (9 : Nat) (Option.some Jvm.ClassFile.FieldType.int)) ∈ wG := wG_of (List.mem_of_getElem? (i := 440) (by decide +kernel)) (by decide +kernel)
theorem q_422 : (Jvm.Cond.methodLink "RecordTimes" (115 : Nat) ({ cls := "RecordTimes$Slots", name := "isOf", desc := "(III)Z" } : Jvm.MethodName)) ∈ wG := wG_of (List.mem_of_getElem? (i := 441) (by decide +kernel)) (by decide +kernel)
theorem q_423 : (Jvm.Cond.instanceMethod ({ cls := "RecordTimes$Slots", name := "isOf", desc := "(III)Z" } : Jvm.MethodName)) ∈ wG := wG_of (List.mem_of_getElem? (i := 442) (by decide +kernel)) (by decide +kernel)
theorem q_424 : (Jvm.Cond.selects "RecordTimes$Slots" ({ cls := "RecordTimes$Slots", name := "isOf", desc := "(III)Z" } : Jvm.MethodName) ({ cls := "RecordTimes$Slots", name := "isOf", desc := "(III)Z" } : Jvm.MethodName)) ∈ wG := wG_of (List.mem_of_getElem? (i := 443) (by decide +kernel)) (by decide +kernel)
theorem q_425 : (Jvm.Cond.code ({ cls := "RecordTimes$Slots", name := "isOf", desc := "(III)Z" } : Jvm.MethodName) prog_6_method_3_code (4 : Nat) (Option.some Jvm.ClassFile.FieldType.boolean)) ∈ wG := wG_of (List.mem_of_getElem? (i := 444) (by decide +kernel)) (by decide +kernel)
theorem q_426 : (Jvm.Cond.methodLink "RecordTimesLaw" (104 : Nat) ({ cls := "RecordTimesLaw", name := "time", desc := "(LRecordTimes;I[J)I" } : Jvm.MethodName)) ∈ wG := wG_of (List.mem_of_getElem? (i := 445) (by decide +kernel)) (by decide +kernel)
theorem q_427 : (Jvm.Cond.static ({ cls := "RecordTimesLaw", name := "time", desc := "(LRecordTimes;I[J)I" } : Jvm.MethodName)) ∈ wG := wG_of (List.mem_of_getElem? (i := 446) (by decide +kernel)) (by decide +kernel)
theorem q_428 : (Jvm.Cond.codeWith ({ cls := "RecordTimesLaw", name := "time", desc := "(LRecordTimes;I[J)I" } : Jvm.MethodName) method_8_code (4 : Nat) (Option.some Jvm.ClassFile.FieldType.int) [((0 : Nat), (9 : Nat), (12 : Nat), (13 : Nat)), ((0 : Nat), (9 : Nat), (15 : Nat), (37 : Nat))]) ∈ wG := wG_of (List.mem_of_getElem? (i := 447) (by decide +kernel)) (by decide +kernel)
theorem q_429 : (Jvm.Cond.classLink "RecordTimesLaw" (37 : Nat) "java/lang/IllegalStateException") ∈ wG := wG_of (List.mem_of_getElem? (i := 448) (by decide +kernel)) (by decide +kernel)
theorem q_430 : (Jvm.Cond.methodLink "RecordTimesLaw" (34 : Nat) ({ cls := "RecordTimes", name := "time", desc := "(I)I" } : Jvm.MethodName)) ∈ wG := wG_of (List.mem_of_getElem? (i := 449) (by decide +kernel)) (by decide +kernel)
theorem q_431 : (Jvm.Cond.instanceMethod ({ cls := "RecordTimes", name := "time", desc := "(I)I" } : Jvm.MethodName)) ∈ wG := wG_of (List.mem_of_getElem? (i := 450) (by decide +kernel)) (by decide +kernel)
theorem q_432 : (Jvm.Cond.selects "RecordTimes" ({ cls := "RecordTimes", name := "time", desc := "(I)I" } : Jvm.MethodName) ({ cls := "RecordTimes", name := "time", desc := "(I)I" } : Jvm.MethodName)) ∈ wG := wG_of (List.mem_of_getElem? (i := 451) (by decide +kernel)) (by decide +kernel)
theorem q_433 : (Jvm.Cond.code ({ cls := "RecordTimes", name := "time", desc := "(I)I" } : Jvm.MethodName) prog_1_method_7_code (2 : Nat) (Option.some Jvm.ClassFile.FieldType.int)) ∈ wG := wG_of (List.mem_of_getElem? (i := 452) (by decide +kernel)) (by decide +kernel)
theorem q_434 : (Jvm.Cond.methodLink "RecordTimes" (123 : Nat) ({ cls := "RecordTimes", name := "checkSlot", desc := "(I)V" } : Jvm.MethodName)) ∈ wG := wG_of (List.mem_of_getElem? (i := 453) (by decide +kernel)) (by decide +kernel)
theorem q_436 : (Jvm.Cond.instanceMethod ({ cls := "RecordTimes", name := "checkSlot", desc := "(I)V" } : Jvm.MethodName)) ∈ wG := wG_of (List.mem_of_getElem? (i := 455) (by decide +kernel)) (by decide +kernel)
theorem q_437 : (Jvm.Cond.code ({ cls := "RecordTimes", name := "checkSlot", desc := "(I)V" } : Jvm.MethodName) prog_1_method_27_code (2 : Nat) (Option.none : Option Jvm.ClassFile.FieldType)) ∈ wG := wG_of (List.mem_of_getElem? (i := 456) (by decide +kernel)) (by decide +kernel)
theorem q_439 : (Jvm.Cond.methodLink "RecordTimes" (126 : Nat) ({ cls := "RecordTimes", name := "checkThere", desc := "(I)V" } : Jvm.MethodName)) ∈ wG := wG_of (List.mem_of_getElem? (i := 458) (by decide +kernel)) (by decide +kernel)
theorem q_441 : (Jvm.Cond.instanceMethod ({ cls := "RecordTimes", name := "checkThere", desc := "(I)V" } : Jvm.MethodName)) ∈ wG := wG_of (List.mem_of_getElem? (i := 460) (by decide +kernel)) (by decide +kernel)
theorem q_442 : (Jvm.Cond.code ({ cls := "RecordTimes", name := "checkThere", desc := "(I)V" } : Jvm.MethodName) prog_1_method_28_code (2 : Nat) (Option.none : Option Jvm.ClassFile.FieldType)) ∈ wG := wG_of (List.mem_of_getElem? (i := 461) (by decide +kernel)) (by decide +kernel)
theorem q_443 : (Jvm.Cond.classLink "RecordTimes" (139 : Nat) "java/lang/IllegalStateException") ∈ wG := wG_of (List.mem_of_getElem? (i := 462) (by decide +kernel)) (by decide +kernel)
theorem q_444 : (Jvm.Cond.instantiable "java/lang/IllegalStateException" (6 : Nat)) ∈ wG := wG_of (List.mem_of_getElem? (i := 463) (by decide +kernel)) (by decide +kernel)
theorem q_446 : (Jvm.Cond.selects "java/lang/IllegalStateException" ({ cls := "java/lang/Throwable", name := "fillInStackTrace", desc := "(I)Ljava/lang/Throwable;" } : Jvm.MethodName) ({ cls := "java/lang/Throwable", name := "fillInStackTrace", desc := "(I)Ljava/lang/Throwable;" } : Jvm.MethodName)) ∈ wG := wG_of (List.mem_of_getElem? (i := 465) (by decide +kernel)) (by decide +kernel)
theorem q_453 : (Jvm.Cond.methodLink "RecordTimes" (143 : Nat) ({ cls := "java/lang/IllegalStateException", name := "<init>", desc := "(Ljava/lang/String;)V" } : Jvm.MethodName)) ∈ wG := wG_of (List.mem_of_getElem? (i := 472) (by decide +kernel)) (by decide +kernel)
theorem q_454 : (Jvm.Cond.instanceMethod ({ cls := "java/lang/IllegalStateException", name := "<init>", desc := "(Ljava/lang/String;)V" } : Jvm.MethodName)) ∈ wG := wG_of (List.mem_of_getElem? (i := 473) (by decide +kernel)) (by decide +kernel)
theorem q_455 : (Jvm.Cond.code ({ cls := "java/lang/IllegalStateException", name := "<init>", desc := "(Ljava/lang/String;)V" } : Jvm.MethodName) prog_11_method_2_code (2 : Nat) (Option.none : Option Jvm.ClassFile.FieldType)) ∈ wG := wG_of (List.mem_of_getElem? (i := 474) (by decide +kernel)) (by decide +kernel)
theorem q_456 : (Jvm.Cond.methodLink "java/lang/IllegalStateException" (7 : Nat) ({ cls := "java/lang/RuntimeException", name := "<init>", desc := "(Ljava/lang/String;)V" } : Jvm.MethodName)) ∈ wG := wG_of (List.mem_of_getElem? (i := 475) (by decide +kernel)) (by decide +kernel)
theorem q_459 : (Jvm.Cond.methodLink "RecordTimes" (129 : Nat) ({ cls := "RecordTimes$Line", name := "beginOf", desc := "(I)I" } : Jvm.MethodName)) ∈ wG := wG_of (List.mem_of_getElem? (i := 478) (by decide +kernel)) (by decide +kernel)
theorem q_460 : (Jvm.Cond.methodLink "RecordTimesLaw" (107 : Nat) ({ cls := "RecordTimesLaw", name := "sum", desc := "(LRecordTimes;I[J)I" } : Jvm.MethodName)) ∈ wG := wG_of (List.mem_of_getElem? (i := 479) (by decide +kernel)) (by decide +kernel)
theorem q_461 : (Jvm.Cond.static ({ cls := "RecordTimesLaw", name := "sum", desc := "(LRecordTimes;I[J)I" } : Jvm.MethodName)) ∈ wG := wG_of (List.mem_of_getElem? (i := 480) (by decide +kernel)) (by decide +kernel)
theorem q_462 : (Jvm.Cond.codeWith ({ cls := "RecordTimesLaw", name := "sum", desc := "(LRecordTimes;I[J)I" } : Jvm.MethodName) method_9_code (4 : Nat) (Option.some Jvm.ClassFile.FieldType.int) [((0 : Nat), (9 : Nat), (12 : Nat), (13 : Nat)), ((0 : Nat), (9 : Nat), (15 : Nat), (37 : Nat))]) ∈ wG := wG_of (List.mem_of_getElem? (i := 481) (by decide +kernel)) (by decide +kernel)
theorem q_463 : (Jvm.Cond.methodLink "RecordTimesLaw" (39 : Nat) ({ cls := "RecordTimes", name := "sum", desc := "(I)I" } : Jvm.MethodName)) ∈ wG := wG_of (List.mem_of_getElem? (i := 482) (by decide +kernel)) (by decide +kernel)
theorem q_464 : (Jvm.Cond.instanceMethod ({ cls := "RecordTimes", name := "sum", desc := "(I)I" } : Jvm.MethodName)) ∈ wG := wG_of (List.mem_of_getElem? (i := 483) (by decide +kernel)) (by decide +kernel)
theorem q_465 : (Jvm.Cond.selects "RecordTimes" ({ cls := "RecordTimes", name := "sum", desc := "(I)I" } : Jvm.MethodName) ({ cls := "RecordTimes", name := "sum", desc := "(I)I" } : Jvm.MethodName)) ∈ wG := wG_of (List.mem_of_getElem? (i := 484) (by decide +kernel)) (by decide +kernel)
theorem q_466 : (Jvm.Cond.code ({ cls := "RecordTimes", name := "sum", desc := "(I)I" } : Jvm.MethodName) prog_1_method_8_code (2 : Nat) (Option.some Jvm.ClassFile.FieldType.int)) ∈ wG := wG_of (List.mem_of_getElem? (i := 485) (by decide +kernel)) (by decide +kernel)
theorem q_467 : (Jvm.Cond.methodLink "RecordTimesLaw" (110 : Nat) ({ cls := "RecordTimesLaw", name := "part", desc := "(LRecordTimes;III[J)I" } : Jvm.MethodName)) ∈ wG := wG_of (List.mem_of_getElem? (i := 486) (by decide +kernel)) (by decide +kernel)
theorem q_468 : (Jvm.Cond.static ({ cls := "RecordTimesLaw", name := "part", desc := "(LRecordTimes;III[J)I" } : Jvm.MethodName)) ∈ wG := wG_of (List.mem_of_getElem? (i := 487) (by decide +kernel)) (by decide +kernel)
theorem q_469 : (Jvm.Cond.codeWith ({ cls := "RecordTimesLaw", name := "part", desc := "(LRecordTimes;III[J)I" } : Jvm.MethodName) method_10_code (6 : Nat) (Option.some Jvm.ClassFile.FieldType.int) [((0 : Nat), (12 : Nat), (15 : Nat), (13 : Nat)), ((0 : Nat), (12 : Nat), (19 : Nat), (37 : Nat))]) ∈ wG := wG_of (List.mem_of_getElem? (i := 488) (by decide +kernel)) (by decide +kernel)
theorem q_470 : (Jvm.Cond.methodLink "RecordTimesLaw" (42 : Nat) ({ cls := "RecordTimes", name := "part", desc := "(III)I" } : Jvm.MethodName)) ∈ wG := wG_of (List.mem_of_getElem? (i := 489) (by decide +kernel)) (by decide +kernel)
theorem q_471 : (Jvm.Cond.instanceMethod ({ cls := "RecordTimes", name := "part", desc := "(III)I" } : Jvm.MethodName)) ∈ wG := wG_of (List.mem_of_getElem? (i := 490) (by decide +kernel)) (by decide +kernel)
theorem q_472 : (Jvm.Cond.selects "RecordTimes" ({ cls := "RecordTimes", name := "part", desc := "(III)I" } : Jvm.MethodName) ({ cls := "RecordTimes", name := "part", desc := "(III)I" } : Jvm.MethodName)) ∈ wG := wG_of (List.mem_of_getElem? (i := 491) (by decide +kernel)) (by decide +kernel)
theorem q_473 : (Jvm.Cond.code ({ cls := "RecordTimes", name := "part", desc := "(III)I" } : Jvm.MethodName) prog_1_method_9_code (4 : Nat) (Option.some Jvm.ClassFile.FieldType.int)) ∈ wG := wG_of (List.mem_of_getElem? (i := 492) (by decide +kernel)) (by decide +kernel)
theorem q_474 : (Jvm.Cond.methodLink "RecordTimesLaw" (121 : Nat) ({ cls := "RecordTimesLaw", name := "hold", desc := "(LRecordTimes;IZ)I" } : Jvm.MethodName)) ∈ wG := wG_of (List.mem_of_getElem? (i := 493) (by decide +kernel)) (by decide +kernel)
theorem q_475 : (Jvm.Cond.static ({ cls := "RecordTimesLaw", name := "hold", desc := "(LRecordTimes;IZ)I" } : Jvm.MethodName)) ∈ wG := wG_of (List.mem_of_getElem? (i := 494) (by decide +kernel)) (by decide +kernel)
theorem q_476 : (Jvm.Cond.codeWith ({ cls := "RecordTimesLaw", name := "hold", desc := "(LRecordTimes;IZ)I" } : Jvm.MethodName) method_11_code (4 : Nat) (Option.some Jvm.ClassFile.FieldType.int) [((0 : Nat), (6 : Nat), (9 : Nat), (13 : Nat)), ((0 : Nat), (6 : Nat), (12 : Nat), (37 : Nat))]) ∈ wG := wG_of (List.mem_of_getElem? (i := 495) (by decide +kernel)) (by decide +kernel)
theorem q_477 : (Jvm.Cond.methodLink "RecordTimesLaw" (45 : Nat) ({ cls := "RecordTimes", name := "hold", desc := "(IZ)V" } : Jvm.MethodName)) ∈ wG := wG_of (List.mem_of_getElem? (i := 496) (by decide +kernel)) (by decide +kernel)
theorem q_478 : (Jvm.Cond.instanceMethod ({ cls := "RecordTimes", name := "hold", desc := "(IZ)V" } : Jvm.MethodName)) ∈ wG := wG_of (List.mem_of_getElem? (i := 497) (by decide +kernel)) (by decide +kernel)
theorem q_479 : (Jvm.Cond.selects "RecordTimes" ({ cls := "RecordTimes", name := "hold", desc := "(IZ)V" } : Jvm.MethodName) ({ cls := "RecordTimes", name := "hold", desc := "(IZ)V" } : Jvm.MethodName)) ∈ wG := wG_of (List.mem_of_getElem? (i := 498) (by decide +kernel)) (by decide +kernel)
theorem q_480 : (Jvm.Cond.code ({ cls := "RecordTimes", name := "hold", desc := "(IZ)V" } : Jvm.MethodName) prog_1_method_12_code (3 : Nat) (Option.none : Option Jvm.ClassFile.FieldType)) ∈ wG := wG_of (List.mem_of_getElem? (i := 499) (by decide +kernel)) (by decide +kernel)
theorem q_482 : (Jvm.Cond.methodLink "RecordTimesLaw" (125 : Nat) ({ cls := "RecordTimesLaw", name := "drop", desc := "(LRecordTimes;I[J)I" } : Jvm.MethodName)) ∈ wG := wG_of (List.mem_of_getElem? (i := 501) (by decide +kernel)) (by decide +kernel)
theorem q_483 : (Jvm.Cond.static ({ cls := "RecordTimesLaw", name := "drop", desc := "(LRecordTimes;I[J)I" } : Jvm.MethodName)) ∈ wG := wG_of (List.mem_of_getElem? (i := 502) (by decide +kernel)) (by decide +kernel)
theorem q_484 : (Jvm.Cond.codeWith ({ cls := "RecordTimesLaw", name := "drop", desc := "(LRecordTimes;I[J)I" } : Jvm.MethodName) method_12_code (4 : Nat) (Option.some Jvm.ClassFile.FieldType.int) [((0 : Nat), (9 : Nat), (12 : Nat), (13 : Nat)), ((0 : Nat), (9 : Nat), (15 : Nat), (37 : Nat))]) ∈ wG := wG_of (List.mem_of_getElem? (i := 503) (by decide +kernel)) (by decide +kernel)
theorem q_485 : (Jvm.Cond.methodLink "RecordTimesLaw" (49 : Nat) ({ cls := "RecordTimes", name := "drop", desc := "(I)I" } : Jvm.MethodName)) ∈ wG := wG_of (List.mem_of_getElem? (i := 504) (by decide +kernel)) (by decide +kernel)
theorem q_486 : (Jvm.Cond.instanceMethod ({ cls := "RecordTimes", name := "drop", desc := "(I)I" } : Jvm.MethodName)) ∈ wG := wG_of (List.mem_of_getElem? (i := 505) (by decide +kernel)) (by decide +kernel)
theorem q_487 : (Jvm.Cond.selects "RecordTimes" ({ cls := "RecordTimes", name := "drop", desc := "(I)I" } : Jvm.MethodName) ({ cls := "RecordTimes", name := "drop", desc := "(I)I" } : Jvm.MethodName)) ∈ wG := wG_of (List.mem_of_getElem? (i := 506) (by decide +kernel)) (by decide +kernel)
theorem q_488 : (Jvm.Cond.code ({ cls := "RecordTimes", name := "drop", desc := "(I)I" } : Jvm.MethodName) prog_1_method_13_code (2 : Nat) (Option.some Jvm.ClassFile.FieldType.int)) ∈ wG := wG_of (List.mem_of_getElem? (i := 507) (by decide +kernel)) (by decide +kernel)
theorem q_490 : (Jvm.Cond.methodLink "RecordTimes" (152 : Nat) ({ cls := "RecordTimes$Line", name := "remove", desc := "(I)V" } : Jvm.MethodName)) ∈ wG := wG_of (List.mem_of_getElem? (i := 509) (by decide +kernel)) (by decide +kernel)
theorem q_491 : (Jvm.Cond.instanceMethod ({ cls := "RecordTimes$Line", name := "remove", desc := "(I)V" } : Jvm.MethodName)) ∈ wG := wG_of (List.mem_of_getElem? (i := 510) (by decide +kernel)) (by decide +kernel)
theorem q_492 : (Jvm.Cond.selects "RecordTimes$Line" ({ cls := "RecordTimes$Line", name := "remove", desc := "(I)V" } : Jvm.MethodName) ({ cls := "RecordTimes$Line", name := "remove", desc := "(I)V" } : Jvm.MethodName)) ∈ wG := wG_of (List.mem_of_getElem? (i := 511) (by decide +kernel)) (by decide +kernel)
theorem q_493 : (Jvm.Cond.code ({ cls := "RecordTimes$Line", name := "remove", desc := "(I)V" } : Jvm.MethodName) prog_3_method_3_code (4 : Nat) (Option.none : Option Jvm.ClassFile.FieldType)) ∈ wG := wG_of (List.mem_of_getElem? (i := 512) (by decide +kernel)) (by decide +kernel)
theorem q_494 : (Jvm.Cond.methodLink "RecordTimes" (158 : Nat) ({ cls := "RecordTimes$Certificates", name := "add", desc := "(III)I" } : Jvm.MethodName)) ∈ wG := wG_of (List.mem_of_getElem? (i := 513) (by decide +kernel)) (by decide +kernel)
theorem q_495 : (Jvm.Cond.instanceMethod ({ cls := "RecordTimes$Certificates", name := "add", desc := "(III)I" } : Jvm.MethodName)) ∈ wG := wG_of (List.mem_of_getElem? (i := 514) (by decide +kernel)) (by decide +kernel)
theorem q_496 : (Jvm.Cond.selects "RecordTimes$Certificates" ({ cls := "RecordTimes$Certificates", name := "add", desc := "(III)I" } : Jvm.MethodName) ({ cls := "RecordTimes$Certificates", name := "add", desc := "(III)I" } : Jvm.MethodName)) ∈ wG := wG_of (List.mem_of_getElem? (i := 515) (by decide +kernel)) (by decide +kernel)
theorem q_497 : (Jvm.Cond.code ({ cls := "RecordTimes$Certificates", name := "add", desc := "(III)I" } : Jvm.MethodName) prog_2_method_2_code (5 : Nat) (Option.some Jvm.ClassFile.FieldType.int)) ∈ wG := wG_of (List.mem_of_getElem? (i := 516) (by decide +kernel)) (by decide +kernel)
theorem q_498 : (Jvm.Cond.methodLink "RecordTimesLaw" (128 : Nat) ({ cls := "RecordTimesLaw", name := "certificate", desc := "(LRecordTimes;II[J)I" } : Jvm.MethodName)) ∈ wG := wG_of (List.mem_of_getElem? (i := 517) (by decide +kernel)) (by decide +kernel)
theorem q_499 : (Jvm.Cond.static ({ cls := "RecordTimesLaw", name := "certificate", desc := "(LRecordTimes;II[J)I" } : Jvm.MethodName)) ∈ wG := wG_of (List.mem_of_getElem? (i := 518) (by decide +kernel)) (by decide +kernel)
theorem q_500 : (Jvm.Cond.codeWith ({ cls := "RecordTimesLaw", name := "certificate", desc := "(LRecordTimes;II[J)I" } : Jvm.MethodName) method_13_code (5 : Nat) (Option.some Jvm.ClassFile.FieldType.int) [((0 : Nat), (10 : Nat), (13 : Nat), (13 : Nat))]) ∈ wG := wG_of (List.mem_of_getElem? (i := 519) (by decide +kernel)) (by decide +kernel)
theorem q_501 : (Jvm.Cond.methodLink "RecordTimesLaw" (52 : Nat) ({ cls := "RecordTimes", name := "certificate", desc := "(II)I" } : Jvm.MethodName)) ∈ wG := wG_of (List.mem_of_getElem? (i := 520) (by decide +kernel)) (by decide +kernel)
theorem q_502 : (Jvm.Cond.instanceMethod ({ cls := "RecordTimes", name := "certificate", desc := "(II)I" } : Jvm.MethodName)) ∈ wG := wG_of (List.mem_of_getElem? (i := 521) (by decide +kernel)) (by decide +kernel)
theorem q_503 : (Jvm.Cond.selects "RecordTimes" ({ cls := "RecordTimes", name := "certificate", desc := "(II)I" } : Jvm.MethodName) ({ cls := "RecordTimes", name := "certificate", desc := "(II)I" } : Jvm.MethodName)) ∈ wG := wG_of (List.mem_of_getElem? (i := 522) (by decide +kernel)) (by decide +kernel)
theorem q_504 : (Jvm.Cond.code ({ cls := "RecordTimes", name := "certificate", desc := "(II)I" } : Jvm.MethodName) prog_1_method_14_code (3 : Nat) (Option.some Jvm.ClassFile.FieldType.int)) ∈ wG := wG_of (List.mem_of_getElem? (i := 523) (by decide +kernel)) (by decide +kernel)
theorem q_507 : (Jvm.Cond.methodLink "RecordTimesLaw" (132 : Nat) ({ cls := "RecordTimesLaw", name := "right", desc := "(LRecordTimes;IIZ)I" } : Jvm.MethodName)) ∈ wG := wG_of (List.mem_of_getElem? (i := 526) (by decide +kernel)) (by decide +kernel)
theorem q_508 : (Jvm.Cond.static ({ cls := "RecordTimesLaw", name := "right", desc := "(LRecordTimes;IIZ)I" } : Jvm.MethodName)) ∈ wG := wG_of (List.mem_of_getElem? (i := 527) (by decide +kernel)) (by decide +kernel)
theorem q_509 : (Jvm.Cond.codeWith ({ cls := "RecordTimesLaw", name := "right", desc := "(LRecordTimes;IIZ)I" } : Jvm.MethodName) method_14_code (5 : Nat) (Option.some Jvm.ClassFile.FieldType.int) [((0 : Nat), (7 : Nat), (10 : Nat), (13 : Nat))]) ∈ wG := wG_of (List.mem_of_getElem? (i := 528) (by decide +kernel)) (by decide +kernel)
theorem q_510 : (Jvm.Cond.methodLink "RecordTimesLaw" (56 : Nat) ({ cls := "RecordTimes", name := "right", desc := "(IIZ)V" } : Jvm.MethodName)) ∈ wG := wG_of (List.mem_of_getElem? (i := 529) (by decide +kernel)) (by decide +kernel)
theorem q_511 : (Jvm.Cond.instanceMethod ({ cls := "RecordTimes", name := "right", desc := "(IIZ)V" } : Jvm.MethodName)) ∈ wG := wG_of (List.mem_of_getElem? (i := 530) (by decide +kernel)) (by decide +kernel)
theorem q_512 : (Jvm.Cond.selects "RecordTimes" ({ cls := "RecordTimes", name := "right", desc := "(IIZ)V" } : Jvm.MethodName) ({ cls := "RecordTimes", name := "right", desc := "(IIZ)V" } : Jvm.MethodName)) ∈ wG := wG_of (List.mem_of_getElem? (i := 531) (by decide +kernel)) (by decide +kernel)
theorem q_513 : (Jvm.Cond.code ({ cls := "RecordTimes", name := "right", desc := "(IIZ)V" } : Jvm.MethodName) prog_1_method_15_code (4 : Nat) (Option.none : Option Jvm.ClassFile.FieldType)) ∈ wG := wG_of (List.mem_of_getElem? (i := 532) (by decide +kernel)) (by decide +kernel)
theorem q_514 : (Jvm.Cond.methodLink "RecordTimes" (175 : Nat) ({ cls := "RecordTimes", name := "checkPerson", desc := "(I)V" } : Jvm.MethodName)) ∈ wG := wG_of (List.mem_of_getElem? (i := 533) (by decide +kernel)) (by decide +kernel)
theorem q_515 : (Jvm.Cond.static ({ cls := "RecordTimes", name := "checkPerson", desc := "(I)V" } : Jvm.MethodName)) ∈ wG := wG_of (List.mem_of_getElem? (i := 534) (by decide +kernel)) (by decide +kernel)
theorem q_516 : (Jvm.Cond.code ({ cls := "RecordTimes", name := "checkPerson", desc := "(I)V" } : Jvm.MethodName) prog_1_method_24_code (1 : Nat) (Option.none : Option Jvm.ClassFile.FieldType)) ∈ wG := wG_of (List.mem_of_getElem? (i := 535) (by decide +kernel)) (by decide +kernel)
theorem q_518 : (Jvm.Cond.methodLink "RecordTimes" (178 : Nat) ({ cls := "RecordTimes$Listeners", name := "allow", desc := "(IIZ)V" } : Jvm.MethodName)) ∈ wG := wG_of (List.mem_of_getElem? (i := 537) (by decide +kernel)) (by decide +kernel)
theorem q_519 : (Jvm.Cond.instanceMethod ({ cls := "RecordTimes$Listeners", name := "allow", desc := "(IIZ)V" } : Jvm.MethodName)) ∈ wG := wG_of (List.mem_of_getElem? (i := 538) (by decide +kernel)) (by decide +kernel)
theorem q_520 : (Jvm.Cond.selects "RecordTimes$Listeners" ({ cls := "RecordTimes$Listeners", name := "allow", desc := "(IIZ)V" } : Jvm.MethodName) ({ cls := "RecordTimes$Listeners", name := "allow", desc := "(IIZ)V" } : Jvm.MethodName)) ∈ wG := wG_of (List.mem_of_getElem? (i := 539) (by decide +kernel)) (by decide +kernel)
theorem q_521 : (Jvm.Cond.code ({ cls := "RecordTimes$Listeners", name := "allow", desc := "(IIZ)V" } : Jvm.MethodName) prog_4_method_2_code (4 : Nat) (Option.none : Option Jvm.ClassFile.FieldType)) ∈ wG := wG_of (List.mem_of_getElem? (i := 540) (by decide +kernel)) (by decide +kernel)
theorem q_522 : (Jvm.Cond.methodLink "RecordTimesLaw" (136 : Nat) ({ cls := "RecordTimesLaw", name := "listen", desc := "(LRecordTimes;II[J)I" } : Jvm.MethodName)) ∈ wG := wG_of (List.mem_of_getElem? (i := 541) (by decide +kernel)) (by decide +kernel)
theorem q_523 : (Jvm.Cond.static ({ cls := "RecordTimesLaw", name := "listen", desc := "(LRecordTimes;II[J)I" } : Jvm.MethodName)) ∈ wG := wG_of (List.mem_of_getElem? (i := 542) (by decide +kernel)) (by decide +kernel)
theorem q_524 : (Jvm.Cond.codeWith ({ cls := "RecordTimesLaw", name := "listen", desc := "(LRecordTimes;II[J)I" } : Jvm.MethodName) method_15_code (5 : Nat) (Option.some Jvm.ClassFile.FieldType.int) [((0 : Nat), (10 : Nat), (13 : Nat), (13 : Nat)), ((0 : Nat), (10 : Nat), (17 : Nat), (37 : Nat))]) ∈ wG := wG_of (List.mem_of_getElem? (i := 543) (by decide +kernel)) (by decide +kernel)
theorem q_525 : (Jvm.Cond.methodLink "RecordTimesLaw" (60 : Nat) ({ cls := "RecordTimes", name := "listen", desc := "(II)I" } : Jvm.MethodName)) ∈ wG := wG_of (List.mem_of_getElem? (i := 544) (by decide +kernel)) (by decide +kernel)
theorem q_526 : (Jvm.Cond.instanceMethod ({ cls := "RecordTimes", name := "listen", desc := "(II)I" } : Jvm.MethodName)) ∈ wG := wG_of (List.mem_of_getElem? (i := 545) (by decide +kernel)) (by decide +kernel)
theorem q_527 : (Jvm.Cond.selects "RecordTimes" ({ cls := "RecordTimes", name := "listen", desc := "(II)I" } : Jvm.MethodName) ({ cls := "RecordTimes", name := "listen", desc := "(II)I" } : Jvm.MethodName)) ∈ wG := wG_of (List.mem_of_getElem? (i := 546) (by decide +kernel)) (by decide +kernel)
theorem q_528 : (Jvm.Cond.code ({ cls := "RecordTimes", name := "listen", desc := "(II)I" } : Jvm.MethodName) prog_1_method_16_code (4 : Nat) (Option.some Jvm.ClassFile.FieldType.int)) ∈ wG := wG_of (List.mem_of_getElem? (i := 547) (by decide +kernel)) (by decide +kernel)
theorem q_529 : (Jvm.Cond.methodLink "RecordTimes" (182 : Nat) ({ cls := "RecordTimes$Listeners", name := "mayHear", desc := "(II)Z" } : Jvm.MethodName)) ∈ wG := wG_of (List.mem_of_getElem? (i := 548) (by decide +kernel)) (by decide +kernel)
theorem q_530 : (Jvm.Cond.instanceMethod ({ cls := "RecordTimes$Listeners", name := "mayHear", desc := "(II)Z" } : Jvm.MethodName)) ∈ wG := wG_of (List.mem_of_getElem? (i := 549) (by decide +kernel)) (by decide +kernel)
theorem q_531 : (Jvm.Cond.selects "RecordTimes$Listeners" ({ cls := "RecordTimes$Listeners", name := "mayHear", desc := "(II)Z" } : Jvm.MethodName) ({ cls := "RecordTimes$Listeners", name := "mayHear", desc := "(II)Z" } : Jvm.MethodName)) ∈ wG := wG_of (List.mem_of_getElem? (i := 550) (by decide +kernel)) (by decide +kernel)
theorem q_532 : (Jvm.Cond.code ({ cls := "RecordTimes$Listeners", name := "mayHear", desc := "(II)Z" } : Jvm.MethodName) prog_4_method_3_code (3 : Nat) (Option.some Jvm.ClassFile.FieldType.boolean)) ∈ wG := wG_of (List.mem_of_getElem? (i := 551) (by decide +kernel)) (by decide +kernel)
theorem q_533 : (Jvm.Cond.methodLink "RecordTimes" (186 : Nat) ({ cls := "RecordTimes$Listeners", name := "keepRow", desc := "(IIZ)V" } : Jvm.MethodName)) ∈ wG := wG_of (List.mem_of_getElem? (i := 552) (by decide +kernel)) (by decide +kernel)
theorem q_534 : (Jvm.Cond.instanceMethod ({ cls := "RecordTimes$Listeners", name := "keepRow", desc := "(IIZ)V" } : Jvm.MethodName)) ∈ wG := wG_of (List.mem_of_getElem? (i := 553) (by decide +kernel)) (by decide +kernel)
theorem q_535 : (Jvm.Cond.selects "RecordTimes$Listeners" ({ cls := "RecordTimes$Listeners", name := "keepRow", desc := "(IIZ)V" } : Jvm.MethodName) ({ cls := "RecordTimes$Listeners", name := "keepRow", desc := "(IIZ)V" } : Jvm.MethodName)) ∈ wG := wG_of (List.mem_of_getElem? (i := 554) (by decide +kernel)) (by decide +kernel)
theorem q_536 : (Jvm.Cond.code ({ cls := "RecordTimes$Listeners", name := "keepRow", desc := "(IIZ)V" } : Jvm.MethodName) prog_4_method_4_code (5 : Nat) (Option.none : Option Jvm.ClassFile.FieldType)) ∈ wG := wG_of (List.mem_of_getElem? (i := 555) (by decide +kernel)) (by decide +kernel)
theorem q_537 : (Jvm.Cond.methodLink "RecordTimes$Listeners" (29 : Nat) ({ cls := "java/lang/Math", name := "floorMod", desc := "(II)I" } : Jvm.MethodName)) ∈ wG := wG_of (List.mem_of_getElem? (i := 556) (by decide +kernel)) (by decide +kernel)
theorem q_538 : (Jvm.Cond.static ({ cls := "java/lang/Math", name := "floorMod", desc := "(II)I" } : Jvm.MethodName)) ∈ wG := wG_of (List.mem_of_getElem? (i := 557) (by decide +kernel)) (by decide +kernel)
theorem q_539 : (Jvm.Cond.code ({ cls := "java/lang/Math", name := "floorMod", desc := "(II)I" } : Jvm.MethodName) prog_13_method_50_code (3 : Nat) (Option.some Jvm.ClassFile.FieldType.int)) ∈ wG := wG_of (List.mem_of_getElem? (i := 558) (by decide +kernel)) (by decide +kernel)
theorem q_541 : (Jvm.Cond.methodLink "RecordTimesLaw" (139 : Nat) ({ cls := "RecordTimesLaw", name := "row", desc := "(LRecordTimes;II[J)I" } : Jvm.MethodName)) ∈ wG := wG_of (List.mem_of_getElem? (i := 560) (by decide +kernel)) (by decide +kernel)
theorem q_542 : (Jvm.Cond.static ({ cls := "RecordTimesLaw", name := "row", desc := "(LRecordTimes;II[J)I" } : Jvm.MethodName)) ∈ wG := wG_of (List.mem_of_getElem? (i := 561) (by decide +kernel)) (by decide +kernel)
theorem q_543 : (Jvm.Cond.codeWith ({ cls := "RecordTimesLaw", name := "row", desc := "(LRecordTimes;II[J)I" } : Jvm.MethodName) method_16_code (5 : Nat) (Option.some Jvm.ClassFile.FieldType.int) [((0 : Nat), (10 : Nat), (13 : Nat), (13 : Nat))]) ∈ wG := wG_of (List.mem_of_getElem? (i := 562) (by decide +kernel)) (by decide +kernel)
theorem q_544 : (Jvm.Cond.methodLink "RecordTimesLaw" (63 : Nat) ({ cls := "RecordTimes", name := "row", desc := "(II)I" } : Jvm.MethodName)) ∈ wG := wG_of (List.mem_of_getElem? (i := 563) (by decide +kernel)) (by decide +kernel)
theorem q_545 : (Jvm.Cond.instanceMethod ({ cls := "RecordTimes", name := "row", desc := "(II)I" } : Jvm.MethodName)) ∈ wG := wG_of (List.mem_of_getElem? (i := 564) (by decide +kernel)) (by decide +kernel)
theorem q_546 : (Jvm.Cond.selects "RecordTimes" ({ cls := "RecordTimes", name := "row", desc := "(II)I" } : Jvm.MethodName) ({ cls := "RecordTimes", name := "row", desc := "(II)I" } : Jvm.MethodName)) ∈ wG := wG_of (List.mem_of_getElem? (i := 565) (by decide +kernel)) (by decide +kernel)
theorem q_547 : (Jvm.Cond.code ({ cls := "RecordTimes", name := "row", desc := "(II)I" } : Jvm.MethodName) prog_1_method_17_code (4 : Nat) (Option.some Jvm.ClassFile.FieldType.int)) ∈ wG := wG_of (List.mem_of_getElem? (i := 566) (by decide +kernel)) (by decide +kernel)
theorem q_548 : (Jvm.Cond.methodLink "RecordTimes" (191 : Nat) ({ cls := "RecordTimes$Listeners", name := "isKept", desc := "(I)Z" } : Jvm.MethodName)) ∈ wG := wG_of (List.mem_of_getElem? (i := 567) (by decide +kernel)) (by decide +kernel)
theorem q_549 : (Jvm.Cond.instanceMethod ({ cls := "RecordTimes$Listeners", name := "isKept", desc := "(I)Z" } : Jvm.MethodName)) ∈ wG := wG_of (List.mem_of_getElem? (i := 568) (by decide +kernel)) (by decide +kernel)
theorem q_550 : (Jvm.Cond.selects "RecordTimes$Listeners" ({ cls := "RecordTimes$Listeners", name := "isKept", desc := "(I)Z" } : Jvm.MethodName) ({ cls := "RecordTimes$Listeners", name := "isKept", desc := "(I)Z" } : Jvm.MethodName)) ∈ wG := wG_of (List.mem_of_getElem? (i := 569) (by decide +kernel)) (by decide +kernel)
theorem q_551 : (Jvm.Cond.code ({ cls := "RecordTimes$Listeners", name := "isKept", desc := "(I)Z" } : Jvm.MethodName) prog_4_method_5_code (2 : Nat) (Option.some Jvm.ClassFile.FieldType.boolean)) ∈ wG := wG_of (List.mem_of_getElem? (i := 570) (by decide +kernel)) (by decide +kernel)
theorem q_554 : (Jvm.Cond.methodLink "RecordTimesLaw" (142 : Nat) ({ cls := "RecordTimesLaw", name := "poke", desc := "(LRecordTimes;III)I" } : Jvm.MethodName)) ∈ wG := wG_of (List.mem_of_getElem? (i := 573) (by decide +kernel)) (by decide +kernel)
theorem q_555 : (Jvm.Cond.static ({ cls := "RecordTimesLaw", name := "poke", desc := "(LRecordTimes;III)I" } : Jvm.MethodName)) ∈ wG := wG_of (List.mem_of_getElem? (i := 574) (by decide +kernel)) (by decide +kernel)
theorem q_556 : (Jvm.Cond.codeWith ({ cls := "RecordTimesLaw", name := "poke", desc := "(LRecordTimes;III)I" } : Jvm.MethodName) method_17_code (5 : Nat) (Option.some Jvm.ClassFile.FieldType.int) [((0 : Nat), (7 : Nat), (10 : Nat), (13 : Nat)), ((0 : Nat), (7 : Nat), (14 : Nat), (15 : Nat)), ((0 : Nat), (7 : Nat), (18 : Nat), (37 : Nat))]) ∈ wG := wG_of (List.mem_of_getElem? (i := 575) (by decide +kernel)) (by decide +kernel)
theorem q_557 : (Jvm.Cond.methodLink "RecordTimesLaw" (66 : Nat) ({ cls := "RecordTimes", name := "poke", desc := "(III)V" } : Jvm.MethodName)) ∈ wG := wG_of (List.mem_of_getElem? (i := 576) (by decide +kernel)) (by decide +kernel)
theorem q_558 : (Jvm.Cond.instanceMethod ({ cls := "RecordTimes", name := "poke", desc := "(III)V" } : Jvm.MethodName)) ∈ wG := wG_of (List.mem_of_getElem? (i := 577) (by decide +kernel)) (by decide +kernel)
theorem q_559 : (Jvm.Cond.selects "RecordTimes" ({ cls := "RecordTimes", name := "poke", desc := "(III)V" } : Jvm.MethodName) ({ cls := "RecordTimes", name := "poke", desc := "(III)V" } : Jvm.MethodName)) ∈ wG := wG_of (List.mem_of_getElem? (i := 578) (by decide +kernel)) (by decide +kernel)
theorem q_560 : (Jvm.Cond.code ({ cls := "RecordTimes", name := "poke", desc := "(III)V" } : Jvm.MethodName) prog_1_method_18_code (4 : Nat) (Option.none : Option Jvm.ClassFile.FieldType)) ∈ wG := wG_of (List.mem_of_getElem? (i := 579) (by decide +kernel)) (by decide +kernel)
theorem q_563 : (Jvm.Cond.methodLink "RecordTimes" (212 : Nat) ({ cls := "RecordTimes$Slots", name := "alter", desc := "(III)V" } : Jvm.MethodName)) ∈ wG := wG_of (List.mem_of_getElem? (i := 582) (by decide +kernel)) (by decide +kernel)
theorem q_564 : (Jvm.Cond.instanceMethod ({ cls := "RecordTimes$Slots", name := "alter", desc := "(III)V" } : Jvm.MethodName)) ∈ wG := wG_of (List.mem_of_getElem? (i := 583) (by decide +kernel)) (by decide +kernel)
theorem q_565 : (Jvm.Cond.selects "RecordTimes$Slots" ({ cls := "RecordTimes$Slots", name := "alter", desc := "(III)V" } : Jvm.MethodName) ({ cls := "RecordTimes$Slots", name := "alter", desc := "(III)V" } : Jvm.MethodName)) ∈ wG := wG_of (List.mem_of_getElem? (i := 584) (by decide +kernel)) (by decide +kernel)
theorem q_566 : (Jvm.Cond.code ({ cls := "RecordTimes$Slots", name := "alter", desc := "(III)V" } : Jvm.MethodName) prog_6_method_6_code (4 : Nat) (Option.none : Option Jvm.ClassFile.FieldType)) ∈ wG := wG_of (List.mem_of_getElem? (i := 585) (by decide +kernel)) (by decide +kernel)
theorem q_567 : (Jvm.Cond.methodLink "RecordTimesLaw" (150 : Nat) ({ cls := "RecordTimesLaw", name := "count", desc := "(LRecordTimes;I[J)I" } : Jvm.MethodName)) ∈ wG := wG_of (List.mem_of_getElem? (i := 586) (by decide +kernel)) (by decide +kernel)
theorem q_568 : (Jvm.Cond.static ({ cls := "RecordTimesLaw", name := "count", desc := "(LRecordTimes;I[J)I" } : Jvm.MethodName)) ∈ wG := wG_of (List.mem_of_getElem? (i := 587) (by decide +kernel)) (by decide +kernel)
theorem q_569 : (Jvm.Cond.codeWith ({ cls := "RecordTimesLaw", name := "count", desc := "(LRecordTimes;I[J)I" } : Jvm.MethodName) method_18_code (4 : Nat) (Option.some Jvm.ClassFile.FieldType.int) [((0 : Nat), (9 : Nat), (12 : Nat), (13 : Nat))]) ∈ wG := wG_of (List.mem_of_getElem? (i := 588) (by decide +kernel)) (by decide +kernel)
theorem q_570 : (Jvm.Cond.methodLink "RecordTimesLaw" (70 : Nat) ({ cls := "RecordTimes", name := "count", desc := "(I)I" } : Jvm.MethodName)) ∈ wG := wG_of (List.mem_of_getElem? (i := 589) (by decide +kernel)) (by decide +kernel)
theorem q_571 : (Jvm.Cond.instanceMethod ({ cls := "RecordTimes", name := "count", desc := "(I)I" } : Jvm.MethodName)) ∈ wG := wG_of (List.mem_of_getElem? (i := 590) (by decide +kernel)) (by decide +kernel)
theorem q_572 : (Jvm.Cond.selects "RecordTimes" ({ cls := "RecordTimes", name := "count", desc := "(I)I" } : Jvm.MethodName) ({ cls := "RecordTimes", name := "count", desc := "(I)I" } : Jvm.MethodName)) ∈ wG := wG_of (List.mem_of_getElem? (i := 591) (by decide +kernel)) (by decide +kernel)
theorem q_573 : (Jvm.Cond.code ({ cls := "RecordTimes", name := "count", desc := "(I)I" } : Jvm.MethodName) prog_1_method_20_code (2 : Nat) (Option.some Jvm.ClassFile.FieldType.int)) ∈ wG := wG_of (List.mem_of_getElem? (i := 592) (by decide +kernel)) (by decide +kernel)
theorem q_575 : (Jvm.Cond.classLink "RecordTimesLaw" (74 : Nat) "RecordTimesModel") ∈ wG := wG_of (List.mem_of_getElem? (i := 594) (by decide +kernel)) (by decide +kernel)
theorem q_576 : (Jvm.Cond.instantiable "RecordTimesModel" (20 : Nat)) ∈ wG := wG_of (List.mem_of_getElem? (i := 595) (by decide +kernel)) (by decide +kernel)
theorem q_577 : (Jvm.Cond.methodLink "RecordTimesLaw" (76 : Nat) ({ cls := "RecordTimesModel", name := "<init>", desc := "()V" } : Jvm.MethodName)) ∈ wG := wG_of (List.mem_of_getElem? (i := 596) (by decide +kernel)) (by decide +kernel)
theorem q_578 : (Jvm.Cond.instanceMethod ({ cls := "RecordTimesModel", name := "<init>", desc := "()V" } : Jvm.MethodName)) ∈ wG := wG_of (List.mem_of_getElem? (i := 597) (by decide +kernel)) (by decide +kernel)
theorem q_579 : (Jvm.Cond.code ({ cls := "RecordTimesModel", name := "<init>", desc := "()V" } : Jvm.MethodName) prog_8_method_1_code (1 : Nat) (Option.none : Option Jvm.ClassFile.FieldType)) ∈ wG := wG_of (List.mem_of_getElem? (i := 598) (by decide +kernel)) (by decide +kernel)
theorem q_580 : (Jvm.Cond.methodLink "RecordTimesModel" (1 : Nat) ({ cls := "java/lang/Object", name := "<init>", desc := "()V" } : Jvm.MethodName)) ∈ wG := wG_of (List.mem_of_getElem? (i := 599) (by decide +kernel)) (by decide +kernel)
theorem q_581 : (Jvm.Cond.fieldLink "RecordTimesModel" (56 : Nat) "RecordTimesModel" "thrown" "I") ∈ wG := wG_of (List.mem_of_getElem? (i := 600) (by decide +kernel)) (by decide +kernel)
theorem q_582 : (Jvm.Cond.fieldLink "RecordTimesModel" (60 : Nat) "RecordTimesModel" "slots" "I") ∈ wG := wG_of (List.mem_of_getElem? (i := 601) (by decide +kernel)) (by decide +kernel)
theorem q_583 : (Jvm.Cond.fieldLink "RecordTimesModel" (7 : Nat) "RecordTimesModel" "source" "[I") ∈ wG := wG_of (List.mem_of_getElem? (i := 602) (by decide +kernel)) (by decide +kernel)
theorem q_584 : (Jvm.Cond.fieldLink "RecordTimesModel" (13 : Nat) "RecordTimesModel" "clock" "[I") ∈ wG := wG_of (List.mem_of_getElem? (i := 603) (by decide +kernel)) (by decide +kernel)
theorem q_585 : (Jvm.Cond.fieldLink "RecordTimesModel" (16 : Nat) "RecordTimesModel" "length" "[I") ∈ wG := wG_of (List.mem_of_getElem? (i := 604) (by decide +kernel)) (by decide +kernel)
theorem q_586 : (Jvm.Cond.fieldLink "RecordTimesModel" (19 : Nat) "RecordTimesModel" "bytes" "[I") ∈ wG := wG_of (List.mem_of_getElem? (i := 605) (by decide +kernel)) (by decide +kernel)
theorem q_587 : (Jvm.Cond.fieldLink "RecordTimesModel" (22 : Nat) "RecordTimesModel" "unit" "[I") ∈ wG := wG_of (List.mem_of_getElem? (i := 606) (by decide +kernel)) (by decide +kernel)
theorem q_588 : (Jvm.Cond.fieldLink "RecordTimesModel" (25 : Nat) "RecordTimesModel" "incident" "[I") ∈ wG := wG_of (List.mem_of_getElem? (i := 607) (by decide +kernel)) (by decide +kernel)
theorem q_589 : (Jvm.Cond.fieldLink "RecordTimesModel" (28 : Nat) "RecordTimesModel" "kept" "[I") ∈ wG := wG_of (List.mem_of_getElem? (i := 608) (by decide +kernel)) (by decide +kernel)
theorem q_590 : (Jvm.Cond.fieldLink "RecordTimesModel" (31 : Nat) "RecordTimesModel" "dropped" "[Z") ∈ wG := wG_of (List.mem_of_getElem? (i := 609) (by decide +kernel)) (by decide +kernel)
theorem q_591 : (Jvm.Cond.fieldLink "RecordTimesModel" (81 : Nat) "RecordTimesModel" "marks" "I") ∈ wG := wG_of (List.mem_of_getElem? (i := 610) (by decide +kernel)) (by decide +kernel)
theorem q_592 : (Jvm.Cond.fieldLink "RecordTimesModel" (35 : Nat) "RecordTimesModel" "markSource" "[I") ∈ wG := wG_of (List.mem_of_getElem? (i := 611) (by decide +kernel)) (by decide +kernel)
theorem q_593 : (Jvm.Cond.fieldLink "RecordTimesModel" (38 : Nat) "RecordTimesModel" "markOffset" "[I") ∈ wG := wG_of (List.mem_of_getElem? (i := 612) (by decide +kernel)) (by decide +kernel)
theorem q_594 : (Jvm.Cond.fieldLink "RecordTimesModel" (41 : Nat) "RecordTimesModel" "held" "[Z") ∈ wG := wG_of (List.mem_of_getElem? (i := 613) (by decide +kernel)) (by decide +kernel)
theorem q_595 : (Jvm.Cond.fieldLink "RecordTimesModel" (44 : Nat) "RecordTimesModel" "rights" "[Z") ∈ wG := wG_of (List.mem_of_getElem? (i := 614) (by decide +kernel)) (by decide +kernel)
theorem q_596 : (Jvm.Cond.fieldLink "RecordTimesModel" (120 : Nat) "RecordTimesModel" "certificates" "I") ∈ wG := wG_of (List.mem_of_getElem? (i := 615) (by decide +kernel)) (by decide +kernel)
theorem q_597 : (Jvm.Cond.fieldLink "RecordTimesModel" (47 : Nat) "RecordTimesModel" "certified" "[I") ∈ wG := wG_of (List.mem_of_getElem? (i := 616) (by decide +kernel)) (by decide +kernel)
theorem q_598 : (Jvm.Cond.fieldLink "RecordTimesModel" (50 : Nat) "RecordTimesModel" "sumThen" "[I") ∈ wG := wG_of (List.mem_of_getElem? (i := 617) (by decide +kernel)) (by decide +kernel)
theorem q_599 : (Jvm.Cond.fieldLink "RecordTimesModel" (123 : Nat) "RecordTimesModel" "rows" "I") ∈ wG := wG_of (List.mem_of_getElem? (i := 618) (by decide +kernel)) (by decide +kernel)
theorem q_600 : (Jvm.Cond.fieldLink "RecordTimesModel" (53 : Nat) "RecordTimesModel" "told" "[I") ∈ wG := wG_of (List.mem_of_getElem? (i := 619) (by decide +kernel)) (by decide +kernel)
theorem q_642 : (Jvm.Cond.methodLink "RecordTimesLaw" (85 : Nat) ({ cls := "RecordTimesModel", name := "thrown", desc := "()I" } : Jvm.MethodName)) ∈ wG := wG_of (List.mem_of_getElem? (i := 661) (by decide +kernel)) (by decide +kernel)
theorem q_643 : (Jvm.Cond.instanceMethod ({ cls := "RecordTimesModel", name := "thrown", desc := "()I" } : Jvm.MethodName)) ∈ wG := wG_of (List.mem_of_getElem? (i := 662) (by decide +kernel)) (by decide +kernel)
theorem q_644 : (Jvm.Cond.selects "RecordTimesModel" ({ cls := "RecordTimesModel", name := "thrown", desc := "()I" } : Jvm.MethodName) ({ cls := "RecordTimesModel", name := "thrown", desc := "()I" } : Jvm.MethodName)) ∈ wG := wG_of (List.mem_of_getElem? (i := 663) (by decide +kernel)) (by decide +kernel)
theorem q_645 : (Jvm.Cond.code ({ cls := "RecordTimesModel", name := "thrown", desc := "()I" } : Jvm.MethodName) prog_8_method_2_code (1 : Nat) (Option.some Jvm.ClassFile.FieldType.int)) ∈ wG := wG_of (List.mem_of_getElem? (i := 664) (by decide +kernel)) (by decide +kernel)
theorem q_646 : (Jvm.Cond.methodLink "RecordTimesLaw" (84 : Nat) ({ cls := "RecordTimesModel", name := "slot", desc := "(IIIJII)I" } : Jvm.MethodName)) ∈ wG := wG_of (List.mem_of_getElem? (i := 665) (by decide +kernel)) (by decide +kernel)
theorem q_647 : (Jvm.Cond.instanceMethod ({ cls := "RecordTimesModel", name := "slot", desc := "(IIIJII)I" } : Jvm.MethodName)) ∈ wG := wG_of (List.mem_of_getElem? (i := 666) (by decide +kernel)) (by decide +kernel)
theorem q_648 : (Jvm.Cond.selects "RecordTimesModel" ({ cls := "RecordTimesModel", name := "slot", desc := "(IIIJII)I" } : Jvm.MethodName) ({ cls := "RecordTimesModel", name := "slot", desc := "(IIIJII)I" } : Jvm.MethodName)) ∈ wG := wG_of (List.mem_of_getElem? (i := 667) (by decide +kernel)) (by decide +kernel)
theorem q_649 : (Jvm.Cond.code ({ cls := "RecordTimesModel", name := "slot", desc := "(IIIJII)I" } : Jvm.MethodName) prog_8_method_8_code (11 : Nat) (Option.some Jvm.ClassFile.FieldType.int)) ∈ wG := wG_of (List.mem_of_getElem? (i := 668) (by decide +kernel)) (by decide +kernel)
theorem q_650 : (Jvm.Cond.methodLink "RecordTimesModel" (63 : Nat) ({ cls := "RecordTimesModel", name := "in", desc := "(III)Z" } : Jvm.MethodName)) ∈ wG := wG_of (List.mem_of_getElem? (i := 669) (by decide +kernel)) (by decide +kernel)
theorem q_651 : (Jvm.Cond.static ({ cls := "RecordTimesModel", name := "in", desc := "(III)Z" } : Jvm.MethodName)) ∈ wG := wG_of (List.mem_of_getElem? (i := 670) (by decide +kernel)) (by decide +kernel)
theorem q_652 : (Jvm.Cond.code ({ cls := "RecordTimesModel", name := "in", desc := "(III)Z" } : Jvm.MethodName) prog_8_method_4_code (3 : Nat) (Option.some Jvm.ClassFile.FieldType.boolean)) ∈ wG := wG_of (List.mem_of_getElem? (i := 671) (by decide +kernel)) (by decide +kernel)
theorem q_653 : (Jvm.Cond.constant "RecordTimesModel" (72 : Nat) (9999999 : Int32)) ∈ wG := wG_of (List.mem_of_getElem? (i := 672) (by decide +kernel)) (by decide +kernel)
theorem q_654 : (Jvm.Cond.methodLink "RecordTimesModel" (73 : Nat) ({ cls := "RecordTimesModel", name := "throwing", desc := "(ZZZ)Z" } : Jvm.MethodName)) ∈ wG := wG_of (List.mem_of_getElem? (i := 673) (by decide +kernel)) (by decide +kernel)
theorem q_656 : (Jvm.Cond.instanceMethod ({ cls := "RecordTimesModel", name := "throwing", desc := "(ZZZ)Z" } : Jvm.MethodName)) ∈ wG := wG_of (List.mem_of_getElem? (i := 675) (by decide +kernel)) (by decide +kernel)
theorem q_657 : (Jvm.Cond.code ({ cls := "RecordTimesModel", name := "throwing", desc := "(ZZZ)Z" } : Jvm.MethodName) prog_8_method_3_code (4 : Nat) (Option.some Jvm.ClassFile.FieldType.boolean)) ∈ wG := wG_of (List.mem_of_getElem? (i := 676) (by decide +kernel)) (by decide +kernel)
theorem q_658 : (Jvm.Cond.methodLink "RecordTimesModel" (77 : Nat) ({ cls := "RecordTimesModel", name := "sumOf", desc := "(I)I" } : Jvm.MethodName)) ∈ wG := wG_of (List.mem_of_getElem? (i := 677) (by decide +kernel)) (by decide +kernel)
theorem q_660 : (Jvm.Cond.instanceMethod ({ cls := "RecordTimesModel", name := "sumOf", desc := "(I)I" } : Jvm.MethodName)) ∈ wG := wG_of (List.mem_of_getElem? (i := 679) (by decide +kernel)) (by decide +kernel)
theorem q_661 : (Jvm.Cond.code ({ cls := "RecordTimesModel", name := "sumOf", desc := "(I)I" } : Jvm.MethodName) prog_8_method_7_code (4 : Nat) (Option.some Jvm.ClassFile.FieldType.int)) ∈ wG := wG_of (List.mem_of_getElem? (i := 680) (by decide +kernel)) (by decide +kernel)
theorem q_662 : (Jvm.Cond.methodLink "RecordTimesModel" (68 : Nat) ({ cls := "RecordTimesModel", name := "with", desc := "(II)I" } : Jvm.MethodName)) ∈ wG := wG_of (List.mem_of_getElem? (i := 681) (by decide +kernel)) (by decide +kernel)
theorem q_663 : (Jvm.Cond.static ({ cls := "RecordTimesModel", name := "with", desc := "(II)I" } : Jvm.MethodName)) ∈ wG := wG_of (List.mem_of_getElem? (i := 682) (by decide +kernel)) (by decide +kernel)
theorem q_664 : (Jvm.Cond.code ({ cls := "RecordTimesModel", name := "with", desc := "(II)I" } : Jvm.MethodName) prog_8_method_6_code (3 : Nat) (Option.some Jvm.ClassFile.FieldType.int)) ∈ wG := wG_of (List.mem_of_getElem? (i := 683) (by decide +kernel)) (by decide +kernel)
theorem q_665 : (Jvm.Cond.constant "RecordTimesModel" (67 : Nat) (-2048144789 : Int32)) ∈ wG := wG_of (List.mem_of_getElem? (i := 684) (by decide +kernel)) (by decide +kernel)
theorem q_666 : (Jvm.Cond.methodLink "RecordTimesLaw" (92 : Nat) ({ cls := "RecordTimesModel", name := "mark", desc := "(III)I" } : Jvm.MethodName)) ∈ wG := wG_of (List.mem_of_getElem? (i := 685) (by decide +kernel)) (by decide +kernel)
theorem q_667 : (Jvm.Cond.instanceMethod ({ cls := "RecordTimesModel", name := "mark", desc := "(III)I" } : Jvm.MethodName)) ∈ wG := wG_of (List.mem_of_getElem? (i := 686) (by decide +kernel)) (by decide +kernel)
theorem q_668 : (Jvm.Cond.selects "RecordTimesModel" ({ cls := "RecordTimesModel", name := "mark", desc := "(III)I" } : Jvm.MethodName) ({ cls := "RecordTimesModel", name := "mark", desc := "(III)I" } : Jvm.MethodName)) ∈ wG := wG_of (List.mem_of_getElem? (i := 687) (by decide +kernel)) (by decide +kernel)
theorem q_669 : (Jvm.Cond.code ({ cls := "RecordTimesModel", name := "mark", desc := "(III)I" } : Jvm.MethodName) prog_8_method_11_code (4 : Nat) (Option.some Jvm.ClassFile.FieldType.int)) ∈ wG := wG_of (List.mem_of_getElem? (i := 688) (by decide +kernel)) (by decide +kernel)
theorem q_670 : (Jvm.Cond.methodLink "RecordTimesLaw" (96 : Nat) ({ cls := "RecordTimesModel", name := "offset", desc := "(I)I" } : Jvm.MethodName)) ∈ wG := wG_of (List.mem_of_getElem? (i := 689) (by decide +kernel)) (by decide +kernel)
theorem q_671 : (Jvm.Cond.instanceMethod ({ cls := "RecordTimesModel", name := "offset", desc := "(I)I" } : Jvm.MethodName)) ∈ wG := wG_of (List.mem_of_getElem? (i := 690) (by decide +kernel)) (by decide +kernel)
theorem q_672 : (Jvm.Cond.selects "RecordTimesModel" ({ cls := "RecordTimesModel", name := "offset", desc := "(I)I" } : Jvm.MethodName) ({ cls := "RecordTimesModel", name := "offset", desc := "(I)I" } : Jvm.MethodName)) ∈ wG := wG_of (List.mem_of_getElem? (i := 691) (by decide +kernel)) (by decide +kernel)
theorem q_673 : (Jvm.Cond.code ({ cls := "RecordTimesModel", name := "offset", desc := "(I)I" } : Jvm.MethodName) prog_8_method_12_code (2 : Nat) (Option.some Jvm.ClassFile.FieldType.int)) ∈ wG := wG_of (List.mem_of_getElem? (i := 692) (by decide +kernel)) (by decide +kernel)
theorem q_674 : (Jvm.Cond.methodLink "RecordTimesModel" (87 : Nat) ({ cls := "RecordTimesModel", name := "offsetOf", desc := "(I)I" } : Jvm.MethodName)) ∈ wG := wG_of (List.mem_of_getElem? (i := 693) (by decide +kernel)) (by decide +kernel)
theorem q_676 : (Jvm.Cond.instanceMethod ({ cls := "RecordTimesModel", name := "offsetOf", desc := "(I)I" } : Jvm.MethodName)) ∈ wG := wG_of (List.mem_of_getElem? (i := 695) (by decide +kernel)) (by decide +kernel)
theorem q_677 : (Jvm.Cond.code ({ cls := "RecordTimesModel", name := "offsetOf", desc := "(I)I" } : Jvm.MethodName) prog_8_method_10_code (3 : Nat) (Option.some Jvm.ClassFile.FieldType.int)) ∈ wG := wG_of (List.mem_of_getElem? (i := 696) (by decide +kernel)) (by decide +kernel)
theorem q_678 : (Jvm.Cond.methodLink "RecordTimesModel" (84 : Nat) ({ cls := "RecordTimesModel", name := "firstMark", desc := "(I)I" } : Jvm.MethodName)) ∈ wG := wG_of (List.mem_of_getElem? (i := 697) (by decide +kernel)) (by decide +kernel)
theorem q_680 : (Jvm.Cond.instanceMethod ({ cls := "RecordTimesModel", name := "firstMark", desc := "(I)I" } : Jvm.MethodName)) ∈ wG := wG_of (List.mem_of_getElem? (i := 699) (by decide +kernel)) (by decide +kernel)
theorem q_681 : (Jvm.Cond.code ({ cls := "RecordTimesModel", name := "firstMark", desc := "(I)I" } : Jvm.MethodName) prog_8_method_9_code (3 : Nat) (Option.some Jvm.ClassFile.FieldType.int)) ∈ wG := wG_of (List.mem_of_getElem? (i := 700) (by decide +kernel)) (by decide +kernel)
theorem q_682 : (Jvm.Cond.methodLink "RecordTimesLaw" (99 : Nat) ({ cls := "RecordTimesModel", name := "contradiction", desc := "(I)I" } : Jvm.MethodName)) ∈ wG := wG_of (List.mem_of_getElem? (i := 701) (by decide +kernel)) (by decide +kernel)
theorem q_683 : (Jvm.Cond.instanceMethod ({ cls := "RecordTimesModel", name := "contradiction", desc := "(I)I" } : Jvm.MethodName)) ∈ wG := wG_of (List.mem_of_getElem? (i := 702) (by decide +kernel)) (by decide +kernel)
theorem q_684 : (Jvm.Cond.selects "RecordTimesModel" ({ cls := "RecordTimesModel", name := "contradiction", desc := "(I)I" } : Jvm.MethodName) ({ cls := "RecordTimesModel", name := "contradiction", desc := "(I)I" } : Jvm.MethodName)) ∈ wG := wG_of (List.mem_of_getElem? (i := 703) (by decide +kernel)) (by decide +kernel)
theorem q_685 : (Jvm.Cond.code ({ cls := "RecordTimesModel", name := "contradiction", desc := "(I)I" } : Jvm.MethodName) prog_8_method_13_code (5 : Nat) (Option.some Jvm.ClassFile.FieldType.int)) ∈ wG := wG_of (List.mem_of_getElem? (i := 704) (by decide +kernel)) (by decide +kernel)
theorem q_686 : (Jvm.Cond.methodLink "RecordTimesLaw" (103 : Nat) ({ cls := "RecordTimesModel", name := "find", desc := "(IIIII)I" } : Jvm.MethodName)) ∈ wG := wG_of (List.mem_of_getElem? (i := 705) (by decide +kernel)) (by decide +kernel)
theorem q_687 : (Jvm.Cond.instanceMethod ({ cls := "RecordTimesModel", name := "find", desc := "(IIIII)I" } : Jvm.MethodName)) ∈ wG := wG_of (List.mem_of_getElem? (i := 706) (by decide +kernel)) (by decide +kernel)
theorem q_688 : (Jvm.Cond.selects "RecordTimesModel" ({ cls := "RecordTimesModel", name := "find", desc := "(IIIII)I" } : Jvm.MethodName) ({ cls := "RecordTimesModel", name := "find", desc := "(IIIII)I" } : Jvm.MethodName)) ∈ wG := wG_of (List.mem_of_getElem? (i := 707) (by decide +kernel)) (by decide +kernel)
theorem q_689 : (Jvm.Cond.code ({ cls := "RecordTimesModel", name := "find", desc := "(IIIII)I" } : Jvm.MethodName) prog_8_method_19_code (6 : Nat) (Option.some Jvm.ClassFile.FieldType.int)) ∈ wG := wG_of (List.mem_of_getElem? (i := 708) (by decide +kernel)) (by decide +kernel)
theorem q_690 : (Jvm.Cond.methodLink "RecordTimesModel" (105 : Nat) ({ cls := "RecordTimesModel", name := "found", desc := "(IIIII)I" } : Jvm.MethodName)) ∈ wG := wG_of (List.mem_of_getElem? (i := 709) (by decide +kernel)) (by decide +kernel)
theorem q_692 : (Jvm.Cond.instanceMethod ({ cls := "RecordTimesModel", name := "found", desc := "(IIIII)I" } : Jvm.MethodName)) ∈ wG := wG_of (List.mem_of_getElem? (i := 711) (by decide +kernel)) (by decide +kernel)
theorem q_693 : (Jvm.Cond.code ({ cls := "RecordTimesModel", name := "found", desc := "(IIIII)I" } : Jvm.MethodName) prog_8_method_18_code (9 : Nat) (Option.some Jvm.ClassFile.FieldType.int)) ∈ wG := wG_of (List.mem_of_getElem? (i := 712) (by decide +kernel)) (by decide +kernel)
theorem q_694 : (Jvm.Cond.methodLink "RecordTimesModel" (97 : Nat) ({ cls := "RecordTimesModel", name := "fits", desc := "(IIIII)Z" } : Jvm.MethodName)) ∈ wG := wG_of (List.mem_of_getElem? (i := 713) (by decide +kernel)) (by decide +kernel)
theorem q_696 : (Jvm.Cond.instanceMethod ({ cls := "RecordTimesModel", name := "fits", desc := "(IIIII)Z" } : Jvm.MethodName)) ∈ wG := wG_of (List.mem_of_getElem? (i := 715) (by decide +kernel)) (by decide +kernel)
theorem q_697 : (Jvm.Cond.code ({ cls := "RecordTimesModel", name := "fits", desc := "(IIIII)Z" } : Jvm.MethodName) prog_8_method_17_code (6 : Nat) (Option.some Jvm.ClassFile.FieldType.boolean)) ∈ wG := wG_of (List.mem_of_getElem? (i := 716) (by decide +kernel)) (by decide +kernel)
theorem q_698 : (Jvm.Cond.methodLink "RecordTimesModel" (93 : Nat) ({ cls := "RecordTimesModel", name := "within", desc := "(III)I" } : Jvm.MethodName)) ∈ wG := wG_of (List.mem_of_getElem? (i := 717) (by decide +kernel)) (by decide +kernel)
theorem q_700 : (Jvm.Cond.instanceMethod ({ cls := "RecordTimesModel", name := "within", desc := "(III)I" } : Jvm.MethodName)) ∈ wG := wG_of (List.mem_of_getElem? (i := 719) (by decide +kernel)) (by decide +kernel)
theorem q_701 : (Jvm.Cond.code ({ cls := "RecordTimesModel", name := "within", desc := "(III)I" } : Jvm.MethodName) prog_8_method_16_code (6 : Nat) (Option.some Jvm.ClassFile.FieldType.int)) ∈ wG := wG_of (List.mem_of_getElem? (i := 720) (by decide +kernel)) (by decide +kernel)
theorem q_702 : (Jvm.Cond.methodLink "RecordTimesModel" (90 : Nat) ({ cls := "RecordTimesModel", name := "begin", desc := "(I)I" } : Jvm.MethodName)) ∈ wG := wG_of (List.mem_of_getElem? (i := 721) (by decide +kernel)) (by decide +kernel)
theorem q_704 : (Jvm.Cond.instanceMethod ({ cls := "RecordTimesModel", name := "begin", desc := "(I)I" } : Jvm.MethodName)) ∈ wG := wG_of (List.mem_of_getElem? (i := 723) (by decide +kernel)) (by decide +kernel)
theorem q_705 : (Jvm.Cond.code ({ cls := "RecordTimesModel", name := "begin", desc := "(I)I" } : Jvm.MethodName) prog_8_method_14_code (2 : Nat) (Option.some Jvm.ClassFile.FieldType.int)) ∈ wG := wG_of (List.mem_of_getElem? (i := 724) (by decide +kernel)) (by decide +kernel)
theorem q_706 : (Jvm.Cond.methodLink "RecordTimesModel" (101 : Nat) ({ cls := "RecordTimesModel", name := "goesAhead", desc := "(II)Z" } : Jvm.MethodName)) ∈ wG := wG_of (List.mem_of_getElem? (i := 725) (by decide +kernel)) (by decide +kernel)
theorem q_708 : (Jvm.Cond.instanceMethod ({ cls := "RecordTimesModel", name := "goesAhead", desc := "(II)Z" } : Jvm.MethodName)) ∈ wG := wG_of (List.mem_of_getElem? (i := 727) (by decide +kernel)) (by decide +kernel)
theorem q_709 : (Jvm.Cond.code ({ cls := "RecordTimesModel", name := "goesAhead", desc := "(II)Z" } : Jvm.MethodName) prog_8_method_15_code (5 : Nat) (Option.some Jvm.ClassFile.FieldType.boolean)) ∈ wG := wG_of (List.mem_of_getElem? (i := 728) (by decide +kernel)) (by decide +kernel)
theorem q_710 : (Jvm.Cond.methodLink "RecordTimesLaw" (106 : Nat) ({ cls := "RecordTimesModel", name := "time", desc := "(I)I" } : Jvm.MethodName)) ∈ wG := wG_of (List.mem_of_getElem? (i := 729) (by decide +kernel)) (by decide +kernel)
theorem q_711 : (Jvm.Cond.instanceMethod ({ cls := "RecordTimesModel", name := "time", desc := "(I)I" } : Jvm.MethodName)) ∈ wG := wG_of (List.mem_of_getElem? (i := 730) (by decide +kernel)) (by decide +kernel)
theorem q_712 : (Jvm.Cond.selects "RecordTimesModel" ({ cls := "RecordTimesModel", name := "time", desc := "(I)I" } : Jvm.MethodName) ({ cls := "RecordTimesModel", name := "time", desc := "(I)I" } : Jvm.MethodName)) ∈ wG := wG_of (List.mem_of_getElem? (i := 731) (by decide +kernel)) (by decide +kernel)
theorem q_713 : (Jvm.Cond.code ({ cls := "RecordTimesModel", name := "time", desc := "(I)I" } : Jvm.MethodName) prog_8_method_21_code (2 : Nat) (Option.some Jvm.ClassFile.FieldType.int)) ∈ wG := wG_of (List.mem_of_getElem? (i := 732) (by decide +kernel)) (by decide +kernel)
theorem q_714 : (Jvm.Cond.methodLink "RecordTimesModel" (109 : Nat) ({ cls := "RecordTimesModel", name := "isSlot", desc := "(I)Z" } : Jvm.MethodName)) ∈ wG := wG_of (List.mem_of_getElem? (i := 733) (by decide +kernel)) (by decide +kernel)
theorem q_716 : (Jvm.Cond.instanceMethod ({ cls := "RecordTimesModel", name := "isSlot", desc := "(I)Z" } : Jvm.MethodName)) ∈ wG := wG_of (List.mem_of_getElem? (i := 735) (by decide +kernel)) (by decide +kernel)
theorem q_717 : (Jvm.Cond.code ({ cls := "RecordTimesModel", name := "isSlot", desc := "(I)Z" } : Jvm.MethodName) prog_8_method_5_code (2 : Nat) (Option.some Jvm.ClassFile.FieldType.boolean)) ∈ wG := wG_of (List.mem_of_getElem? (i := 736) (by decide +kernel)) (by decide +kernel)
theorem q_718 : (Jvm.Cond.methodLink "RecordTimesModel" (113 : Nat) ({ cls := "RecordTimesModel", name := "isGone", desc := "(I)Z" } : Jvm.MethodName)) ∈ wG := wG_of (List.mem_of_getElem? (i := 737) (by decide +kernel)) (by decide +kernel)
theorem q_720 : (Jvm.Cond.instanceMethod ({ cls := "RecordTimesModel", name := "isGone", desc := "(I)Z" } : Jvm.MethodName)) ∈ wG := wG_of (List.mem_of_getElem? (i := 739) (by decide +kernel)) (by decide +kernel)
theorem q_721 : (Jvm.Cond.code ({ cls := "RecordTimesModel", name := "isGone", desc := "(I)Z" } : Jvm.MethodName) prog_8_method_20_code (2 : Nat) (Option.some Jvm.ClassFile.FieldType.boolean)) ∈ wG := wG_of (List.mem_of_getElem? (i := 740) (by decide +kernel)) (by decide +kernel)
theorem q_722 : (Jvm.Cond.methodLink "RecordTimesLaw" (109 : Nat) ({ cls := "RecordTimesModel", name := "sum", desc := "(I)I" } : Jvm.MethodName)) ∈ wG := wG_of (List.mem_of_getElem? (i := 741) (by decide +kernel)) (by decide +kernel)
theorem q_723 : (Jvm.Cond.instanceMethod ({ cls := "RecordTimesModel", name := "sum", desc := "(I)I" } : Jvm.MethodName)) ∈ wG := wG_of (List.mem_of_getElem? (i := 742) (by decide +kernel)) (by decide +kernel)
theorem q_724 : (Jvm.Cond.selects "RecordTimesModel" ({ cls := "RecordTimesModel", name := "sum", desc := "(I)I" } : Jvm.MethodName) ({ cls := "RecordTimesModel", name := "sum", desc := "(I)I" } : Jvm.MethodName)) ∈ wG := wG_of (List.mem_of_getElem? (i := 743) (by decide +kernel)) (by decide +kernel)
theorem q_725 : (Jvm.Cond.code ({ cls := "RecordTimesModel", name := "sum", desc := "(I)I" } : Jvm.MethodName) prog_8_method_22_code (2 : Nat) (Option.some Jvm.ClassFile.FieldType.int)) ∈ wG := wG_of (List.mem_of_getElem? (i := 744) (by decide +kernel)) (by decide +kernel)
theorem q_726 : (Jvm.Cond.methodLink "RecordTimesLaw" (112 : Nat) ({ cls := "RecordTimesModel", name := "part", desc := "(III)I" } : Jvm.MethodName)) ∈ wG := wG_of (List.mem_of_getElem? (i := 745) (by decide +kernel)) (by decide +kernel)
theorem q_727 : (Jvm.Cond.instanceMethod ({ cls := "RecordTimesModel", name := "part", desc := "(III)I" } : Jvm.MethodName)) ∈ wG := wG_of (List.mem_of_getElem? (i := 746) (by decide +kernel)) (by decide +kernel)
theorem q_728 : (Jvm.Cond.selects "RecordTimesModel" ({ cls := "RecordTimesModel", name := "part", desc := "(III)I" } : Jvm.MethodName) ({ cls := "RecordTimesModel", name := "part", desc := "(III)I" } : Jvm.MethodName)) ∈ wG := wG_of (List.mem_of_getElem? (i := 747) (by decide +kernel)) (by decide +kernel)
theorem q_729 : (Jvm.Cond.code ({ cls := "RecordTimesModel", name := "part", desc := "(III)I" } : Jvm.MethodName) prog_8_method_24_code (4 : Nat) (Option.some Jvm.ClassFile.FieldType.int)) ∈ wG := wG_of (List.mem_of_getElem? (i := 748) (by decide +kernel)) (by decide +kernel)
theorem q_730 : (Jvm.Cond.methodLink "RecordTimesModel" (116 : Nat) ({ cls := "RecordTimesModel", name := "sumWithin", desc := "(IIII)I" } : Jvm.MethodName)) ∈ wG := wG_of (List.mem_of_getElem? (i := 749) (by decide +kernel)) (by decide +kernel)
theorem q_732 : (Jvm.Cond.instanceMethod ({ cls := "RecordTimesModel", name := "sumWithin", desc := "(IIII)I" } : Jvm.MethodName)) ∈ wG := wG_of (List.mem_of_getElem? (i := 751) (by decide +kernel)) (by decide +kernel)
theorem q_733 : (Jvm.Cond.code ({ cls := "RecordTimesModel", name := "sumWithin", desc := "(IIII)I" } : Jvm.MethodName) prog_8_method_23_code (7 : Nat) (Option.some Jvm.ClassFile.FieldType.int)) ∈ wG := wG_of (List.mem_of_getElem? (i := 752) (by decide +kernel)) (by decide +kernel)
theorem q_734 : (Jvm.Cond.methodLink "RecordTimesLaw" (116 : Nat) ({ cls := "RecordTimesModel", name := "size", desc := "(II)I" } : Jvm.MethodName)) ∈ wG := wG_of (List.mem_of_getElem? (i := 753) (by decide +kernel)) (by decide +kernel)
theorem q_735 : (Jvm.Cond.instanceMethod ({ cls := "RecordTimesModel", name := "size", desc := "(II)I" } : Jvm.MethodName)) ∈ wG := wG_of (List.mem_of_getElem? (i := 754) (by decide +kernel)) (by decide +kernel)
theorem q_736 : (Jvm.Cond.selects "RecordTimesModel" ({ cls := "RecordTimesModel", name := "size", desc := "(II)I" } : Jvm.MethodName) ({ cls := "RecordTimesModel", name := "size", desc := "(II)I" } : Jvm.MethodName)) ∈ wG := wG_of (List.mem_of_getElem? (i := 755) (by decide +kernel)) (by decide +kernel)
theorem q_737 : (Jvm.Cond.code ({ cls := "RecordTimesModel", name := "size", desc := "(II)I" } : Jvm.MethodName) prog_8_method_25_code (5 : Nat) (Option.some Jvm.ClassFile.FieldType.int)) ∈ wG := wG_of (List.mem_of_getElem? (i := 756) (by decide +kernel)) (by decide +kernel)
theorem q_738 : (Jvm.Cond.methodLink "RecordTimesLaw" (120 : Nat) ({ cls := "RecordTimesModel", name := "export", desc := "(II)I" } : Jvm.MethodName)) ∈ wG := wG_of (List.mem_of_getElem? (i := 757) (by decide +kernel)) (by decide +kernel)
theorem q_739 : (Jvm.Cond.instanceMethod ({ cls := "RecordTimesModel", name := "export", desc := "(II)I" } : Jvm.MethodName)) ∈ wG := wG_of (List.mem_of_getElem? (i := 758) (by decide +kernel)) (by decide +kernel)
theorem q_740 : (Jvm.Cond.selects "RecordTimesModel" ({ cls := "RecordTimesModel", name := "export", desc := "(II)I" } : Jvm.MethodName) ({ cls := "RecordTimesModel", name := "export", desc := "(II)I" } : Jvm.MethodName)) ∈ wG := wG_of (List.mem_of_getElem? (i := 759) (by decide +kernel)) (by decide +kernel)
theorem q_741 : (Jvm.Cond.code ({ cls := "RecordTimesModel", name := "export", desc := "(II)I" } : Jvm.MethodName) prog_8_method_26_code (6 : Nat) (Option.some Jvm.ClassFile.FieldType.int)) ∈ wG := wG_of (List.mem_of_getElem? (i := 760) (by decide +kernel)) (by decide +kernel)
theorem q_742 : (Jvm.Cond.methodLink "RecordTimesLaw" (124 : Nat) ({ cls := "RecordTimesModel", name := "hold", desc := "(IZ)V" } : Jvm.MethodName)) ∈ wG := wG_of (List.mem_of_getElem? (i := 761) (by decide +kernel)) (by decide +kernel)
theorem q_743 : (Jvm.Cond.instanceMethod ({ cls := "RecordTimesModel", name := "hold", desc := "(IZ)V" } : Jvm.MethodName)) ∈ wG := wG_of (List.mem_of_getElem? (i := 762) (by decide +kernel)) (by decide +kernel)
theorem q_744 : (Jvm.Cond.selects "RecordTimesModel" ({ cls := "RecordTimesModel", name := "hold", desc := "(IZ)V" } : Jvm.MethodName) ({ cls := "RecordTimesModel", name := "hold", desc := "(IZ)V" } : Jvm.MethodName)) ∈ wG := wG_of (List.mem_of_getElem? (i := 763) (by decide +kernel)) (by decide +kernel)
theorem q_745 : (Jvm.Cond.code ({ cls := "RecordTimesModel", name := "hold", desc := "(IZ)V" } : Jvm.MethodName) prog_8_method_27_code (4 : Nat) (Option.none : Option Jvm.ClassFile.FieldType)) ∈ wG := wG_of (List.mem_of_getElem? (i := 764) (by decide +kernel)) (by decide +kernel)
theorem q_746 : (Jvm.Cond.methodLink "RecordTimesLaw" (127 : Nat) ({ cls := "RecordTimesModel", name := "drop", desc := "(I)I" } : Jvm.MethodName)) ∈ wG := wG_of (List.mem_of_getElem? (i := 765) (by decide +kernel)) (by decide +kernel)
theorem q_747 : (Jvm.Cond.instanceMethod ({ cls := "RecordTimesModel", name := "drop", desc := "(I)I" } : Jvm.MethodName)) ∈ wG := wG_of (List.mem_of_getElem? (i := 766) (by decide +kernel)) (by decide +kernel)
theorem q_748 : (Jvm.Cond.selects "RecordTimesModel" ({ cls := "RecordTimesModel", name := "drop", desc := "(I)I" } : Jvm.MethodName) ({ cls := "RecordTimesModel", name := "drop", desc := "(I)I" } : Jvm.MethodName)) ∈ wG := wG_of (List.mem_of_getElem? (i := 767) (by decide +kernel)) (by decide +kernel)
theorem q_749 : (Jvm.Cond.code ({ cls := "RecordTimesModel", name := "drop", desc := "(I)I" } : Jvm.MethodName) prog_8_method_28_code (2 : Nat) (Option.some Jvm.ClassFile.FieldType.int)) ∈ wG := wG_of (List.mem_of_getElem? (i := 768) (by decide +kernel)) (by decide +kernel)
theorem q_750 : (Jvm.Cond.methodLink "RecordTimesLaw" (131 : Nat) ({ cls := "RecordTimesModel", name := "certificate", desc := "(II)I" } : Jvm.MethodName)) ∈ wG := wG_of (List.mem_of_getElem? (i := 769) (by decide +kernel)) (by decide +kernel)
theorem q_751 : (Jvm.Cond.instanceMethod ({ cls := "RecordTimesModel", name := "certificate", desc := "(II)I" } : Jvm.MethodName)) ∈ wG := wG_of (List.mem_of_getElem? (i := 770) (by decide +kernel)) (by decide +kernel)
theorem q_752 : (Jvm.Cond.selects "RecordTimesModel" ({ cls := "RecordTimesModel", name := "certificate", desc := "(II)I" } : Jvm.MethodName) ({ cls := "RecordTimesModel", name := "certificate", desc := "(II)I" } : Jvm.MethodName)) ∈ wG := wG_of (List.mem_of_getElem? (i := 771) (by decide +kernel)) (by decide +kernel)
theorem q_753 : (Jvm.Cond.code ({ cls := "RecordTimesModel", name := "certificate", desc := "(II)I" } : Jvm.MethodName) prog_8_method_29_code (3 : Nat) (Option.some Jvm.ClassFile.FieldType.int)) ∈ wG := wG_of (List.mem_of_getElem? (i := 772) (by decide +kernel)) (by decide +kernel)
theorem q_754 : (Jvm.Cond.methodLink "RecordTimesLaw" (135 : Nat) ({ cls := "RecordTimesModel", name := "right", desc := "(IIZ)V" } : Jvm.MethodName)) ∈ wG := wG_of (List.mem_of_getElem? (i := 773) (by decide +kernel)) (by decide +kernel)
theorem q_755 : (Jvm.Cond.instanceMethod ({ cls := "RecordTimesModel", name := "right", desc := "(IIZ)V" } : Jvm.MethodName)) ∈ wG := wG_of (List.mem_of_getElem? (i := 774) (by decide +kernel)) (by decide +kernel)
theorem q_756 : (Jvm.Cond.selects "RecordTimesModel" ({ cls := "RecordTimesModel", name := "right", desc := "(IIZ)V" } : Jvm.MethodName) ({ cls := "RecordTimesModel", name := "right", desc := "(IIZ)V" } : Jvm.MethodName)) ∈ wG := wG_of (List.mem_of_getElem? (i := 775) (by decide +kernel)) (by decide +kernel)
theorem q_757 : (Jvm.Cond.code ({ cls := "RecordTimesModel", name := "right", desc := "(IIZ)V" } : Jvm.MethodName) prog_8_method_30_code (4 : Nat) (Option.none : Option Jvm.ClassFile.FieldType)) ∈ wG := wG_of (List.mem_of_getElem? (i := 776) (by decide +kernel)) (by decide +kernel)
theorem q_758 : (Jvm.Cond.methodLink "RecordTimesLaw" (138 : Nat) ({ cls := "RecordTimesModel", name := "listen", desc := "(II)I" } : Jvm.MethodName)) ∈ wG := wG_of (List.mem_of_getElem? (i := 777) (by decide +kernel)) (by decide +kernel)
theorem q_759 : (Jvm.Cond.instanceMethod ({ cls := "RecordTimesModel", name := "listen", desc := "(II)I" } : Jvm.MethodName)) ∈ wG := wG_of (List.mem_of_getElem? (i := 778) (by decide +kernel)) (by decide +kernel)
theorem q_760 : (Jvm.Cond.selects "RecordTimesModel" ({ cls := "RecordTimesModel", name := "listen", desc := "(II)I" } : Jvm.MethodName) ({ cls := "RecordTimesModel", name := "listen", desc := "(II)I" } : Jvm.MethodName)) ∈ wG := wG_of (List.mem_of_getElem? (i := 779) (by decide +kernel)) (by decide +kernel)
theorem q_761 : (Jvm.Cond.code ({ cls := "RecordTimesModel", name := "listen", desc := "(II)I" } : Jvm.MethodName) prog_8_method_31_code (5 : Nat) (Option.some Jvm.ClassFile.FieldType.int)) ∈ wG := wG_of (List.mem_of_getElem? (i := 780) (by decide +kernel)) (by decide +kernel)
theorem q_762 : (Jvm.Cond.methodLink "RecordTimesLaw" (141 : Nat) ({ cls := "RecordTimesModel", name := "row", desc := "(II)I" } : Jvm.MethodName)) ∈ wG := wG_of (List.mem_of_getElem? (i := 781) (by decide +kernel)) (by decide +kernel)
theorem q_763 : (Jvm.Cond.instanceMethod ({ cls := "RecordTimesModel", name := "row", desc := "(II)I" } : Jvm.MethodName)) ∈ wG := wG_of (List.mem_of_getElem? (i := 782) (by decide +kernel)) (by decide +kernel)
theorem q_764 : (Jvm.Cond.selects "RecordTimesModel" ({ cls := "RecordTimesModel", name := "row", desc := "(II)I" } : Jvm.MethodName) ({ cls := "RecordTimesModel", name := "row", desc := "(II)I" } : Jvm.MethodName)) ∈ wG := wG_of (List.mem_of_getElem? (i := 783) (by decide +kernel)) (by decide +kernel)
theorem q_765 : (Jvm.Cond.code ({ cls := "RecordTimesModel", name := "row", desc := "(II)I" } : Jvm.MethodName) prog_8_method_32_code (4 : Nat) (Option.some Jvm.ClassFile.FieldType.int)) ∈ wG := wG_of (List.mem_of_getElem? (i := 784) (by decide +kernel)) (by decide +kernel)
theorem q_766 : (Jvm.Cond.methodLink "RecordTimesLaw" (145 : Nat) ({ cls := "RecordTimesModel", name := "poke", desc := "(III)V" } : Jvm.MethodName)) ∈ wG := wG_of (List.mem_of_getElem? (i := 785) (by decide +kernel)) (by decide +kernel)
theorem q_767 : (Jvm.Cond.instanceMethod ({ cls := "RecordTimesModel", name := "poke", desc := "(III)V" } : Jvm.MethodName)) ∈ wG := wG_of (List.mem_of_getElem? (i := 786) (by decide +kernel)) (by decide +kernel)
theorem q_768 : (Jvm.Cond.selects "RecordTimesModel" ({ cls := "RecordTimesModel", name := "poke", desc := "(III)V" } : Jvm.MethodName) ({ cls := "RecordTimesModel", name := "poke", desc := "(III)V" } : Jvm.MethodName)) ∈ wG := wG_of (List.mem_of_getElem? (i := 787) (by decide +kernel)) (by decide +kernel)
theorem q_769 : (Jvm.Cond.code ({ cls := "RecordTimesModel", name := "poke", desc := "(III)V" } : Jvm.MethodName) prog_8_method_33_code (5 : Nat) (Option.none : Option Jvm.ClassFile.FieldType)) ∈ wG := wG_of (List.mem_of_getElem? (i := 788) (by decide +kernel)) (by decide +kernel)
theorem q_770 : (Jvm.Cond.methodLink "RecordTimesLaw" (149 : Nat) ({ cls := "RecordTimesModel", name := "verify", desc := "()I" } : Jvm.MethodName)) ∈ wG := wG_of (List.mem_of_getElem? (i := 789) (by decide +kernel)) (by decide +kernel)
theorem q_771 : (Jvm.Cond.instanceMethod ({ cls := "RecordTimesModel", name := "verify", desc := "()I" } : Jvm.MethodName)) ∈ wG := wG_of (List.mem_of_getElem? (i := 790) (by decide +kernel)) (by decide +kernel)
theorem q_772 : (Jvm.Cond.selects "RecordTimesModel" ({ cls := "RecordTimesModel", name := "verify", desc := "()I" } : Jvm.MethodName) ({ cls := "RecordTimesModel", name := "verify", desc := "()I" } : Jvm.MethodName)) ∈ wG := wG_of (List.mem_of_getElem? (i := 791) (by decide +kernel)) (by decide +kernel)
theorem q_773 : (Jvm.Cond.code ({ cls := "RecordTimesModel", name := "verify", desc := "()I" } : Jvm.MethodName) prog_8_method_34_code (2 : Nat) (Option.some Jvm.ClassFile.FieldType.int)) ∈ wG := wG_of (List.mem_of_getElem? (i := 792) (by decide +kernel)) (by decide +kernel)
theorem q_774 : (Jvm.Cond.methodLink "RecordTimesLaw" (152 : Nat) ({ cls := "RecordTimesModel", name := "count", desc := "(I)I" } : Jvm.MethodName)) ∈ wG := wG_of (List.mem_of_getElem? (i := 793) (by decide +kernel)) (by decide +kernel)
theorem q_775 : (Jvm.Cond.instanceMethod ({ cls := "RecordTimesModel", name := "count", desc := "(I)I" } : Jvm.MethodName)) ∈ wG := wG_of (List.mem_of_getElem? (i := 794) (by decide +kernel)) (by decide +kernel)
theorem q_776 : (Jvm.Cond.selects "RecordTimesModel" ({ cls := "RecordTimesModel", name := "count", desc := "(I)I" } : Jvm.MethodName) ({ cls := "RecordTimesModel", name := "count", desc := "(I)I" } : Jvm.MethodName)) ∈ wG := wG_of (List.mem_of_getElem? (i := 795) (by decide +kernel)) (by decide +kernel)
theorem q_777 : (Jvm.Cond.code ({ cls := "RecordTimesModel", name := "count", desc := "(I)I" } : Jvm.MethodName) prog_8_method_35_code (4 : Nat) (Option.some Jvm.ClassFile.FieldType.int)) ∈ wG := wG_of (List.mem_of_getElem? (i := 796) (by decide +kernel)) (by decide +kernel)
theorem q_778 : (Jvm.Cond.constantLong "RecordTimesLaw" (77 : Nat) (4294967295 : Int64)) ∈ wG := wG_of (List.mem_of_getElem? (i := 797) (by decide +kernel)) (by decide +kernel)
theorem qm_max : Cond.code Lib.Math.max.name Lib.Math.max.code 2 (some .int) ∈ wG := wG_of (List.mem_of_getElem? (i := 223) (by decide +kernel)) (by decide +kernel)
theorem qm_min : Cond.code Lib.Math.min.name Lib.Math.min.code 2 (some .int) ∈ wG := wG_of (List.mem_of_getElem? (i := 220) (by decide +kernel)) (by decide +kernel)
end
section
/-! numbers: nI of the kit for what is never negative, iI for what may be; bI for booleans -/
def iI (z : Int) : Int32 := Int32.ofInt z
def bI (b : Bool) : Int32 := if b = true then 1 else 0
theorem iI_toInt {z : Int} (h1 : -2147483648 ≤ z) (h2 : z < 2147483648) : (iI z).toInt = z := Int32.toInt_ofInt_of_le (by omega) (by omega)
theorem nI_iI (n : Nat) : nI n = iI (n : Int) := Int32.ofInt_eq_ofNat.symm
theorem iI_self (x : Int32) : x = iI x.toInt := (Int32.ofInt_toInt x).symm
theorem iI_add (a b : Int) : iI a + iI b = iI (a + b) := (Int32.ofInt_add a b).symm
theorem iI_sub (a b : Int) : iI a - iI b = iI (a - b) := (Int32.ofInt_sub a b).symm
theorem iI_mul (a b : Int) : iI a * iI b = iI (a * b) := (Int32.ofInt_mul a b).symm
theorem nI_addI (a : Nat) (b : Int) : nI a + iI b = iI ((a : Int) + b) := by rw [nI_iI, iI_add]
theorem iI_lt {a b : Int} (h1 : -2147483648 ≤ a) (h2 : a < 2147483648) (h3 : -2147483648 ≤ b) (h4 : b < 2147483648) : iI a < iI b ↔ a < b := by
  rw [Int32.lt_iff_toInt_lt, iI_toInt h1 h2, iI_toInt h3 h4]
theorem iI_le {a b : Int} (h1 : -2147483648 ≤ a) (h2 : a < 2147483648) (h3 : -2147483648 ≤ b) (h4 : b < 2147483648) : iI a ≤ iI b ↔ a ≤ b := by
  rw [Int32.le_iff_toInt_le, iI_toInt h1 h2, iI_toInt h3 h4]
theorem iI_eq {a b : Int} (h1 : -2147483648 ≤ a) (h2 : a < 2147483648) (h3 : -2147483648 ≤ b) (h4 : b < 2147483648) : iI a = iI b ↔ a = b := by
  rw [← Int32.toInt_inj, iI_toInt h1 h2, iI_toInt h3 h4]
theorem i32_b (x : Int32) : -2147483648 ≤ x.toInt ∧ x.toInt < 2147483648 := ⟨by have := x.le_toInt; omega, by have := x.toInt_lt; omega⟩
theorem bI_t : bI true = 1 := rfl
theorem bI_f : bI false = 0 := rfl
theorem bI_0 {b : Bool} : bI b = 0 ↔ b = false := by cases b <;> simp [bI]
theorem bI_inj {a b : Bool} : bI a = bI b ↔ a = b := by cases a <;> cases b <;> simp [bI]
theorem bI_nar (b : Bool) : vp_nar .boolean (bI b) = bI b := by cases b <;> decide
theorem bI_narw (b : Bool) : narrow .boolean (.int (bI b)) = .int (bI b) := by cases b <;> decide
/-- an int between 0 and n is nI of a number below n -/
theorem nI_rng {x : Int32} {n : Nat} (hn : n < 2147483648) (h0 : ¬ x < 0) (h1 : ¬ nI n ≤ x) : ∃ j : Nat, j < n ∧ x = nI j := by
  rcases pk_ix x (n := n) (by omega) with h | h | h
  · exact absurd h h0
  · exact absurd h h1
  · exact h
section NB
variable {p : Program} {l : Launch} {e : Env} {R : Room} {s : State} {m : MethodId} {args : Array Value} {below : List Frame} {meth : Method} {c : Code} {H : Heap} {locs : List Loc} {cells slots : Nat} {Q : State → Prop} {cc : ByteArray} {pc : Nat} {ls : Array Slot} {rest : List Value}
theorem wtopi {x : Int32} (y : Int32) (h : x = y) (k : W p l e R s m args below meth c H locs cells slots Q (F0 m pc ls (.int y :: rest))) : W p l e R s m args below meth c H locs cells slots Q (F0 m pc ls (.int x :: rest)) := by rw [h]; exact k
theorem wtopl {x : Int64} (y : Int64) (h : x = y) (k : W p l e R s m args below meth c H locs cells slots Q (F0 m pc ls (.long y :: rest))) : W p l e R s m args below meth c H locs cells slots Q (F0 m pc ls (.long x :: rest)) := by rw [h]; exact k
theorem nb_eq (hx : p.tables.exec = Jvm.exec) (hb : c.code = cc) {a b : Nat} (ha : a < 2147483648) (hb9 : b < 2147483648) {x y : Int32} (ex : x = nI a) (ey : y = nI b) {off : Int} {tgt : Nat} (hdg : decode cc pc = .ok (.if_icmp .eq off, 3)) (ht : (pc : Int) + off = (tgt : Int)) (kt : a = b → W p l e R s m args below meth c H locs cells slots Q (F0 m tgt ls rest)) (kf : a ≠ b → W p l e R s m args below meth c H locs cells slots Q (F0 m (pc + 3) ls rest)) : W p l e R s m args below meth c H locs cells slots Q (F0 m pc ls (.int y :: .int x :: rest)) := by
  subst ex ey
  exact lv_icmp_eq hx hb hdg ht (fun h => kt ((nI_eq (a := a) (b := b) (by omega) (by omega)).mp h)) (fun h => kf (fun q => h ((nI_eq (a := a) (b := b) (by omega) (by omega)).mpr q)))
theorem ib_eq (hx : p.tables.exec = Jvm.exec) (hb : c.code = cc) {a b : Int} (ha1 : -2147483648 ≤ a) (ha2 : a < 2147483648) (hb1 : -2147483648 ≤ b) (hb2 : b < 2147483648) {x y : Int32} (ex : x = iI a) (ey : y = iI b) {off : Int} {tgt : Nat} (hdg : decode cc pc = .ok (.if_icmp .eq off, 3)) (ht : (pc : Int) + off = (tgt : Int)) (kt : a = b → W p l e R s m args below meth c H locs cells slots Q (F0 m tgt ls rest)) (kf : a ≠ b → W p l e R s m args below meth c H locs cells slots Q (F0 m (pc + 3) ls rest)) : W p l e R s m args below meth c H locs cells slots Q (F0 m pc ls (.int y :: .int x :: rest)) := by
  subst ex ey
  exact lv_icmp_eq hx hb hdg ht (fun h => kt ((iI_eq (a := a) (b := b) (by omega) (by omega) (by omega) (by omega)).mp h)) (fun h => kf (fun q => h ((iI_eq (a := a) (b := b) (by omega) (by omega) (by omega) (by omega)).mpr q)))
theorem nb_ne (hx : p.tables.exec = Jvm.exec) (hb : c.code = cc) {a b : Nat} (ha : a < 2147483648) (hb9 : b < 2147483648) {x y : Int32} (ex : x = nI a) (ey : y = nI b) {off : Int} {tgt : Nat} (hdg : decode cc pc = .ok (.if_icmp .ne off, 3)) (ht : (pc : Int) + off = (tgt : Int)) (kt : a ≠ b → W p l e R s m args below meth c H locs cells slots Q (F0 m tgt ls rest)) (kf : a = b → W p l e R s m args below meth c H locs cells slots Q (F0 m (pc + 3) ls rest)) : W p l e R s m args below meth c H locs cells slots Q (F0 m pc ls (.int y :: .int x :: rest)) := by
  subst ex ey
  exact lv_icmp_ne hx hb hdg ht (fun h => kt (fun q => h ((nI_eq (a := a) (b := b) (by omega) (by omega)).mpr q))) (fun h => kf ((nI_eq (a := a) (b := b) (by omega) (by omega)).mp h))
theorem ib_ne (hx : p.tables.exec = Jvm.exec) (hb : c.code = cc) {a b : Int} (ha1 : -2147483648 ≤ a) (ha2 : a < 2147483648) (hb1 : -2147483648 ≤ b) (hb2 : b < 2147483648) {x y : Int32} (ex : x = iI a) (ey : y = iI b) {off : Int} {tgt : Nat} (hdg : decode cc pc = .ok (.if_icmp .ne off, 3)) (ht : (pc : Int) + off = (tgt : Int)) (kt : a ≠ b → W p l e R s m args below meth c H locs cells slots Q (F0 m tgt ls rest)) (kf : a = b → W p l e R s m args below meth c H locs cells slots Q (F0 m (pc + 3) ls rest)) : W p l e R s m args below meth c H locs cells slots Q (F0 m pc ls (.int y :: .int x :: rest)) := by
  subst ex ey
  exact lv_icmp_ne hx hb hdg ht (fun h => kt (fun q => h ((iI_eq (a := a) (b := b) (by omega) (by omega) (by omega) (by omega)).mpr q))) (fun h => kf ((iI_eq (a := a) (b := b) (by omega) (by omega) (by omega) (by omega)).mp h))
theorem nb_lt (hx : p.tables.exec = Jvm.exec) (hb : c.code = cc) {a b : Nat} (ha : a < 2147483648) (hb9 : b < 2147483648) {x y : Int32} (ex : x = nI a) (ey : y = nI b) {off : Int} {tgt : Nat} (hdg : decode cc pc = .ok (.if_icmp .lt off, 3)) (ht : (pc : Int) + off = (tgt : Int)) (kt : a < b → W p l e R s m args below meth c H locs cells slots Q (F0 m tgt ls rest)) (kf : b ≤ a → W p l e R s m args below meth c H locs cells slots Q (F0 m (pc + 3) ls rest)) : W p l e R s m args below meth c H locs cells slots Q (F0 m pc ls (.int y :: .int x :: rest)) := by
  subst ex ey
  exact lv_icmp_lt hx hb hdg ht (fun h => kt ((nI_ltI (a := a) (b := b) (by omega) (by omega)).mp h)) (fun h => kf (by have h9 : ¬ (a < b) := fun q => h ((nI_ltI (a := a) (b := b) (by omega) (by omega)).mpr q); omega))
theorem ib_lt (hx : p.tables.exec = Jvm.exec) (hb : c.code = cc) {a b : Int} (ha1 : -2147483648 ≤ a) (ha2 : a < 2147483648) (hb1 : -2147483648 ≤ b) (hb2 : b < 2147483648) {x y : Int32} (ex : x = iI a) (ey : y = iI b) {off : Int} {tgt : Nat} (hdg : decode cc pc = .ok (.if_icmp .lt off, 3)) (ht : (pc : Int) + off = (tgt : Int)) (kt : a < b → W p l e R s m args below meth c H locs cells slots Q (F0 m tgt ls rest)) (kf : b ≤ a → W p l e R s m args below meth c H locs cells slots Q (F0 m (pc + 3) ls rest)) : W p l e R s m args below meth c H locs cells slots Q (F0 m pc ls (.int y :: .int x :: rest)) := by
  subst ex ey
  exact lv_icmp_lt hx hb hdg ht (fun h => kt ((iI_lt (a := a) (b := b) (by omega) (by omega) (by omega) (by omega)).mp h)) (fun h => kf (by have h9 : ¬ (a < b) := fun q => h ((iI_lt (a := a) (b := b) (by omega) (by omega) (by omega) (by omega)).mpr q); omega))
theorem nb_ge (hx : p.tables.exec = Jvm.exec) (hb : c.code = cc) {a b : Nat} (ha : a < 2147483648) (hb9 : b < 2147483648) {x y : Int32} (ex : x = nI a) (ey : y = nI b) {off : Int} {tgt : Nat} (hdg : decode cc pc = .ok (.if_icmp .ge off, 3)) (ht : (pc : Int) + off = (tgt : Int)) (kt : b ≤ a → W p l e R s m args below meth c H locs cells slots Q (F0 m tgt ls rest)) (kf : a < b → W p l e R s m args below meth c H locs cells slots Q (F0 m (pc + 3) ls rest)) : W p l e R s m args below meth c H locs cells slots Q (F0 m pc ls (.int y :: .int x :: rest)) := by
  subst ex ey
  exact lv_icmp_ge hx hb hdg ht (fun h => kt ((nI_leI (a := b) (b := a) (by omega) (by omega)).mp h)) (fun h => kf (by have h9 : ¬ (b ≤ a) := fun q => h ((nI_leI (a := b) (b := a) (by omega) (by omega)).mpr q); omega))
theorem ib_ge (hx : p.tables.exec = Jvm.exec) (hb : c.code = cc) {a b : Int} (ha1 : -2147483648 ≤ a) (ha2 : a < 2147483648) (hb1 : -2147483648 ≤ b) (hb2 : b < 2147483648) {x y : Int32} (ex : x = iI a) (ey : y = iI b) {off : Int} {tgt : Nat} (hdg : decode cc pc = .ok (.if_icmp .ge off, 3)) (ht : (pc : Int) + off = (tgt : Int)) (kt : b ≤ a → W p l e R s m args below meth c H locs cells slots Q (F0 m tgt ls rest)) (kf : a < b → W p l e R s m args below meth c H locs cells slots Q (F0 m (pc + 3) ls rest)) : W p l e R s m args below meth c H locs cells slots Q (F0 m pc ls (.int y :: .int x :: rest)) := by
  subst ex ey
  exact lv_icmp_ge hx hb hdg ht (fun h => kt ((iI_le (a := b) (b := a) (by omega) (by omega) (by omega) (by omega)).mp h)) (fun h => kf (by have h9 : ¬ (b ≤ a) := fun q => h ((iI_le (a := b) (b := a) (by omega) (by omega) (by omega) (by omega)).mpr q); omega))
theorem nb_gt (hx : p.tables.exec = Jvm.exec) (hb : c.code = cc) {a b : Nat} (ha : a < 2147483648) (hb9 : b < 2147483648) {x y : Int32} (ex : x = nI a) (ey : y = nI b) {off : Int} {tgt : Nat} (hdg : decode cc pc = .ok (.if_icmp .gt off, 3)) (ht : (pc : Int) + off = (tgt : Int)) (kt : b < a → W p l e R s m args below meth c H locs cells slots Q (F0 m tgt ls rest)) (kf : a ≤ b → W p l e R s m args below meth c H locs cells slots Q (F0 m (pc + 3) ls rest)) : W p l e R s m args below meth c H locs cells slots Q (F0 m pc ls (.int y :: .int x :: rest)) := by
  subst ex ey
  exact lv_icmp_gt hx hb hdg ht (fun h => kt ((nI_ltI (a := b) (b := a) (by omega) (by omega)).mp h)) (fun h => kf (by have h9 : ¬ (b < a) := fun q => h ((nI_ltI (a := b) (b := a) (by omega) (by omega)).mpr q); omega))
theorem ib_gt (hx : p.tables.exec = Jvm.exec) (hb : c.code = cc) {a b : Int} (ha1 : -2147483648 ≤ a) (ha2 : a < 2147483648) (hb1 : -2147483648 ≤ b) (hb2 : b < 2147483648) {x y : Int32} (ex : x = iI a) (ey : y = iI b) {off : Int} {tgt : Nat} (hdg : decode cc pc = .ok (.if_icmp .gt off, 3)) (ht : (pc : Int) + off = (tgt : Int)) (kt : b < a → W p l e R s m args below meth c H locs cells slots Q (F0 m tgt ls rest)) (kf : a ≤ b → W p l e R s m args below meth c H locs cells slots Q (F0 m (pc + 3) ls rest)) : W p l e R s m args below meth c H locs cells slots Q (F0 m pc ls (.int y :: .int x :: rest)) := by
  subst ex ey
  exact lv_icmp_gt hx hb hdg ht (fun h => kt ((iI_lt (a := b) (b := a) (by omega) (by omega) (by omega) (by omega)).mp h)) (fun h => kf (by have h9 : ¬ (b < a) := fun q => h ((iI_lt (a := b) (b := a) (by omega) (by omega) (by omega) (by omega)).mpr q); omega))
theorem nb_le (hx : p.tables.exec = Jvm.exec) (hb : c.code = cc) {a b : Nat} (ha : a < 2147483648) (hb9 : b < 2147483648) {x y : Int32} (ex : x = nI a) (ey : y = nI b) {off : Int} {tgt : Nat} (hdg : decode cc pc = .ok (.if_icmp .le off, 3)) (ht : (pc : Int) + off = (tgt : Int)) (kt : a ≤ b → W p l e R s m args below meth c H locs cells slots Q (F0 m tgt ls rest)) (kf : b < a → W p l e R s m args below meth c H locs cells slots Q (F0 m (pc + 3) ls rest)) : W p l e R s m args below meth c H locs cells slots Q (F0 m pc ls (.int y :: .int x :: rest)) := by
  subst ex ey
  exact lv_icmp_le hx hb hdg ht (fun h => kt ((nI_leI (a := a) (b := b) (by omega) (by omega)).mp h)) (fun h => kf (by have h9 : ¬ (a ≤ b) := fun q => h ((nI_leI (a := a) (b := b) (by omega) (by omega)).mpr q); omega))
theorem ib_le (hx : p.tables.exec = Jvm.exec) (hb : c.code = cc) {a b : Int} (ha1 : -2147483648 ≤ a) (ha2 : a < 2147483648) (hb1 : -2147483648 ≤ b) (hb2 : b < 2147483648) {x y : Int32} (ex : x = iI a) (ey : y = iI b) {off : Int} {tgt : Nat} (hdg : decode cc pc = .ok (.if_icmp .le off, 3)) (ht : (pc : Int) + off = (tgt : Int)) (kt : a ≤ b → W p l e R s m args below meth c H locs cells slots Q (F0 m tgt ls rest)) (kf : b < a → W p l e R s m args below meth c H locs cells slots Q (F0 m (pc + 3) ls rest)) : W p l e R s m args below meth c H locs cells slots Q (F0 m pc ls (.int y :: .int x :: rest)) := by
  subst ex ey
  exact lv_icmp_le hx hb hdg ht (fun h => kt ((iI_le (a := a) (b := b) (by omega) (by omega) (by omega) (by omega)).mp h)) (fun h => kf (by have h9 : ¬ (a ≤ b) := fun q => h ((iI_le (a := a) (b := b) (by omega) (by omega) (by omega) (by omega)).mpr q); omega))
theorem iz_eq (hx : p.tables.exec = Jvm.exec) (hb : c.code = cc) {a : Int} (ha1 : -2147483648 ≤ a) (ha2 : a < 2147483648) {x : Int32} (ex : x = iI a) {off : Int} {tgt : Nat} (hdg : decode cc pc = .ok (.ifCond .eq off, 3)) (ht : (pc : Int) + off = (tgt : Int)) (kt : a = 0 → W p l e R s m args below meth c H locs cells slots Q (F0 m tgt ls rest)) (kf : a ≠ 0 → W p l e R s m args below meth c H locs cells slots Q (F0 m (pc + 3) ls rest)) : W p l e R s m args below meth c H locs cells slots Q (F0 m pc ls (.int x :: rest)) := by
  subst ex
  exact lv_if_eq hx hb hdg ht (fun h => kt ((iI_eq (a := a) (b := 0) (by omega) (by omega) (by omega) (by omega)).mp h)) (fun h => kf (fun q => h ((iI_eq (a := a) (b := 0) (by omega) (by omega) (by omega) (by omega)).mpr q)))
theorem iz_ne (hx : p.tables.exec = Jvm.exec) (hb : c.code = cc) {a : Int} (ha1 : -2147483648 ≤ a) (ha2 : a < 2147483648) {x : Int32} (ex : x = iI a) {off : Int} {tgt : Nat} (hdg : decode cc pc = .ok (.ifCond .ne off, 3)) (ht : (pc : Int) + off = (tgt : Int)) (kt : a ≠ 0 → W p l e R s m args below meth c H locs cells slots Q (F0 m tgt ls rest)) (kf : a = 0 → W p l e R s m args below meth c H locs cells slots Q (F0 m (pc + 3) ls rest)) : W p l e R s m args below meth c H locs cells slots Q (F0 m pc ls (.int x :: rest)) := by
  subst ex
  exact lv_if_ne hx hb hdg ht (fun h => kt (fun q => h ((iI_eq (a := a) (b := 0) (by omega) (by omega) (by omega) (by omega)).mpr q))) (fun h => kf ((iI_eq (a := a) (b := 0) (by omega) (by omega) (by omega) (by omega)).mp h))
theorem iz_lt (hx : p.tables.exec = Jvm.exec) (hb : c.code = cc) {a : Int} (ha1 : -2147483648 ≤ a) (ha2 : a < 2147483648) {x : Int32} (ex : x = iI a) {off : Int} {tgt : Nat} (hdg : decode cc pc = .ok (.ifCond .lt off, 3)) (ht : (pc : Int) + off = (tgt : Int)) (kt : a < 0 → W p l e R s m args below meth c H locs cells slots Q (F0 m tgt ls rest)) (kf : 0 ≤ a → W p l e R s m args below meth c H locs cells slots Q (F0 m (pc + 3) ls rest)) : W p l e R s m args below meth c H locs cells slots Q (F0 m pc ls (.int x :: rest)) := by
  subst ex
  exact lv_if_lt hx hb hdg ht (fun h => kt ((iI_lt (a := a) (b := 0) (by omega) (by omega) (by omega) (by omega)).mp h)) (fun h => kf (by have h9 : ¬ (a < 0) := fun q => h ((iI_lt (a := a) (b := 0) (by omega) (by omega) (by omega) (by omega)).mpr q); omega))
theorem iz_ge (hx : p.tables.exec = Jvm.exec) (hb : c.code = cc) {a : Int} (ha1 : -2147483648 ≤ a) (ha2 : a < 2147483648) {x : Int32} (ex : x = iI a) {off : Int} {tgt : Nat} (hdg : decode cc pc = .ok (.ifCond .ge off, 3)) (ht : (pc : Int) + off = (tgt : Int)) (kt : 0 ≤ a → W p l e R s m args below meth c H locs cells slots Q (F0 m tgt ls rest)) (kf : a < 0 → W p l e R s m args below meth c H locs cells slots Q (F0 m (pc + 3) ls rest)) : W p l e R s m args below meth c H locs cells slots Q (F0 m pc ls (.int x :: rest)) := by
  subst ex
  exact lv_if_ge hx hb hdg ht (fun h => kt ((iI_le (a := 0) (b := a) (by omega) (by omega) (by omega) (by omega)).mp h)) (fun h => kf (by have h9 : ¬ (0 ≤ a) := fun q => h ((iI_le (a := 0) (b := a) (by omega) (by omega) (by omega) (by omega)).mpr q); omega))
theorem iz_gt (hx : p.tables.exec = Jvm.exec) (hb : c.code = cc) {a : Int} (ha1 : -2147483648 ≤ a) (ha2 : a < 2147483648) {x : Int32} (ex : x = iI a) {off : Int} {tgt : Nat} (hdg : decode cc pc = .ok (.ifCond .gt off, 3)) (ht : (pc : Int) + off = (tgt : Int)) (kt : 0 < a → W p l e R s m args below meth c H locs cells slots Q (F0 m tgt ls rest)) (kf : a ≤ 0 → W p l e R s m args below meth c H locs cells slots Q (F0 m (pc + 3) ls rest)) : W p l e R s m args below meth c H locs cells slots Q (F0 m pc ls (.int x :: rest)) := by
  subst ex
  exact lv_if_gt hx hb hdg ht (fun h => kt ((iI_lt (a := 0) (b := a) (by omega) (by omega) (by omega) (by omega)).mp h)) (fun h => kf (by have h9 : ¬ (0 < a) := fun q => h ((iI_lt (a := 0) (b := a) (by omega) (by omega) (by omega) (by omega)).mpr q); omega))
theorem iz_le (hx : p.tables.exec = Jvm.exec) (hb : c.code = cc) {a : Int} (ha1 : -2147483648 ≤ a) (ha2 : a < 2147483648) {x : Int32} (ex : x = iI a) {off : Int} {tgt : Nat} (hdg : decode cc pc = .ok (.ifCond .le off, 3)) (ht : (pc : Int) + off = (tgt : Int)) (kt : a ≤ 0 → W p l e R s m args below meth c H locs cells slots Q (F0 m tgt ls rest)) (kf : 0 < a → W p l e R s m args below meth c H locs cells slots Q (F0 m (pc + 3) ls rest)) : W p l e R s m args below meth c H locs cells slots Q (F0 m pc ls (.int x :: rest)) := by
  subst ex
  exact lv_if_le hx hb hdg ht (fun h => kt ((iI_le (a := a) (b := 0) (by omega) (by omega) (by omega) (by omega)).mp h)) (fun h => kf (by have h9 : ¬ (a ≤ 0) := fun q => h ((iI_le (a := a) (b := 0) (by omega) (by omega) (by omega) (by omega)).mpr q); omega))
theorem bz_eq (hx : p.tables.exec = Jvm.exec) (hb : c.code = cc) {a : Bool} {off : Int} {tgt : Nat} (hdg : decode cc pc = .ok (.ifCond .eq off, 3)) (ht : (pc : Int) + off = (tgt : Int)) (kt : a = false → W p l e R s m args below meth c H locs cells slots Q (F0 m tgt ls rest)) (kf : a = true → W p l e R s m args below meth c H locs cells slots Q (F0 m (pc + 3) ls rest)) : W p l e R s m args below meth c H locs cells slots Q (F0 m pc ls (.int (bI a) :: rest)) :=
  lv_if_eq hx hb hdg ht (fun h => kt (bI_0.mp h)) (fun h => kf (by cases a with | true => rfl | false => exact absurd rfl h))
theorem bz_ne (hx : p.tables.exec = Jvm.exec) (hb : c.code = cc) {a : Bool} {off : Int} {tgt : Nat} (hdg : decode cc pc = .ok (.ifCond .ne off, 3)) (ht : (pc : Int) + off = (tgt : Int)) (kt : a = true → W p l e R s m args below meth c H locs cells slots Q (F0 m tgt ls rest)) (kf : a = false → W p l e R s m args below meth c H locs cells slots Q (F0 m (pc + 3) ls rest)) : W p l e R s m args below meth c H locs cells slots Q (F0 m pc ls (.int (bI a) :: rest)) :=
  lv_if_ne hx hb hdg ht (fun h => kt (by cases a with | true => rfl | false => exact absurd rfl h)) (fun h => kf (bI_0.mp h))
end NB
/-! worlds: a contract that reads, a contract that writes -/
section WO
variable {D : va_G} {cl : List vw_C} {ws wr : va_W} {ty : List (ClassId × FieldType)} {s : State} {H : Heap} {C : String} {b : Nat} {As av : List Value}
def w_ro (D : va_G) (cl : List vw_C) (ws : va_W) (ty : List (ClassId × FieldType)) : State → Prop := fun U => va_P D cl ws U.heap ∧ va_K D cl ty U
def w_mu (D : va_G) (cl : List vw_C) (ws : va_W) (ty : List (ClassId × FieldType)) (sz : Nat) : State → Prop := fun U => U.heap.size = sz ∧ va_P D cl ws U.heap ∧ va_K D cl ty U ∧ va_D (fun _ => True) ws
def w_at {S : Type} (D : va_G) (cl : List vw_C) (w : S → va_W) (ty : List (ClassId × FieldType)) (A : Nat → Prop) : S → State → Prop := fun u t => va_P D cl (w u) t.heap ∧ va_K D cl ty t ∧ va_D A (w u)
theorem w_roB : FrameBlind (va_Pc av (w_ro D cl ws ty)) := fun a U g mk q => by
  obtain ⟨q0, q1, q2⟩ := q
  exact ⟨q0, q1, va_K.moved (u := U) (U := U.calling g mk a) (Vm.Alike.refl U.vm) q2⟩
theorem w_muB {sz : Nat} : FrameBlind (va_Pc av (w_mu D cl ws ty sz)) := fun a U g mk q => by
  obtain ⟨q0, q1, q2, q3, q4⟩ := q
  exact ⟨q0, q1, q2, va_K.moved (u := U) (U := U.calling g mk a) (Vm.Alike.refl U.vm) q3, q4⟩
theorem w_roV {q : vw_C} {ci q0 : Nat} {fs : List Value} (hK : va_K D cl ty s) (hP : va_P D cl ws H) (hc : cl[ci]? = some q) (he : ws[q0]? = some (b, .inr (ci, fs))) (hq : q.1 = C) : PreV s H C b (va_Pc (.ref b :: As) (w_ro D cl ws ty)) As :=
  ⟨w_roB, by rw [← hq]; exact va_recv hK hP hc he, fun U hU hW => ⟨rfl, by rw [hU]; exact hP, va_K.moved hW.alike hK⟩⟩
theorem w_roS (hK : va_K D cl ty s) (hP : va_P D cl ws H) : PreS s H (va_Pc As (w_ro D cl ws ty)) As :=
  ⟨w_roB, fun U hU hW => ⟨rfl, by rw [hU]; exact hP, va_K.moved hW.alike hK⟩⟩
theorem w_muV {A : Nat → Prop} {q : vw_C} {ci q0 : Nat} {fs : List Value} (hK : va_K D cl ty s) (hP : va_P D cl ws H) (hD : va_D A ws) (hc : cl[ci]? = some q) (he : ws[q0]? = some (b, .inr (ci, fs))) (hq : q.1 = C) : PreV s H C b (va_Pc (.ref b :: As) (w_mu D cl ws ty H.size)) As :=
  ⟨w_muB, by rw [← hq]; exact va_recv hK hP hc he, fun U hU hW => ⟨rfl, by rw [hU], by rw [hU]; exact hP, va_K.moved hW.alike hK, hD.weaken (fun _ _ _ _ => trivial)⟩⟩
theorem w_muS {A : Nat → Prop} (hK : va_K D cl ty s) (hP : va_P D cl ws H) (hD : va_D A ws) : PreS s H (va_Pc As (w_mu D cl ws ty H.size)) As :=
  ⟨w_muB, fun U hU hW => ⟨rfl, by rw [hU], by rw [hU]; exact hP, va_K.moved hW.alike hK, hD.weaken (fun _ _ _ _ => trivial)⟩⟩
theorem w_pE {ws' : va_W} (h : ws = ws') (hP : va_P D cl ws H) : va_P D cl ws' H := h ▸ hP
theorem w_dE {A : Nat → Prop} {ws' : va_W} (h : ws = ws') (hD : va_D A ws) : va_D A ws' := h ▸ hD
theorem w_F {A0 : Nat → Prop} {H0 : Heap} {locs : List Loc} (hD : va_D A0 ws) (hS : va_S A0 H0 H locs) (hA : ∀ q, H0.size ≤ q → A0 q) : ∀ q, va_A ws H.size q → A0 q := by
  intro q h
  rcases h with ⟨k, e, h⟩ | h
  · exact hD.2 k _ h
  · exact hA q (Nat.le_trans hS.1 h)
theorem w_Pl (hP : va_P D cl (ws ++ wr) H) : va_P D cl ws H := fun k q h => hP k q (by rw [List.getElem?_append_left (List.getElem?_eq_some_iff.mp h).1]; exact h)
theorem w_Pr (hP : va_P D cl (ws ++ wr) H) : va_P D cl wr H := fun k q h => hP (ws.length + k) q (by rw [List.getElem?_append_right (by omega), Nat.add_sub_cancel_left]; exact h)
theorem w_Dl {A : Nat → Prop} (hD : va_D A (ws ++ wr)) : va_D A ws := by
  refine ⟨fun i j x y hi hj hxy => hD.1 i j x y ?_ ?_ hxy, fun k q h => hD.2 k q ?_⟩
  · rw [List.getElem?_append_left (List.getElem?_eq_some_iff.mp hi).1]; exact hi
  · rw [List.getElem?_append_left (List.getElem?_eq_some_iff.mp hj).1]; exact hj
  · rw [List.getElem?_append_left (List.getElem?_eq_some_iff.mp h).1]; exact h
theorem w_Dr {A : Nat → Prop} (hD : va_D A (ws ++ wr)) : va_D A wr := by
  have key : ∀ (k : Nat) (q : Nat × va_E), wr[k]? = some q → (ws ++ wr)[ws.length + k]? = some q := fun k q h => by rw [List.getElem?_append_right (by omega), Nat.add_sub_cancel_left]; exact h
  refine ⟨fun i j x y hi hj hxy => ?_, fun k q h => hD.2 _ q (key k q h)⟩
  have := hD.1 _ _ x y (key i x hi) (key j y hj) hxy
  omega
theorem w_ap {A : Nat → Prop} (hD : va_D A (ws ++ wr)) {i j : Nat} {x y : Nat × va_E} (hi : ws[i]? = some x) (hj : wr[j]? = some y) : x.1 ≠ y.1 := fun h => by
  have h1 : (ws ++ wr)[i]? = some x := by rw [List.getElem?_append_left (List.getElem?_eq_some_iff.mp hi).1]; exact hi
  have h2 : (ws ++ wr)[ws.length + j]? = some y := by rw [List.getElem?_append_right (by omega), Nat.add_sub_cancel_left]; exact hj
  have := hD.1 _ _ x y h1 h2 h
  have := (List.getElem?_eq_some_iff.mp hi).1
  omega
theorem w_Psw (hP : va_P D cl (ws ++ wr) H) : va_P D cl (wr ++ ws) H := (w_Pr hP).app (w_Pl hP)
theorem w_Dsw {A : Nat → Prop} (hD : va_D A (ws ++ wr)) : va_D A (wr ++ ws) := (w_Dr hD).app (w_Dl hD) (fun _ _ _ _ hi hj => (w_ap hD hj hi).symm)
/-- behind a call over the first part: the callee's world beside the rest -/
theorem w_join {A0 : Nat → Prop} {w1 : va_W} {H1 : Heap} (hP : va_P D cl (ws ++ wr) H) (hD : va_D A0 (ws ++ wr)) (hF : ∀ q, va_A ws H.size q → A0 q) (hk : ∀ q : Nat, q < H.size → ¬ va_A ws H.size q → H1[q]? = H[q]?) (hP1 : va_P D cl w1 H1) (hD1 : va_D (va_A ws H.size) w1) : va_P D cl (w1 ++ wr) H1 ∧ va_D A0 (w1 ++ wr) := by
  have hr := w_Pr hP
  have out : ∀ (k : Nat) (q : Nat × va_E), wr[k]? = some q → ¬ va_A ws H.size q.1 := by
    intro k q h z
    rcases z with ⟨i, e, z⟩ | z
    · exact w_ap hD z h rfl
    · have := (hr k q h).lt
      omega
  refine ⟨hP1.app (hr.kept (fun k q h => hk q.1 ((hr k q h).lt) (out k q h))), (hD1.weaken (fun _ _ _ h => hF _ h)).app (w_Dr hD) (fun i j x y hi hj hxy => ?_)⟩
  exact out j y hj (hxy ▸ hD1.2 i x hi)
/-- a call that only makes cells keeps a world -/
theorem w_keep {H1 : Heap} (hP : va_P D cl ws H) (hk : ∀ q : Nat, q < H.size → ¬ va_A [] H.size q → H1[q]? = H[q]?) : va_P D cl ws H1 := hP.kept (fun k q h => hk q.1 ((hP k q h).lt) (by
  rintro (⟨i, e, z⟩ | z)
  · simp at z
  · have := (hP k q h).lt
    omega))
end WO
section WC
variable {p : Program} {l : Launch} {e : Env} {R : Room} {s : State} {m : MethodId} {args : Array Value} {below : List Frame} {meth : Method} {c : Code} {H : Heap} {locs : List Loc} {cells slots : Nat} {Q : State → Prop} {pc : Nat} {ls : Array Slot} {rest st0 : List Value} {a : Array Value} {A0 : Nat → Prop} {H0 : Heap} {mc ms : Nat}
variable {D : va_G} {cl : List vw_C} {ws wr : va_W} {ty : List (ClassId × FieldType)}
theorem w_calli {S : Type} {post : Int32 → S → Prop} {w : S → va_W} (hr : va_Run p l e R s m args below meth c H locs cells slots mc ms (F0 m pc ls st0) rest (va_Qi post (w_at D cl w ty (va_A ws H.size)) (va_A ws H.size) a) (va_A ws H.size)) (hP : va_P D cl (ws ++ wr) H) (hD : va_D A0 (ws ++ wr)) (hS : va_S A0 H0 H locs) (hA : ∀ q, H0.size ≤ q → A0 q)
    (kk : ∀ (r : Int32) (u : S) (H1 : Heap) (locs1 : List Loc), post r u → va_P D cl (w u ++ wr) H1 → va_D A0 (w u ++ wr) → va_S A0 H0 H1 locs1 → W p l e R s m args below meth c H1 locs1 (cells + mc) (slots + ms) Q (F0 m (pc + 3) ls (.int r :: rest))) : W p l e R s m args below meth c H locs cells slots Q (F0 m pc ls st0) := by
  have hF := w_F (w_Dl hD) hS hA
  refine va_calli hr hS (fun q _ h => hF q h) hF (fun r u t H1 locs1 ht hvm hp hB hz hk hS1 => ?_)
  obtain ⟨b1, b2, b3⟩ := hB
  rw [ht] at b1
  obtain ⟨j1, j2⟩ := w_join hP hD hF hk b1 b3
  exact kk r u H1 locs1 hp j1 j2 hS1
theorem w_cali {S : Type} {post : Int32 → S → Prop} {w : S → va_W} (hr : va_Run p l e R s m args below meth c H locs cells slots mc ms (F0 m pc ls st0) rest (va_Qi post (w_at D cl w ty (va_A ws H.size)) (va_A ws H.size) a) (va_A ws H.size)) (hD : va_D A0 ws) (hS : va_S A0 H0 H locs) (hA : ∀ q, H0.size ≤ q → A0 q)
    (kk : ∀ (r : Int32) (u : S) (H1 : Heap) (locs1 : List Loc), post r u → va_P D cl (w u) H1 → va_D A0 (w u) → va_S A0 H0 H1 locs1 → W p l e R s m args below meth c H1 locs1 (cells + mc) (slots + ms) Q (F0 m (pc + 3) ls (.int r :: rest))) : W p l e R s m args below meth c H locs cells slots Q (F0 m pc ls st0) := by
  have hF := w_F hD hS hA
  refine va_calli hr hS (fun q _ h => hF q h) hF (fun r u t H1 locs1 ht hvm hp hB hz hk hS1 => ?_)
  obtain ⟨b1, b2, b3⟩ := hB
  rw [ht] at b1
  exact kk r u H1 locs1 hp b1 (b3.weaken (fun _ _ _ h => hF _ h)) hS1
theorem w_callv {S : Type} {post : S → Prop} {w : S → va_W} (hr : va_Run p l e R s m args below meth c H locs cells slots mc ms (F0 m pc ls st0) rest (va_Qv post (w_at D cl w ty (va_A ws H.size)) (va_A ws H.size) a) (va_A ws H.size)) (hP : va_P D cl (ws ++ wr) H) (hD : va_D A0 (ws ++ wr)) (hS : va_S A0 H0 H locs) (hA : ∀ q, H0.size ≤ q → A0 q)
    (kk : ∀ (u : S) (H1 : Heap) (locs1 : List Loc), post u → va_P D cl (w u ++ wr) H1 → va_D A0 (w u ++ wr) → va_S A0 H0 H1 locs1 → W p l e R s m args below meth c H1 locs1 (cells + mc) (slots + ms) Q (F0 m (pc + 3) ls rest)) : W p l e R s m args below meth c H locs cells slots Q (F0 m pc ls st0) := by
  have hF := w_F (w_Dl hD) hS hA
  refine va_callv hr hS (fun q _ h => hF q h) hF (fun u t H1 locs1 ht hvm hp hB hz hk hS1 => ?_)
  obtain ⟨b1, b2, b3⟩ := hB
  rw [ht] at b1
  obtain ⟨j1, j2⟩ := w_join hP hD hF hk b1 b3
  exact kk u H1 locs1 hp j1 j2 hS1
theorem w_calv {S : Type} {post : S → Prop} {w : S → va_W} (hr : va_Run p l e R s m args below meth c H locs cells slots mc ms (F0 m pc ls st0) rest (va_Qv post (w_at D cl w ty (va_A ws H.size)) (va_A ws H.size) a) (va_A ws H.size)) (hD : va_D A0 ws) (hS : va_S A0 H0 H locs) (hA : ∀ q, H0.size ≤ q → A0 q)
    (kk : ∀ (u : S) (H1 : Heap) (locs1 : List Loc), post u → va_P D cl (w u) H1 → va_D A0 (w u) → va_S A0 H0 H1 locs1 → W p l e R s m args below meth c H1 locs1 (cells + mc) (slots + ms) Q (F0 m (pc + 3) ls rest)) : W p l e R s m args below meth c H locs cells slots Q (F0 m pc ls st0) := by
  have hF := w_F hD hS hA
  refine va_callv hr hS (fun q _ h => hF q h) hF (fun u t H1 locs1 ht hvm hp hB hz hk hS1 => ?_)
  obtain ⟨b1, b2, b3⟩ := hB
  rw [ht] at b1
  exact kk u H1 locs1 hp b1 (b3.weaken (fun _ _ _ h => hF _ h)) hS1
/-- a loop that leaves the heap as it is: a measure falls -/
theorem w_loop {σ : Type} {st : List Value} (μ : σ → Nat) (I : σ → Array Slot → Prop)
    (step : ∀ (x : σ) (ls : Array Slot), I x ls → (∀ (y : σ) (ls' : Array Slot), μ y < μ x → I y ls' → W p l e R s m args below meth c H locs cells slots Q (F0 m pc ls' st)) → W p l e R s m args below meth c H locs cells slots Q (F0 m pc ls st)) (x : σ) (ls : Array Slot) (h : I x ls) : W p l e R s m args below meth c H locs cells slots Q (F0 m pc ls st) := by
  have key : ∀ (n : Nat) (x : σ) (ls : Array Slot), μ x < n → I x ls → W p l e R s m args below meth c H locs cells slots Q (F0 m pc ls st) := by
    intro n
    induction n with
    | zero => intro x ls h; exact absurd h (Nat.not_lt_zero _)
    | succ n ih => intro x ls hx hI; exact step x ls hI (fun y ls' hy hI' => ih y ls' (by omega) hI')
  exact key (μ x + 1) x ls (Nat.lt_succ_self _) h
/-- a loop that writes -/
theorem w_loopH {σ : Type} {st : List Value} (μ : σ → Nat) (I : σ → Heap → List Loc → Array Slot → Prop)
    (step : ∀ (x : σ) (H : Heap) (locs : List Loc) (ls : Array Slot), I x H locs ls → (∀ (y : σ) (H' : Heap) (locs' : List Loc) (ls' : Array Slot), μ y < μ x → I y H' locs' ls' → W p l e R s m args below meth c H' locs' cells slots Q (F0 m pc ls' st)) → W p l e R s m args below meth c H locs cells slots Q (F0 m pc ls st)) (x : σ) (H : Heap) (locs : List Loc) (ls : Array Slot) (h : I x H locs ls) : W p l e R s m args below meth c H locs cells slots Q (F0 m pc ls st) := by
  have key : ∀ (n : Nat) (x : σ) (H : Heap) (locs : List Loc) (ls : Array Slot), μ x < n → I x H locs ls → W p l e R s m args below meth c H locs cells slots Q (F0 m pc ls st) := by
    intro n
    induction n with
    | zero => intro x H locs ls h; exact absurd h (Nat.not_lt_zero _)
    | succ n ih => intro x H locs ls hx hI; exact step x H locs ls hI (fun y H' locs' ls' hy hI' => ih y H' locs' ls' (by omega) hI')
  exact key (μ x + 1) x H locs ls (Nat.lt_succ_self _) h
end WC
end
section
theorem dX5_init_0 : decode cX5_init 0 = .ok (.aload_n 0, 1) := by decide +kernel
theorem dX5_init_1 : decode cX5_init 1 = .ok (.invokespecial 1, 3) := by decide +kernel
theorem dX5_init_4 : decode cX5_init 4 = .ok (.aload_n 0, 1) := by decide +kernel
theorem dX5_init_5 : decode cX5_init 5 = .ok (.new 7, 3) := by decide +kernel
theorem dX5_init_8 : decode cX5_init 8 = .ok (.dup, 1) := by decide +kernel
theorem dX5_init_9 : decode cX5_init 9 = .ok (.invokespecial 9, 3) := by decide +kernel
theorem dX5_init_12 : decode cX5_init 12 = .ok (.putfield 10, 3) := by decide +kernel
theorem dX5_init_15 : decode cX5_init 15 = .ok (.aload_n 0, 1) := by decide +kernel
theorem dX5_init_16 : decode cX5_init 16 = .ok (.new 16, 3) := by decide +kernel
theorem dX5_init_19 : decode cX5_init 19 = .ok (.dup, 1) := by decide +kernel
theorem dX5_init_20 : decode cX5_init 20 = .ok (.invokespecial 18, 3) := by decide +kernel
theorem dX5_init_23 : decode cX5_init 23 = .ok (.putfield 19, 3) := by decide +kernel
theorem dX5_init_26 : decode cX5_init 26 = .ok (.aload_n 0, 1) := by decide +kernel
theorem dX5_init_27 : decode cX5_init 27 = .ok (.new 23, 3) := by decide +kernel
theorem dX5_init_30 : decode cX5_init 30 = .ok (.dup, 1) := by decide +kernel
theorem dX5_init_31 : decode cX5_init 31 = .ok (.aload_n 0, 1) := by decide +kernel
theorem dX5_init_32 : decode cX5_init 32 = .ok (.getfield 10, 3) := by decide +kernel
theorem dX5_init_35 : decode cX5_init 35 = .ok (.aload_n 0, 1) := by decide +kernel
theorem dX5_init_36 : decode cX5_init 36 = .ok (.getfield 19, 3) := by decide +kernel
theorem dX5_init_39 : decode cX5_init 39 = .ok (.invokespecial 25, 3) := by decide +kernel
theorem dX5_init_42 : decode cX5_init 42 = .ok (.putfield 28, 3) := by decide +kernel
theorem dX5_init_45 : decode cX5_init 45 = .ok (.aload_n 0, 1) := by decide +kernel
theorem dX5_init_46 : decode cX5_init 46 = .ok (.new 32, 3) := by decide +kernel
theorem dX5_init_49 : decode cX5_init 49 = .ok (.dup, 1) := by decide +kernel
theorem dX5_init_50 : decode cX5_init 50 = .ok (.invokespecial 34, 3) := by decide +kernel
theorem dX5_init_53 : decode cX5_init 53 = .ok (.putfield 35, 3) := by decide +kernel
theorem dX5_init_56 : decode cX5_init 56 = .ok (.aload_n 0, 1) := by decide +kernel
theorem dX5_init_57 : decode cX5_init 57 = .ok (.new 39, 3) := by decide +kernel
theorem dX5_init_60 : decode cX5_init 60 = .ok (.dup, 1) := by decide +kernel
theorem dX5_init_61 : decode cX5_init 61 = .ok (.invokespecial 41, 3) := by decide +kernel
theorem dX5_init_64 : decode cX5_init 64 = .ok (.putfield 42, 3) := by decide +kernel
theorem dX5_init_67 : decode cX5_init 67 = .ok (.aload_n 0, 1) := by decide +kernel
theorem dX5_init_68 : decode cX5_init 68 = .ok (.bipush 50, 2) := by decide +kernel
theorem dX5_init_70 : decode cX5_init 70 = .ok (.newarray .boolean, 2) := by decide +kernel
theorem dX5_init_72 : decode cX5_init 72 = .ok (.putfield 46, 3) := by decide +kernel
theorem dX5_init_75 : decode cX5_init 75 = .ok (.return_, 1) := by decide +kernel
theorem dX5_slot_0 : decode cX5_slot 0 = .ok (.iload_n 1, 1) := by decide +kernel
theorem dX5_slot_1 : decode cX5_slot 1 = .ok (.invokestatic 50, 3) := by decide +kernel
theorem dX5_slot_4 : decode cX5_slot 4 = .ok (.iload 6, 2) := by decide +kernel
theorem dX5_slot_6 : decode cX5_slot 6 = .ok (.invokestatic 54, 3) := by decide +kernel
theorem dX5_slot_9 : decode cX5_slot 9 = .ok (.iload 7, 2) := by decide +kernel
theorem dX5_slot_11 : decode cX5_slot 11 = .ok (.invokestatic 57, 3) := by decide +kernel
theorem dX5_slot_14 : decode cX5_slot 14 = .ok (.iload_n 2, 1) := by decide +kernel
theorem dX5_slot_15 : decode cX5_slot 15 = .ok (.invokestatic 60, 3) := by decide +kernel
theorem dX5_slot_18 : decode cX5_slot 18 = .ok (.iload_n 3, 1) := by decide +kernel
theorem dX5_slot_19 : decode cX5_slot 19 = .ok (.iconst 1, 1) := by decide +kernel
theorem dX5_slot_20 : decode cX5_slot 20 = .ok (.if_icmp .lt 9, 3) := by decide +kernel
theorem dX5_slot_23 : decode cX5_slot 23 = .ok (.iload_n 3, 1) := by decide +kernel
theorem dX5_slot_24 : decode cX5_slot 24 = .ok (.bipush 8, 2) := by decide +kernel
theorem dX5_slot_26 : decode cX5_slot 26 = .ok (.if_icmp .le 13, 3) := by decide +kernel
theorem dX5_slot_29 : decode cX5_slot 29 = .ok (.new 63, 3) := by decide +kernel
theorem dX5_slot_32 : decode cX5_slot 32 = .ok (.dup, 1) := by decide +kernel
theorem dX5_slot_33 : decode cX5_slot 33 = .ok (.ldc 65, 2) := by decide +kernel
theorem dX5_slot_35 : decode cX5_slot 35 = .ok (.invokespecial 67, 3) := by decide +kernel
theorem dX5_slot_38 : decode cX5_slot 38 = .ok (.athrow, 1) := by decide +kernel
theorem dX5_slot_39 : decode cX5_slot 39 = .ok (.aload_n 0, 1) := by decide +kernel
theorem dX5_slot_40 : decode cX5_slot 40 = .ok (.getfield 10, 3) := by decide +kernel
theorem dX5_slot_43 : decode cX5_slot 43 = .ok (.getfield 70, 3) := by decide +kernel
theorem dX5_slot_46 : decode cX5_slot 46 = .ok (.sipush 200, 3) := by decide +kernel
theorem dX5_slot_49 : decode cX5_slot 49 = .ok (.if_icmp .lt 13, 3) := by decide +kernel
theorem dX5_slot_52 : decode cX5_slot 52 = .ok (.new 74, 3) := by decide +kernel
theorem dX5_slot_55 : decode cX5_slot 55 = .ok (.dup, 1) := by decide +kernel
theorem dX5_slot_56 : decode cX5_slot 56 = .ok (.ldc 76, 2) := by decide +kernel
theorem dX5_slot_58 : decode cX5_slot 58 = .ok (.invokespecial 78, 3) := by decide +kernel
theorem dX5_slot_61 : decode cX5_slot 61 = .ok (.athrow, 1) := by decide +kernel
theorem dX5_slot_62 : decode cX5_slot 62 = .ok (.aload_n 0, 1) := by decide +kernel
theorem dX5_slot_63 : decode cX5_slot 63 = .ok (.getfield 10, 3) := by decide +kernel
theorem dX5_slot_66 : decode cX5_slot 66 = .ok (.iload_n 1, 1) := by decide +kernel
theorem dX5_slot_67 : decode cX5_slot 67 = .ok (.iload_n 2, 1) := by decide +kernel
theorem dX5_slot_68 : decode cX5_slot 68 = .ok (.iload_n 3, 1) := by decide +kernel
theorem dX5_slot_69 : decode cX5_slot 69 = .ok (.lload 4, 2) := by decide +kernel
theorem dX5_slot_71 : decode cX5_slot 71 = .ok (.iload 6, 2) := by decide +kernel
theorem dX5_slot_73 : decode cX5_slot 73 = .ok (.iload 7, 2) := by decide +kernel
theorem dX5_slot_75 : decode cX5_slot 75 = .ok (.invokevirtual 79, 3) := by decide +kernel
theorem dX5_slot_78 : decode cX5_slot 78 = .ok (.istore 8, 2) := by decide +kernel
theorem dX5_slot_80 : decode cX5_slot 80 = .ok (.aload_n 0, 1) := by decide +kernel
theorem dX5_slot_81 : decode cX5_slot 81 = .ok (.getfield 28, 3) := by decide +kernel
theorem dX5_slot_84 : decode cX5_slot 84 = .ok (.iload 8, 2) := by decide +kernel
theorem dX5_slot_86 : decode cX5_slot 86 = .ok (.invokevirtual 83, 3) := by decide +kernel
theorem dX5_slot_89 : decode cX5_slot 89 = .ok (.iload 8, 2) := by decide +kernel
theorem dX5_slot_91 : decode cX5_slot 91 = .ok (.ireturn, 1) := by decide +kernel
theorem dX5_mark_0 : decode cX5_mark 0 = .ok (.iload_n 1, 1) := by decide +kernel
theorem dX5_mark_1 : decode cX5_mark 1 = .ok (.invokestatic 50, 3) := by decide +kernel
theorem dX5_mark_4 : decode cX5_mark 4 = .ok (.iload_n 2, 1) := by decide +kernel
theorem dX5_mark_5 : decode cX5_mark 5 = .ok (.invokestatic 60, 3) := by decide +kernel
theorem dX5_mark_8 : decode cX5_mark 8 = .ok (.iload_n 3, 1) := by decide +kernel
theorem dX5_mark_9 : decode cX5_mark 9 = .ok (.invokestatic 60, 3) := by decide +kernel
theorem dX5_mark_12 : decode cX5_mark 12 = .ok (.aload_n 0, 1) := by decide +kernel
theorem dX5_mark_13 : decode cX5_mark 13 = .ok (.getfield 19, 3) := by decide +kernel
theorem dX5_mark_16 : decode cX5_mark 16 = .ok (.getfield 86, 3) := by decide +kernel
theorem dX5_mark_19 : decode cX5_mark 19 = .ok (.bipush 60, 2) := by decide +kernel
theorem dX5_mark_21 : decode cX5_mark 21 = .ok (.if_icmp .lt 13, 3) := by decide +kernel
theorem dX5_mark_24 : decode cX5_mark 24 = .ok (.new 74, 3) := by decide +kernel
theorem dX5_mark_27 : decode cX5_mark 27 = .ok (.dup, 1) := by decide +kernel
theorem dX5_mark_28 : decode cX5_mark 28 = .ok (.ldc 87, 2) := by decide +kernel
theorem dX5_mark_30 : decode cX5_mark 30 = .ok (.invokespecial 78, 3) := by decide +kernel
theorem dX5_mark_33 : decode cX5_mark 33 = .ok (.athrow, 1) := by decide +kernel
theorem dX5_mark_34 : decode cX5_mark 34 = .ok (.aload_n 0, 1) := by decide +kernel
theorem dX5_mark_35 : decode cX5_mark 35 = .ok (.getfield 19, 3) := by decide +kernel
theorem dX5_mark_38 : decode cX5_mark 38 = .ok (.iload_n 1, 1) := by decide +kernel
theorem dX5_mark_39 : decode cX5_mark 39 = .ok (.iload_n 3, 1) := by decide +kernel
theorem dX5_mark_40 : decode cX5_mark 40 = .ok (.iload_n 2, 1) := by decide +kernel
theorem dX5_mark_41 : decode cX5_mark 41 = .ok (.isub, 1) := by decide +kernel
theorem dX5_mark_42 : decode cX5_mark 42 = .ok (.invokevirtual 89, 3) := by decide +kernel
theorem dX5_mark_45 : decode cX5_mark 45 = .ok (.istore 4, 2) := by decide +kernel
theorem dX5_mark_47 : decode cX5_mark 47 = .ok (.aload_n 0, 1) := by decide +kernel
theorem dX5_mark_48 : decode cX5_mark 48 = .ok (.getfield 19, 3) := by decide +kernel
theorem dX5_mark_51 : decode cX5_mark 51 = .ok (.getfield 92, 3) := by decide +kernel
theorem dX5_mark_54 : decode cX5_mark 54 = .ok (.iload_n 1, 1) := by decide +kernel
theorem dX5_mark_55 : decode cX5_mark 55 = .ok (.iaload, 1) := by decide +kernel
theorem dX5_mark_56 : decode cX5_mark 56 = .ok (.iload 4, 2) := by decide +kernel
theorem dX5_mark_58 : decode cX5_mark 58 = .ok (.if_icmp .ne 10, 3) := by decide +kernel
theorem dX5_mark_61 : decode cX5_mark 61 = .ok (.aload_n 0, 1) := by decide +kernel
theorem dX5_mark_62 : decode cX5_mark 62 = .ok (.getfield 28, 3) := by decide +kernel
theorem dX5_mark_65 : decode cX5_mark 65 = .ok (.invokevirtual 96, 3) := by decide +kernel
theorem dX5_mark_68 : decode cX5_mark 68 = .ok (.iload 4, 2) := by decide +kernel
theorem dX5_mark_70 : decode cX5_mark 70 = .ok (.ireturn, 1) := by decide +kernel
theorem dX5_offset_0 : decode cX5_offset 0 = .ok (.iload_n 1, 1) := by decide +kernel
theorem dX5_offset_1 : decode cX5_offset 1 = .ok (.invokestatic 50, 3) := by decide +kernel
theorem dX5_offset_4 : decode cX5_offset 4 = .ok (.aload_n 0, 1) := by decide +kernel
theorem dX5_offset_5 : decode cX5_offset 5 = .ok (.getfield 19, 3) := by decide +kernel
theorem dX5_offset_8 : decode cX5_offset 8 = .ok (.iload_n 1, 1) := by decide +kernel
theorem dX5_offset_9 : decode cX5_offset 9 = .ok (.invokevirtual 99, 3) := by decide +kernel
theorem dX5_offset_12 : decode cX5_offset 12 = .ok (.ireturn, 1) := by decide +kernel
theorem dX5_contradiction_0 : decode cX5_contradiction 0 = .ok (.iload_n 1, 1) := by decide +kernel
theorem dX5_contradiction_1 : decode cX5_contradiction 1 = .ok (.invokestatic 103, 3) := by decide +kernel
theorem dX5_contradiction_4 : decode cX5_contradiction 4 = .ok (.aload_n 0, 1) := by decide +kernel
theorem dX5_contradiction_5 : decode cX5_contradiction 5 = .ok (.getfield 19, 3) := by decide +kernel
theorem dX5_contradiction_8 : decode cX5_contradiction 8 = .ok (.iload_n 1, 1) := by decide +kernel
theorem dX5_contradiction_9 : decode cX5_contradiction 9 = .ok (.invokevirtual 106, 3) := by decide +kernel
theorem dX5_contradiction_12 : decode cX5_contradiction 12 = .ok (.ireturn, 1) := by decide +kernel
theorem dX5_find_0 : decode cX5_find 0 = .ok (.iload_n 3, 1) := by decide +kernel
theorem dX5_find_1 : decode cX5_find 1 = .ok (.iconst (-1), 1) := by decide +kernel
theorem dX5_find_2 : decode cX5_find 2 = .ok (.if_icmp .eq 7, 3) := by decide +kernel
theorem dX5_find_5 : decode cX5_find 5 = .ok (.iload_n 3, 1) := by decide +kernel
theorem dX5_find_6 : decode cX5_find 6 = .ok (.invokestatic 54, 3) := by decide +kernel
theorem dX5_find_9 : decode cX5_find 9 = .ok (.iload 4, 2) := by decide +kernel
theorem dX5_find_11 : decode cX5_find 11 = .ok (.iconst (-1), 1) := by decide +kernel
theorem dX5_find_12 : decode cX5_find 12 = .ok (.if_icmp .eq 8, 3) := by decide +kernel
theorem dX5_find_15 : decode cX5_find 15 = .ok (.iload 4, 2) := by decide +kernel
theorem dX5_find_17 : decode cX5_find 17 = .ok (.invokestatic 57, 3) := by decide +kernel
theorem dX5_find_20 : decode cX5_find 20 = .ok (.iload 5, 2) := by decide +kernel
theorem dX5_find_22 : decode cX5_find 22 = .ok (.invokestatic 103, 3) := by decide +kernel
theorem dX5_find_25 : decode cX5_find 25 = .ok (.iconst 0, 1) := by decide +kernel
theorem dX5_find_26 : decode cX5_find 26 = .ok (.istore 6, 2) := by decide +kernel
theorem dX5_find_28 : decode cX5_find 28 = .ok (.iconst 0, 1) := by decide +kernel
theorem dX5_find_29 : decode cX5_find 29 = .ok (.istore 7, 2) := by decide +kernel
theorem dX5_find_31 : decode cX5_find 31 = .ok (.iload 7, 2) := by decide +kernel
theorem dX5_find_33 : decode cX5_find 33 = .ok (.aload_n 0, 1) := by decide +kernel
theorem dX5_find_34 : decode cX5_find 34 = .ok (.getfield 28, 3) := by decide +kernel
theorem dX5_find_37 : decode cX5_find 37 = .ok (.getfield 109, 3) := by decide +kernel
theorem dX5_find_40 : decode cX5_find 40 = .ok (.if_icmp .ge 63, 3) := by decide +kernel
theorem dX5_find_43 : decode cX5_find 43 = .ok (.aload_n 0, 1) := by decide +kernel
theorem dX5_find_44 : decode cX5_find 44 = .ok (.getfield 28, 3) := by decide +kernel
theorem dX5_find_47 : decode cX5_find 47 = .ok (.getfield 112, 3) := by decide +kernel
theorem dX5_find_50 : decode cX5_find 50 = .ok (.iload 7, 2) := by decide +kernel
theorem dX5_find_52 : decode cX5_find 52 = .ok (.iaload, 1) := by decide +kernel
theorem dX5_find_53 : decode cX5_find 53 = .ok (.istore 8, 2) := by decide +kernel
theorem dX5_find_55 : decode cX5_find 55 = .ok (.aload_n 0, 1) := by decide +kernel
theorem dX5_find_56 : decode cX5_find 56 = .ok (.getfield 10, 3) := by decide +kernel
theorem dX5_find_59 : decode cX5_find 59 = .ok (.iload 8, 2) := by decide +kernel
theorem dX5_find_61 : decode cX5_find 61 = .ok (.iload_n 3, 1) := by decide +kernel
theorem dX5_find_62 : decode cX5_find 62 = .ok (.iload 4, 2) := by decide +kernel
theorem dX5_find_64 : decode cX5_find 64 = .ok (.invokevirtual 115, 3) := by decide +kernel
theorem dX5_find_67 : decode cX5_find 67 = .ok (.ifCond .eq 30, 3) := by decide +kernel
theorem dX5_find_70 : decode cX5_find 70 = .ok (.aload_n 0, 1) := by decide +kernel
theorem dX5_find_71 : decode cX5_find 71 = .ok (.getfield 28, 3) := by decide +kernel
theorem dX5_find_74 : decode cX5_find 74 = .ok (.iload 8, 2) := by decide +kernel
theorem dX5_find_76 : decode cX5_find 76 = .ok (.iload_n 1, 1) := by decide +kernel
theorem dX5_find_77 : decode cX5_find 77 = .ok (.iload_n 2, 1) := by decide +kernel
theorem dX5_find_78 : decode cX5_find 78 = .ok (.invokevirtual 119, 3) := by decide +kernel
theorem dX5_find_81 : decode cX5_find 81 = .ok (.ifCond .le 16, 3) := by decide +kernel
theorem dX5_find_84 : decode cX5_find 84 = .ok (.iload 6, 2) := by decide +kernel
theorem dX5_find_86 : decode cX5_find 86 = .ok (.iload 5, 2) := by decide +kernel
theorem dX5_find_88 : decode cX5_find 88 = .ok (.if_icmp .ne 6, 3) := by decide +kernel
theorem dX5_find_91 : decode cX5_find 91 = .ok (.iload 8, 2) := by decide +kernel
theorem dX5_find_93 : decode cX5_find 93 = .ok (.ireturn, 1) := by decide +kernel
theorem dX5_find_94 : decode cX5_find 94 = .ok (.iinc 6 1, 3) := by decide +kernel
theorem dX5_find_97 : decode cX5_find 97 = .ok (.iinc 7 1, 3) := by decide +kernel
theorem dX5_find_100 : decode cX5_find 100 = .ok (.goto (-69), 3) := by decide +kernel
theorem dX5_find_103 : decode cX5_find 103 = .ok (.iconst (-1), 1) := by decide +kernel
theorem dX5_find_104 : decode cX5_find 104 = .ok (.ireturn, 1) := by decide +kernel
theorem dX5_time_0 : decode cX5_time 0 = .ok (.aload_n 0, 1) := by decide +kernel
theorem dX5_time_1 : decode cX5_time 1 = .ok (.iload_n 1, 1) := by decide +kernel
theorem dX5_time_2 : decode cX5_time 2 = .ok (.invokevirtual 123, 3) := by decide +kernel
theorem dX5_time_5 : decode cX5_time 5 = .ok (.aload_n 0, 1) := by decide +kernel
theorem dX5_time_6 : decode cX5_time 6 = .ok (.iload_n 1, 1) := by decide +kernel
theorem dX5_time_7 : decode cX5_time 7 = .ok (.invokevirtual 126, 3) := by decide +kernel
theorem dX5_time_10 : decode cX5_time 10 = .ok (.aload_n 0, 1) := by decide +kernel
theorem dX5_time_11 : decode cX5_time 11 = .ok (.getfield 28, 3) := by decide +kernel
theorem dX5_time_14 : decode cX5_time 14 = .ok (.iload_n 1, 1) := by decide +kernel
theorem dX5_time_15 : decode cX5_time 15 = .ok (.invokevirtual 129, 3) := by decide +kernel
theorem dX5_time_18 : decode cX5_time 18 = .ok (.ireturn, 1) := by decide +kernel
theorem dX5_sum_0 : decode cX5_sum 0 = .ok (.aload_n 0, 1) := by decide +kernel
theorem dX5_sum_1 : decode cX5_sum 1 = .ok (.iload_n 1, 1) := by decide +kernel
theorem dX5_sum_2 : decode cX5_sum 2 = .ok (.invokevirtual 123, 3) := by decide +kernel
theorem dX5_sum_5 : decode cX5_sum 5 = .ok (.aload_n 0, 1) := by decide +kernel
theorem dX5_sum_6 : decode cX5_sum 6 = .ok (.iload_n 1, 1) := by decide +kernel
theorem dX5_sum_7 : decode cX5_sum 7 = .ok (.invokevirtual 126, 3) := by decide +kernel
theorem dX5_sum_10 : decode cX5_sum 10 = .ok (.aload_n 0, 1) := by decide +kernel
theorem dX5_sum_11 : decode cX5_sum 11 = .ok (.getfield 10, 3) := by decide +kernel
theorem dX5_sum_14 : decode cX5_sum 14 = .ok (.iload_n 1, 1) := by decide +kernel
theorem dX5_sum_15 : decode cX5_sum 15 = .ok (.invokevirtual 132, 3) := by decide +kernel
theorem dX5_sum_18 : decode cX5_sum 18 = .ok (.ireturn, 1) := by decide +kernel
theorem dX5_part_0 : decode cX5_part 0 = .ok (.aload_n 0, 1) := by decide +kernel
theorem dX5_part_1 : decode cX5_part 1 = .ok (.iload_n 1, 1) := by decide +kernel
theorem dX5_part_2 : decode cX5_part 2 = .ok (.invokevirtual 123, 3) := by decide +kernel
theorem dX5_part_5 : decode cX5_part 5 = .ok (.aload_n 0, 1) := by decide +kernel
theorem dX5_part_6 : decode cX5_part 6 = .ok (.iload_n 1, 1) := by decide +kernel
theorem dX5_part_7 : decode cX5_part 7 = .ok (.invokevirtual 126, 3) := by decide +kernel
theorem dX5_part_10 : decode cX5_part 10 = .ok (.aload_n 0, 1) := by decide +kernel
theorem dX5_part_11 : decode cX5_part 11 = .ok (.getfield 28, 3) := by decide +kernel
theorem dX5_part_14 : decode cX5_part 14 = .ok (.iconst 0, 1) := by decide +kernel
theorem dX5_part_15 : decode cX5_part 15 = .ok (.iload_n 1, 1) := by decide +kernel
theorem dX5_part_16 : decode cX5_part 16 = .ok (.iload_n 2, 1) := by decide +kernel
theorem dX5_part_17 : decode cX5_part 17 = .ok (.iload_n 3, 1) := by decide +kernel
theorem dX5_part_18 : decode cX5_part 18 = .ok (.invokevirtual 135, 3) := by decide +kernel
theorem dX5_part_21 : decode cX5_part 21 = .ok (.ireturn, 1) := by decide +kernel
theorem dX5_size_0 : decode cX5_size 0 = .ok (.iconst 0, 1) := by decide +kernel
theorem dX5_size_1 : decode cX5_size 1 = .ok (.istore_n 3, 1) := by decide +kernel
theorem dX5_size_2 : decode cX5_size 2 = .ok (.iconst 0, 1) := by decide +kernel
theorem dX5_size_3 : decode cX5_size 3 = .ok (.istore 4, 2) := by decide +kernel
theorem dX5_size_5 : decode cX5_size 5 = .ok (.iload 4, 2) := by decide +kernel
theorem dX5_size_7 : decode cX5_size 7 = .ok (.aload_n 0, 1) := by decide +kernel
theorem dX5_size_8 : decode cX5_size 8 = .ok (.getfield 28, 3) := by decide +kernel
theorem dX5_size_11 : decode cX5_size 11 = .ok (.getfield 109, 3) := by decide +kernel
theorem dX5_size_14 : decode cX5_size 14 = .ok (.if_icmp .ge 31, 3) := by decide +kernel
theorem dX5_size_17 : decode cX5_size 17 = .ok (.iload_n 3, 1) := by decide +kernel
theorem dX5_size_18 : decode cX5_size 18 = .ok (.aload_n 0, 1) := by decide +kernel
theorem dX5_size_19 : decode cX5_size 19 = .ok (.getfield 28, 3) := by decide +kernel
theorem dX5_size_22 : decode cX5_size 22 = .ok (.aload_n 0, 1) := by decide +kernel
theorem dX5_size_23 : decode cX5_size 23 = .ok (.getfield 28, 3) := by decide +kernel
theorem dX5_size_26 : decode cX5_size 26 = .ok (.getfield 112, 3) := by decide +kernel
theorem dX5_size_29 : decode cX5_size 29 = .ok (.iload 4, 2) := by decide +kernel
theorem dX5_size_31 : decode cX5_size 31 = .ok (.iaload, 1) := by decide +kernel
theorem dX5_size_32 : decode cX5_size 32 = .ok (.iload_n 1, 1) := by decide +kernel
theorem dX5_size_33 : decode cX5_size 33 = .ok (.iload_n 2, 1) := by decide +kernel
theorem dX5_size_34 : decode cX5_size 34 = .ok (.invokevirtual 119, 3) := by decide +kernel
theorem dX5_size_37 : decode cX5_size 37 = .ok (.iadd, 1) := by decide +kernel
theorem dX5_size_38 : decode cX5_size 38 = .ok (.istore_n 3, 1) := by decide +kernel
theorem dX5_size_39 : decode cX5_size 39 = .ok (.iinc 4 1, 3) := by decide +kernel
theorem dX5_size_42 : decode cX5_size 42 = .ok (.goto (-37), 3) := by decide +kernel
theorem dX5_size_45 : decode cX5_size 45 = .ok (.iload_n 3, 1) := by decide +kernel
theorem dX5_size_46 : decode cX5_size 46 = .ok (.ireturn, 1) := by decide +kernel
theorem dX5_export_0 : decode cX5_export 0 = .ok (.iconst 0, 1) := by decide +kernel
theorem dX5_export_1 : decode cX5_export 1 = .ok (.istore_n 3, 1) := by decide +kernel
theorem dX5_export_2 : decode cX5_export 2 = .ok (.iconst 0, 1) := by decide +kernel
theorem dX5_export_3 : decode cX5_export 3 = .ok (.istore 4, 2) := by decide +kernel
theorem dX5_export_5 : decode cX5_export 5 = .ok (.iload 4, 2) := by decide +kernel
theorem dX5_export_7 : decode cX5_export 7 = .ok (.aload_n 0, 1) := by decide +kernel
theorem dX5_export_8 : decode cX5_export 8 = .ok (.getfield 28, 3) := by decide +kernel
theorem dX5_export_11 : decode cX5_export 11 = .ok (.getfield 109, 3) := by decide +kernel
theorem dX5_export_14 : decode cX5_export 14 = .ok (.if_icmp .ge 30, 3) := by decide +kernel
theorem dX5_export_17 : decode cX5_export 17 = .ok (.aload_n 0, 1) := by decide +kernel
theorem dX5_export_18 : decode cX5_export 18 = .ok (.getfield 28, 3) := by decide +kernel
theorem dX5_export_21 : decode cX5_export 21 = .ok (.iload_n 3, 1) := by decide +kernel
theorem dX5_export_22 : decode cX5_export 22 = .ok (.aload_n 0, 1) := by decide +kernel
theorem dX5_export_23 : decode cX5_export 23 = .ok (.getfield 28, 3) := by decide +kernel
theorem dX5_export_26 : decode cX5_export 26 = .ok (.getfield 112, 3) := by decide +kernel
theorem dX5_export_29 : decode cX5_export 29 = .ok (.iload 4, 2) := by decide +kernel
theorem dX5_export_31 : decode cX5_export 31 = .ok (.iaload, 1) := by decide +kernel
theorem dX5_export_32 : decode cX5_export 32 = .ok (.iload_n 1, 1) := by decide +kernel
theorem dX5_export_33 : decode cX5_export 33 = .ok (.iload_n 2, 1) := by decide +kernel
theorem dX5_export_34 : decode cX5_export 34 = .ok (.invokevirtual 135, 3) := by decide +kernel
theorem dX5_export_37 : decode cX5_export 37 = .ok (.istore_n 3, 1) := by decide +kernel
theorem dX5_export_38 : decode cX5_export 38 = .ok (.iinc 4 1, 3) := by decide +kernel
theorem dX5_export_41 : decode cX5_export 41 = .ok (.goto (-36), 3) := by decide +kernel
theorem dX5_export_44 : decode cX5_export 44 = .ok (.iload_n 3, 1) := by decide +kernel
theorem dX5_export_45 : decode cX5_export 45 = .ok (.ireturn, 1) := by decide +kernel
theorem dX5_hold_0 : decode cX5_hold 0 = .ok (.iload_n 1, 1) := by decide +kernel
theorem dX5_hold_1 : decode cX5_hold 1 = .ok (.invokestatic 57, 3) := by decide +kernel
theorem dX5_hold_4 : decode cX5_hold 4 = .ok (.aload_n 0, 1) := by decide +kernel
theorem dX5_hold_5 : decode cX5_hold 5 = .ok (.getfield 46, 3) := by decide +kernel
theorem dX5_hold_8 : decode cX5_hold 8 = .ok (.iload_n 1, 1) := by decide +kernel
theorem dX5_hold_9 : decode cX5_hold 9 = .ok (.baload, 1) := by decide +kernel
theorem dX5_hold_10 : decode cX5_hold 10 = .ok (.iload_n 2, 1) := by decide +kernel
theorem dX5_hold_11 : decode cX5_hold 11 = .ok (.if_icmp .ne 13, 3) := by decide +kernel
theorem dX5_hold_14 : decode cX5_hold 14 = .ok (.new 139, 3) := by decide +kernel
theorem dX5_hold_17 : decode cX5_hold 17 = .ok (.dup, 1) := by decide +kernel
theorem dX5_hold_18 : decode cX5_hold 18 = .ok (.ldc 141, 2) := by decide +kernel
theorem dX5_hold_20 : decode cX5_hold 20 = .ok (.invokespecial 143, 3) := by decide +kernel
theorem dX5_hold_23 : decode cX5_hold 23 = .ok (.athrow, 1) := by decide +kernel
theorem dX5_hold_24 : decode cX5_hold 24 = .ok (.aload_n 0, 1) := by decide +kernel
theorem dX5_hold_25 : decode cX5_hold 25 = .ok (.getfield 46, 3) := by decide +kernel
theorem dX5_hold_28 : decode cX5_hold 28 = .ok (.iload_n 1, 1) := by decide +kernel
theorem dX5_hold_29 : decode cX5_hold 29 = .ok (.iload_n 2, 1) := by decide +kernel
theorem dX5_hold_30 : decode cX5_hold 30 = .ok (.bastore, 1) := by decide +kernel
theorem dX5_hold_31 : decode cX5_hold 31 = .ok (.return_, 1) := by decide +kernel
theorem dX5_drop_0 : decode cX5_drop 0 = .ok (.aload_n 0, 1) := by decide +kernel
theorem dX5_drop_1 : decode cX5_drop 1 = .ok (.iload_n 1, 1) := by decide +kernel
theorem dX5_drop_2 : decode cX5_drop 2 = .ok (.invokevirtual 123, 3) := by decide +kernel
theorem dX5_drop_5 : decode cX5_drop 5 = .ok (.aload_n 0, 1) := by decide +kernel
theorem dX5_drop_6 : decode cX5_drop 6 = .ok (.iload_n 1, 1) := by decide +kernel
theorem dX5_drop_7 : decode cX5_drop 7 = .ok (.invokevirtual 126, 3) := by decide +kernel
theorem dX5_drop_10 : decode cX5_drop 10 = .ok (.aload_n 0, 1) := by decide +kernel
theorem dX5_drop_11 : decode cX5_drop 11 = .ok (.getfield 46, 3) := by decide +kernel
theorem dX5_drop_14 : decode cX5_drop 14 = .ok (.aload_n 0, 1) := by decide +kernel
theorem dX5_drop_15 : decode cX5_drop 15 = .ok (.getfield 10, 3) := by decide +kernel
theorem dX5_drop_18 : decode cX5_drop 18 = .ok (.getfield 144, 3) := by decide +kernel
theorem dX5_drop_21 : decode cX5_drop 21 = .ok (.iload_n 1, 1) := by decide +kernel
theorem dX5_drop_22 : decode cX5_drop 22 = .ok (.iaload, 1) := by decide +kernel
theorem dX5_drop_23 : decode cX5_drop 23 = .ok (.baload, 1) := by decide +kernel
theorem dX5_drop_24 : decode cX5_drop 24 = .ok (.ifCond .eq 13, 3) := by decide +kernel
theorem dX5_drop_27 : decode cX5_drop 27 = .ok (.new 139, 3) := by decide +kernel
theorem dX5_drop_30 : decode cX5_drop 30 = .ok (.dup, 1) := by decide +kernel
theorem dX5_drop_31 : decode cX5_drop 31 = .ok (.ldc 147, 2) := by decide +kernel
theorem dX5_drop_33 : decode cX5_drop 33 = .ok (.invokespecial 143, 3) := by decide +kernel
theorem dX5_drop_36 : decode cX5_drop 36 = .ok (.athrow, 1) := by decide +kernel
theorem dX5_drop_37 : decode cX5_drop 37 = .ok (.aload_n 0, 1) := by decide +kernel
theorem dX5_drop_38 : decode cX5_drop 38 = .ok (.getfield 10, 3) := by decide +kernel
theorem dX5_drop_41 : decode cX5_drop 41 = .ok (.getfield 149, 3) := by decide +kernel
theorem dX5_drop_44 : decode cX5_drop 44 = .ok (.iload_n 1, 1) := by decide +kernel
theorem dX5_drop_45 : decode cX5_drop 45 = .ok (.iconst 0, 1) := by decide +kernel
theorem dX5_drop_46 : decode cX5_drop 46 = .ok (.bastore, 1) := by decide +kernel
theorem dX5_drop_47 : decode cX5_drop 47 = .ok (.aload_n 0, 1) := by decide +kernel
theorem dX5_drop_48 : decode cX5_drop 48 = .ok (.getfield 28, 3) := by decide +kernel
theorem dX5_drop_51 : decode cX5_drop 51 = .ok (.iload_n 1, 1) := by decide +kernel
theorem dX5_drop_52 : decode cX5_drop 52 = .ok (.invokevirtual 152, 3) := by decide +kernel
theorem dX5_drop_55 : decode cX5_drop 55 = .ok (.aload_n 0, 1) := by decide +kernel
theorem dX5_drop_56 : decode cX5_drop 56 = .ok (.getfield 35, 3) := by decide +kernel
theorem dX5_drop_59 : decode cX5_drop 59 = .ok (.iload_n 1, 1) := by decide +kernel
theorem dX5_drop_60 : decode cX5_drop 60 = .ok (.aload_n 0, 1) := by decide +kernel
theorem dX5_drop_61 : decode cX5_drop 61 = .ok (.getfield 10, 3) := by decide +kernel
theorem dX5_drop_64 : decode cX5_drop 64 = .ok (.getfield 155, 3) := by decide +kernel
theorem dX5_drop_67 : decode cX5_drop 67 = .ok (.iload_n 1, 1) := by decide +kernel
theorem dX5_drop_68 : decode cX5_drop 68 = .ok (.iaload, 1) := by decide +kernel
theorem dX5_drop_69 : decode cX5_drop 69 = .ok (.aload_n 0, 1) := by decide +kernel
theorem dX5_drop_70 : decode cX5_drop 70 = .ok (.getfield 10, 3) := by decide +kernel
theorem dX5_drop_73 : decode cX5_drop 73 = .ok (.iload_n 1, 1) := by decide +kernel
theorem dX5_drop_74 : decode cX5_drop 74 = .ok (.invokevirtual 132, 3) := by decide +kernel
theorem dX5_drop_77 : decode cX5_drop 77 = .ok (.invokevirtual 158, 3) := by decide +kernel
theorem dX5_drop_80 : decode cX5_drop 80 = .ok (.ireturn, 1) := by decide +kernel
theorem dX5_certificate_0 : decode cX5_certificate 0 = .ok (.iload_n 1, 1) := by decide +kernel
theorem dX5_certificate_1 : decode cX5_certificate 1 = .ok (.ifCond .lt 14, 3) := by decide +kernel
theorem dX5_certificate_4 : decode cX5_certificate 4 = .ok (.iload_n 1, 1) := by decide +kernel
theorem dX5_certificate_5 : decode cX5_certificate 5 = .ok (.aload_n 0, 1) := by decide +kernel
theorem dX5_certificate_6 : decode cX5_certificate 6 = .ok (.getfield 35, 3) := by decide +kernel
theorem dX5_certificate_9 : decode cX5_certificate 9 = .ok (.getfield 160, 3) := by decide +kernel
theorem dX5_certificate_12 : decode cX5_certificate 12 = .ok (.if_icmp .lt 13, 3) := by decide +kernel
theorem dX5_certificate_15 : decode cX5_certificate 15 = .ok (.new 161, 3) := by decide +kernel
theorem dX5_certificate_18 : decode cX5_certificate 18 = .ok (.dup, 1) := by decide +kernel
theorem dX5_certificate_19 : decode cX5_certificate 19 = .ok (.ldc 163, 2) := by decide +kernel
theorem dX5_certificate_21 : decode cX5_certificate 21 = .ok (.invokespecial 165, 3) := by decide +kernel
theorem dX5_certificate_24 : decode cX5_certificate 24 = .ok (.athrow, 1) := by decide +kernel
theorem dX5_certificate_25 : decode cX5_certificate 25 = .ok (.iload_n 2, 1) := by decide +kernel
theorem dX5_certificate_26 : decode cX5_certificate 26 = .ok (.tableswitch 56 0 2 #[26, 36, 46], 26) := by decide +kernel
theorem dX5_certificate_52 : decode cX5_certificate 52 = .ok (.aload_n 0, 1) := by decide +kernel
theorem dX5_certificate_53 : decode cX5_certificate 53 = .ok (.getfield 35, 3) := by decide +kernel
theorem dX5_certificate_56 : decode cX5_certificate 56 = .ok (.getfield 166, 3) := by decide +kernel
theorem dX5_certificate_59 : decode cX5_certificate 59 = .ok (.iload_n 1, 1) := by decide +kernel
theorem dX5_certificate_60 : decode cX5_certificate 60 = .ok (.iaload, 1) := by decide +kernel
theorem dX5_certificate_61 : decode cX5_certificate 61 = .ok (.ireturn, 1) := by decide +kernel
theorem dX5_certificate_62 : decode cX5_certificate 62 = .ok (.aload_n 0, 1) := by decide +kernel
theorem dX5_certificate_63 : decode cX5_certificate 63 = .ok (.getfield 35, 3) := by decide +kernel
theorem dX5_certificate_66 : decode cX5_certificate 66 = .ok (.getfield 169, 3) := by decide +kernel
theorem dX5_certificate_69 : decode cX5_certificate 69 = .ok (.iload_n 1, 1) := by decide +kernel
theorem dX5_certificate_70 : decode cX5_certificate 70 = .ok (.iaload, 1) := by decide +kernel
theorem dX5_certificate_71 : decode cX5_certificate 71 = .ok (.ireturn, 1) := by decide +kernel
theorem dX5_certificate_72 : decode cX5_certificate 72 = .ok (.aload_n 0, 1) := by decide +kernel
theorem dX5_certificate_73 : decode cX5_certificate 73 = .ok (.getfield 35, 3) := by decide +kernel
theorem dX5_certificate_76 : decode cX5_certificate 76 = .ok (.getfield 170, 3) := by decide +kernel
theorem dX5_certificate_79 : decode cX5_certificate 79 = .ok (.iload_n 1, 1) := by decide +kernel
theorem dX5_certificate_80 : decode cX5_certificate 80 = .ok (.iaload, 1) := by decide +kernel
theorem dX5_certificate_81 : decode cX5_certificate 81 = .ok (.ireturn, 1) := by decide +kernel
theorem dX5_certificate_82 : decode cX5_certificate 82 = .ok (.new 161, 3) := by decide +kernel
theorem dX5_certificate_85 : decode cX5_certificate 85 = .ok (.dup, 1) := by decide +kernel
theorem dX5_certificate_86 : decode cX5_certificate 86 = .ok (.ldc 173, 2) := by decide +kernel
theorem dX5_certificate_88 : decode cX5_certificate 88 = .ok (.invokespecial 165, 3) := by decide +kernel
theorem dX5_certificate_91 : decode cX5_certificate 91 = .ok (.athrow, 1) := by decide +kernel
theorem dX5_right_0 : decode cX5_right 0 = .ok (.iload_n 1, 1) := by decide +kernel
theorem dX5_right_1 : decode cX5_right 1 = .ok (.invokestatic 175, 3) := by decide +kernel
theorem dX5_right_4 : decode cX5_right 4 = .ok (.iload_n 2, 1) := by decide +kernel
theorem dX5_right_5 : decode cX5_right 5 = .ok (.invokestatic 57, 3) := by decide +kernel
theorem dX5_right_8 : decode cX5_right 8 = .ok (.aload_n 0, 1) := by decide +kernel
theorem dX5_right_9 : decode cX5_right 9 = .ok (.getfield 42, 3) := by decide +kernel
theorem dX5_right_12 : decode cX5_right 12 = .ok (.iload_n 1, 1) := by decide +kernel
theorem dX5_right_13 : decode cX5_right 13 = .ok (.iload_n 2, 1) := by decide +kernel
theorem dX5_right_14 : decode cX5_right 14 = .ok (.iload_n 3, 1) := by decide +kernel
theorem dX5_right_15 : decode cX5_right 15 = .ok (.invokevirtual 178, 3) := by decide +kernel
theorem dX5_right_18 : decode cX5_right 18 = .ok (.return_, 1) := by decide +kernel
theorem dX5_listen_0 : decode cX5_listen 0 = .ok (.iload_n 1, 1) := by decide +kernel
theorem dX5_listen_1 : decode cX5_listen 1 = .ok (.invokestatic 175, 3) := by decide +kernel
theorem dX5_listen_4 : decode cX5_listen 4 = .ok (.aload_n 0, 1) := by decide +kernel
theorem dX5_listen_5 : decode cX5_listen 5 = .ok (.iload_n 2, 1) := by decide +kernel
theorem dX5_listen_6 : decode cX5_listen 6 = .ok (.invokevirtual 123, 3) := by decide +kernel
theorem dX5_listen_9 : decode cX5_listen 9 = .ok (.aload_n 0, 1) := by decide +kernel
theorem dX5_listen_10 : decode cX5_listen 10 = .ok (.getfield 10, 3) := by decide +kernel
theorem dX5_listen_13 : decode cX5_listen 13 = .ok (.getfield 149, 3) := by decide +kernel
theorem dX5_listen_16 : decode cX5_listen 16 = .ok (.iload_n 2, 1) := by decide +kernel
theorem dX5_listen_17 : decode cX5_listen 17 = .ok (.baload, 1) := by decide +kernel
theorem dX5_listen_18 : decode cX5_listen 18 = .ok (.ifCond .eq 27, 3) := by decide +kernel
theorem dX5_listen_21 : decode cX5_listen 21 = .ok (.aload_n 0, 1) := by decide +kernel
theorem dX5_listen_22 : decode cX5_listen 22 = .ok (.getfield 42, 3) := by decide +kernel
theorem dX5_listen_25 : decode cX5_listen 25 = .ok (.iload_n 1, 1) := by decide +kernel
theorem dX5_listen_26 : decode cX5_listen 26 = .ok (.aload_n 0, 1) := by decide +kernel
theorem dX5_listen_27 : decode cX5_listen 27 = .ok (.getfield 10, 3) := by decide +kernel
theorem dX5_listen_30 : decode cX5_listen 30 = .ok (.getfield 144, 3) := by decide +kernel
theorem dX5_listen_33 : decode cX5_listen 33 = .ok (.iload_n 2, 1) := by decide +kernel
theorem dX5_listen_34 : decode cX5_listen 34 = .ok (.iaload, 1) := by decide +kernel
theorem dX5_listen_35 : decode cX5_listen 35 = .ok (.invokevirtual 182, 3) := by decide +kernel
theorem dX5_listen_38 : decode cX5_listen 38 = .ok (.ifCond .eq 7, 3) := by decide +kernel
theorem dX5_listen_41 : decode cX5_listen 41 = .ok (.iconst 1, 1) := by decide +kernel
theorem dX5_listen_42 : decode cX5_listen 42 = .ok (.goto 4, 3) := by decide +kernel
theorem dX5_listen_45 : decode cX5_listen 45 = .ok (.iconst 0, 1) := by decide +kernel
theorem dX5_listen_46 : decode cX5_listen 46 = .ok (.istore_n 3, 1) := by decide +kernel
theorem dX5_listen_47 : decode cX5_listen 47 = .ok (.aload_n 0, 1) := by decide +kernel
theorem dX5_listen_48 : decode cX5_listen 48 = .ok (.getfield 42, 3) := by decide +kernel
theorem dX5_listen_51 : decode cX5_listen 51 = .ok (.iload_n 1, 1) := by decide +kernel
theorem dX5_listen_52 : decode cX5_listen 52 = .ok (.iload_n 2, 1) := by decide +kernel
theorem dX5_listen_53 : decode cX5_listen 53 = .ok (.iload_n 3, 1) := by decide +kernel
theorem dX5_listen_54 : decode cX5_listen 54 = .ok (.invokevirtual 186, 3) := by decide +kernel
theorem dX5_listen_57 : decode cX5_listen 57 = .ok (.iload_n 3, 1) := by decide +kernel
theorem dX5_listen_58 : decode cX5_listen 58 = .ok (.ifCond .ne 13, 3) := by decide +kernel
theorem dX5_listen_61 : decode cX5_listen 61 = .ok (.new 139, 3) := by decide +kernel
theorem dX5_listen_64 : decode cX5_listen 64 = .ok (.dup, 1) := by decide +kernel
theorem dX5_listen_65 : decode cX5_listen 65 = .ok (.ldc 189, 2) := by decide +kernel
theorem dX5_listen_67 : decode cX5_listen 67 = .ok (.invokespecial 143, 3) := by decide +kernel
theorem dX5_listen_70 : decode cX5_listen 70 = .ok (.athrow, 1) := by decide +kernel
theorem dX5_listen_71 : decode cX5_listen 71 = .ok (.aload_n 0, 1) := by decide +kernel
theorem dX5_listen_72 : decode cX5_listen 72 = .ok (.getfield 10, 3) := by decide +kernel
theorem dX5_listen_75 : decode cX5_listen 75 = .ok (.iload_n 2, 1) := by decide +kernel
theorem dX5_listen_76 : decode cX5_listen 76 = .ok (.invokevirtual 132, 3) := by decide +kernel
theorem dX5_listen_79 : decode cX5_listen 79 = .ok (.ireturn, 1) := by decide +kernel
theorem dX5_row_0 : decode cX5_row 0 = .ok (.aload_n 0, 1) := by decide +kernel
theorem dX5_row_1 : decode cX5_row 1 = .ok (.getfield 42, 3) := by decide +kernel
theorem dX5_row_4 : decode cX5_row 4 = .ok (.iload_n 1, 1) := by decide +kernel
theorem dX5_row_5 : decode cX5_row 5 = .ok (.invokevirtual 191, 3) := by decide +kernel
theorem dX5_row_8 : decode cX5_row 8 = .ok (.ifCond .ne 13, 3) := by decide +kernel
theorem dX5_row_11 : decode cX5_row 11 = .ok (.new 161, 3) := by decide +kernel
theorem dX5_row_14 : decode cX5_row 14 = .ok (.dup, 1) := by decide +kernel
theorem dX5_row_15 : decode cX5_row 15 = .ok (.ldc 195, 2) := by decide +kernel
theorem dX5_row_17 : decode cX5_row 17 = .ok (.invokespecial 165, 3) := by decide +kernel
theorem dX5_row_20 : decode cX5_row 20 = .ok (.athrow, 1) := by decide +kernel
theorem dX5_row_21 : decode cX5_row 21 = .ok (.iload_n 1, 1) := by decide +kernel
theorem dX5_row_22 : decode cX5_row 22 = .ok (.sipush 200, 3) := by decide +kernel
theorem dX5_row_25 : decode cX5_row 25 = .ok (.irem, 1) := by decide +kernel
theorem dX5_row_26 : decode cX5_row 26 = .ok (.istore_n 3, 1) := by decide +kernel
theorem dX5_row_27 : decode cX5_row 27 = .ok (.iload_n 2, 1) := by decide +kernel
theorem dX5_row_28 : decode cX5_row 28 = .ok (.tableswitch 66 0 2 #[28, 38, 48], 28) := by decide +kernel
theorem dX5_row_56 : decode cX5_row 56 = .ok (.aload_n 0, 1) := by decide +kernel
theorem dX5_row_57 : decode cX5_row 57 = .ok (.getfield 42, 3) := by decide +kernel
theorem dX5_row_60 : decode cX5_row 60 = .ok (.getfield 197, 3) := by decide +kernel
theorem dX5_row_63 : decode cX5_row 63 = .ok (.iload_n 3, 1) := by decide +kernel
theorem dX5_row_64 : decode cX5_row 64 = .ok (.iaload, 1) := by decide +kernel
theorem dX5_row_65 : decode cX5_row 65 = .ok (.ireturn, 1) := by decide +kernel
theorem dX5_row_66 : decode cX5_row 66 = .ok (.aload_n 0, 1) := by decide +kernel
theorem dX5_row_67 : decode cX5_row 67 = .ok (.getfield 42, 3) := by decide +kernel
theorem dX5_row_70 : decode cX5_row 70 = .ok (.getfield 200, 3) := by decide +kernel
theorem dX5_row_73 : decode cX5_row 73 = .ok (.iload_n 3, 1) := by decide +kernel
theorem dX5_row_74 : decode cX5_row 74 = .ok (.iaload, 1) := by decide +kernel
theorem dX5_row_75 : decode cX5_row 75 = .ok (.ireturn, 1) := by decide +kernel
theorem dX5_row_76 : decode cX5_row 76 = .ok (.aload_n 0, 1) := by decide +kernel
theorem dX5_row_77 : decode cX5_row 77 = .ok (.getfield 42, 3) := by decide +kernel
theorem dX5_row_80 : decode cX5_row 80 = .ok (.getfield 201, 3) := by decide +kernel
theorem dX5_row_83 : decode cX5_row 83 = .ok (.iload_n 3, 1) := by decide +kernel
theorem dX5_row_84 : decode cX5_row 84 = .ok (.baload, 1) := by decide +kernel
theorem dX5_row_85 : decode cX5_row 85 = .ok (.ifCond .eq 7, 3) := by decide +kernel
theorem dX5_row_88 : decode cX5_row 88 = .ok (.iconst 1, 1) := by decide +kernel
theorem dX5_row_89 : decode cX5_row 89 = .ok (.goto 4, 3) := by decide +kernel
theorem dX5_row_92 : decode cX5_row 92 = .ok (.iconst 0, 1) := by decide +kernel
theorem dX5_row_93 : decode cX5_row 93 = .ok (.ireturn, 1) := by decide +kernel
theorem dX5_row_94 : decode cX5_row 94 = .ok (.new 161, 3) := by decide +kernel
theorem dX5_row_97 : decode cX5_row 97 = .ok (.dup, 1) := by decide +kernel
theorem dX5_row_98 : decode cX5_row 98 = .ok (.ldc 204, 2) := by decide +kernel
theorem dX5_row_100 : decode cX5_row 100 = .ok (.invokespecial 165, 3) := by decide +kernel
theorem dX5_row_103 : decode cX5_row 103 = .ok (.athrow, 1) := by decide +kernel
theorem dX5_poke_0 : decode cX5_poke 0 = .ok (.aload_n 0, 1) := by decide +kernel
theorem dX5_poke_1 : decode cX5_poke 1 = .ok (.iload_n 1, 1) := by decide +kernel
theorem dX5_poke_2 : decode cX5_poke 2 = .ok (.invokevirtual 123, 3) := by decide +kernel
theorem dX5_poke_5 : decode cX5_poke 5 = .ok (.iload_n 2, 1) := by decide +kernel
theorem dX5_poke_6 : decode cX5_poke 6 = .ok (.ifCond .lt 16, 3) := by decide +kernel
theorem dX5_poke_9 : decode cX5_poke 9 = .ok (.iload_n 2, 1) := by decide +kernel
theorem dX5_poke_10 : decode cX5_poke 10 = .ok (.aload_n 0, 1) := by decide +kernel
theorem dX5_poke_11 : decode cX5_poke 11 = .ok (.getfield 10, 3) := by decide +kernel
theorem dX5_poke_14 : decode cX5_poke 14 = .ok (.getfield 206, 3) := by decide +kernel
theorem dX5_poke_17 : decode cX5_poke 17 = .ok (.iload_n 1, 1) := by decide +kernel
theorem dX5_poke_18 : decode cX5_poke 18 = .ok (.iaload, 1) := by decide +kernel
theorem dX5_poke_19 : decode cX5_poke 19 = .ok (.if_icmp .lt 13, 3) := by decide +kernel
theorem dX5_poke_22 : decode cX5_poke 22 = .ok (.new 63, 3) := by decide +kernel
theorem dX5_poke_25 : decode cX5_poke 25 = .ok (.dup, 1) := by decide +kernel
theorem dX5_poke_26 : decode cX5_poke 26 = .ok (.ldc 208, 2) := by decide +kernel
theorem dX5_poke_28 : decode cX5_poke 28 = .ok (.invokespecial 67, 3) := by decide +kernel
theorem dX5_poke_31 : decode cX5_poke 31 = .ok (.athrow, 1) := by decide +kernel
theorem dX5_poke_32 : decode cX5_poke 32 = .ok (.iload_n 3, 1) := by decide +kernel
theorem dX5_poke_33 : decode cX5_poke 33 = .ok (.iconst 1, 1) := by decide +kernel
theorem dX5_poke_34 : decode cX5_poke 34 = .ok (.if_icmp .lt 10, 3) := by decide +kernel
theorem dX5_poke_37 : decode cX5_poke 37 = .ok (.iload_n 3, 1) := by decide +kernel
theorem dX5_poke_38 : decode cX5_poke 38 = .ok (.sipush 255, 3) := by decide +kernel
theorem dX5_poke_41 : decode cX5_poke 41 = .ok (.if_icmp .le 13, 3) := by decide +kernel
theorem dX5_poke_44 : decode cX5_poke 44 = .ok (.new 63, 3) := by decide +kernel
theorem dX5_poke_47 : decode cX5_poke 47 = .ok (.dup, 1) := by decide +kernel
theorem dX5_poke_48 : decode cX5_poke 48 = .ok (.ldc 210, 2) := by decide +kernel
theorem dX5_poke_50 : decode cX5_poke 50 = .ok (.invokespecial 67, 3) := by decide +kernel
theorem dX5_poke_53 : decode cX5_poke 53 = .ok (.athrow, 1) := by decide +kernel
theorem dX5_poke_54 : decode cX5_poke 54 = .ok (.aload_n 0, 1) := by decide +kernel
theorem dX5_poke_55 : decode cX5_poke 55 = .ok (.iload_n 1, 1) := by decide +kernel
theorem dX5_poke_56 : decode cX5_poke 56 = .ok (.invokevirtual 126, 3) := by decide +kernel
theorem dX5_poke_59 : decode cX5_poke 59 = .ok (.aload_n 0, 1) := by decide +kernel
theorem dX5_poke_60 : decode cX5_poke 60 = .ok (.getfield 10, 3) := by decide +kernel
theorem dX5_poke_63 : decode cX5_poke 63 = .ok (.iload_n 1, 1) := by decide +kernel
theorem dX5_poke_64 : decode cX5_poke 64 = .ok (.iload_n 2, 1) := by decide +kernel
theorem dX5_poke_65 : decode cX5_poke 65 = .ok (.iload_n 3, 1) := by decide +kernel
theorem dX5_poke_66 : decode cX5_poke 66 = .ok (.invokevirtual 212, 3) := by decide +kernel
theorem dX5_poke_69 : decode cX5_poke 69 = .ok (.return_, 1) := by decide +kernel
theorem dX5_verify_0 : decode cX5_verify 0 = .ok (.iconst 0, 1) := by decide +kernel
theorem dX5_verify_1 : decode cX5_verify 1 = .ok (.istore_n 1, 1) := by decide +kernel
theorem dX5_verify_2 : decode cX5_verify 2 = .ok (.iload_n 1, 1) := by decide +kernel
theorem dX5_verify_3 : decode cX5_verify 3 = .ok (.aload_n 0, 1) := by decide +kernel
theorem dX5_verify_4 : decode cX5_verify 4 = .ok (.getfield 10, 3) := by decide +kernel
theorem dX5_verify_7 : decode cX5_verify 7 = .ok (.getfield 70, 3) := by decide +kernel
theorem dX5_verify_10 : decode cX5_verify 10 = .ok (.if_icmp .ge 43, 3) := by decide +kernel
theorem dX5_verify_13 : decode cX5_verify 13 = .ok (.aload_n 0, 1) := by decide +kernel
theorem dX5_verify_14 : decode cX5_verify 14 = .ok (.getfield 10, 3) := by decide +kernel
theorem dX5_verify_17 : decode cX5_verify 17 = .ok (.getfield 149, 3) := by decide +kernel
theorem dX5_verify_20 : decode cX5_verify 20 = .ok (.iload_n 1, 1) := by decide +kernel
theorem dX5_verify_21 : decode cX5_verify 21 = .ok (.baload, 1) := by decide +kernel
theorem dX5_verify_22 : decode cX5_verify 22 = .ok (.ifCond .eq 25, 3) := by decide +kernel
theorem dX5_verify_25 : decode cX5_verify 25 = .ok (.aload_n 0, 1) := by decide +kernel
theorem dX5_verify_26 : decode cX5_verify 26 = .ok (.getfield 10, 3) := by decide +kernel
theorem dX5_verify_29 : decode cX5_verify 29 = .ok (.iload_n 1, 1) := by decide +kernel
theorem dX5_verify_30 : decode cX5_verify 30 = .ok (.invokevirtual 132, 3) := by decide +kernel
theorem dX5_verify_33 : decode cX5_verify 33 = .ok (.aload_n 0, 1) := by decide +kernel
theorem dX5_verify_34 : decode cX5_verify 34 = .ok (.getfield 10, 3) := by decide +kernel
theorem dX5_verify_37 : decode cX5_verify 37 = .ok (.getfield 155, 3) := by decide +kernel
theorem dX5_verify_40 : decode cX5_verify 40 = .ok (.iload_n 1, 1) := by decide +kernel
theorem dX5_verify_41 : decode cX5_verify 41 = .ok (.iaload, 1) := by decide +kernel
theorem dX5_verify_42 : decode cX5_verify 42 = .ok (.if_icmp .eq 5, 3) := by decide +kernel
theorem dX5_verify_45 : decode cX5_verify 45 = .ok (.iload_n 1, 1) := by decide +kernel
theorem dX5_verify_46 : decode cX5_verify 46 = .ok (.ireturn, 1) := by decide +kernel
theorem dX5_verify_47 : decode cX5_verify 47 = .ok (.iinc 1 1, 3) := by decide +kernel
theorem dX5_verify_50 : decode cX5_verify 50 = .ok (.goto (-48), 3) := by decide +kernel
theorem dX5_verify_53 : decode cX5_verify 53 = .ok (.iconst (-1), 1) := by decide +kernel
theorem dX5_verify_54 : decode cX5_verify 54 = .ok (.ireturn, 1) := by decide +kernel
theorem dX5_count_0 : decode cX5_count 0 = .ok (.iload_n 1, 1) := by decide +kernel
theorem dX5_count_1 : decode cX5_count 1 = .ok (.tableswitch 75 0 4 #[35, 43, 51, 59, 67], 35) := by decide +kernel
theorem dX5_count_36 : decode cX5_count 36 = .ok (.aload_n 0, 1) := by decide +kernel
theorem dX5_count_37 : decode cX5_count 37 = .ok (.getfield 10, 3) := by decide +kernel
theorem dX5_count_40 : decode cX5_count 40 = .ok (.getfield 70, 3) := by decide +kernel
theorem dX5_count_43 : decode cX5_count 43 = .ok (.ireturn, 1) := by decide +kernel
theorem dX5_count_44 : decode cX5_count 44 = .ok (.aload_n 0, 1) := by decide +kernel
theorem dX5_count_45 : decode cX5_count 45 = .ok (.getfield 28, 3) := by decide +kernel
theorem dX5_count_48 : decode cX5_count 48 = .ok (.getfield 109, 3) := by decide +kernel
theorem dX5_count_51 : decode cX5_count 51 = .ok (.ireturn, 1) := by decide +kernel
theorem dX5_count_52 : decode cX5_count 52 = .ok (.aload_n 0, 1) := by decide +kernel
theorem dX5_count_53 : decode cX5_count 53 = .ok (.getfield 19, 3) := by decide +kernel
theorem dX5_count_56 : decode cX5_count 56 = .ok (.getfield 86, 3) := by decide +kernel
theorem dX5_count_59 : decode cX5_count 59 = .ok (.ireturn, 1) := by decide +kernel
theorem dX5_count_60 : decode cX5_count 60 = .ok (.aload_n 0, 1) := by decide +kernel
theorem dX5_count_61 : decode cX5_count 61 = .ok (.getfield 35, 3) := by decide +kernel
theorem dX5_count_64 : decode cX5_count 64 = .ok (.getfield 160, 3) := by decide +kernel
theorem dX5_count_67 : decode cX5_count 67 = .ok (.ireturn, 1) := by decide +kernel
theorem dX5_count_68 : decode cX5_count 68 = .ok (.aload_n 0, 1) := by decide +kernel
theorem dX5_count_69 : decode cX5_count 69 = .ok (.getfield 42, 3) := by decide +kernel
theorem dX5_count_72 : decode cX5_count 72 = .ok (.getfield 216, 3) := by decide +kernel
theorem dX5_count_75 : decode cX5_count 75 = .ok (.ireturn, 1) := by decide +kernel
theorem dX5_count_76 : decode cX5_count 76 = .ok (.new 161, 3) := by decide +kernel
theorem dX5_count_79 : decode cX5_count 79 = .ok (.dup, 1) := by decide +kernel
theorem dX5_count_80 : decode cX5_count 80 = .ok (.ldc 219, 2) := by decide +kernel
theorem dX5_count_82 : decode cX5_count 82 = .ok (.invokespecial 165, 3) := by decide +kernel
theorem dX5_count_85 : decode cX5_count 85 = .ok (.athrow, 1) := by decide +kernel
theorem dX5_checkSource_0 : decode cX5_checkSource 0 = .ok (.iload_n 0, 1) := by decide +kernel
theorem dX5_checkSource_1 : decode cX5_checkSource 1 = .ok (.ifCond .lt 9, 3) := by decide +kernel
theorem dX5_checkSource_4 : decode cX5_checkSource 4 = .ok (.iload_n 0, 1) := by decide +kernel
theorem dX5_checkSource_5 : decode cX5_checkSource 5 = .ok (.bipush 10, 2) := by decide +kernel
theorem dX5_checkSource_7 : decode cX5_checkSource 7 = .ok (.if_icmp .lt 13, 3) := by decide +kernel
theorem dX5_checkSource_10 : decode cX5_checkSource 10 = .ok (.new 161, 3) := by decide +kernel
theorem dX5_checkSource_13 : decode cX5_checkSource 13 = .ok (.dup, 1) := by decide +kernel
theorem dX5_checkSource_14 : decode cX5_checkSource 14 = .ok (.ldc 221, 2) := by decide +kernel
theorem dX5_checkSource_16 : decode cX5_checkSource 16 = .ok (.invokespecial 165, 3) := by decide +kernel
theorem dX5_checkSource_19 : decode cX5_checkSource 19 = .ok (.athrow, 1) := by decide +kernel
theorem dX5_checkSource_20 : decode cX5_checkSource 20 = .ok (.return_, 1) := by decide +kernel
theorem dX5_checkUnit_0 : decode cX5_checkUnit 0 = .ok (.iload_n 0, 1) := by decide +kernel
theorem dX5_checkUnit_1 : decode cX5_checkUnit 1 = .ok (.ifCond .lt 9, 3) := by decide +kernel
theorem dX5_checkUnit_4 : decode cX5_checkUnit 4 = .ok (.iload_n 0, 1) := by decide +kernel
theorem dX5_checkUnit_5 : decode cX5_checkUnit 5 = .ok (.bipush 100, 2) := by decide +kernel
theorem dX5_checkUnit_7 : decode cX5_checkUnit 7 = .ok (.if_icmp .lt 13, 3) := by decide +kernel
theorem dX5_checkUnit_10 : decode cX5_checkUnit 10 = .ok (.new 161, 3) := by decide +kernel
theorem dX5_checkUnit_13 : decode cX5_checkUnit 13 = .ok (.dup, 1) := by decide +kernel
theorem dX5_checkUnit_14 : decode cX5_checkUnit 14 = .ok (.ldc 223, 2) := by decide +kernel
theorem dX5_checkUnit_16 : decode cX5_checkUnit 16 = .ok (.invokespecial 165, 3) := by decide +kernel
theorem dX5_checkUnit_19 : decode cX5_checkUnit 19 = .ok (.athrow, 1) := by decide +kernel
theorem dX5_checkUnit_20 : decode cX5_checkUnit 20 = .ok (.return_, 1) := by decide +kernel
theorem dX5_checkIncident_0 : decode cX5_checkIncident 0 = .ok (.iload_n 0, 1) := by decide +kernel
theorem dX5_checkIncident_1 : decode cX5_checkIncident 1 = .ok (.ifCond .lt 9, 3) := by decide +kernel
theorem dX5_checkIncident_4 : decode cX5_checkIncident 4 = .ok (.iload_n 0, 1) := by decide +kernel
theorem dX5_checkIncident_5 : decode cX5_checkIncident 5 = .ok (.bipush 50, 2) := by decide +kernel
theorem dX5_checkIncident_7 : decode cX5_checkIncident 7 = .ok (.if_icmp .lt 13, 3) := by decide +kernel
theorem dX5_checkIncident_10 : decode cX5_checkIncident 10 = .ok (.new 161, 3) := by decide +kernel
theorem dX5_checkIncident_13 : decode cX5_checkIncident 13 = .ok (.dup, 1) := by decide +kernel
theorem dX5_checkIncident_14 : decode cX5_checkIncident 14 = .ok (.ldc 225, 2) := by decide +kernel
theorem dX5_checkIncident_16 : decode cX5_checkIncident 16 = .ok (.invokespecial 165, 3) := by decide +kernel
theorem dX5_checkIncident_19 : decode cX5_checkIncident 19 = .ok (.athrow, 1) := by decide +kernel
theorem dX5_checkIncident_20 : decode cX5_checkIncident 20 = .ok (.return_, 1) := by decide +kernel
theorem dX5_checkPerson_0 : decode cX5_checkPerson 0 = .ok (.iload_n 0, 1) := by decide +kernel
theorem dX5_checkPerson_1 : decode cX5_checkPerson 1 = .ok (.ifCond .lt 9, 3) := by decide +kernel
theorem dX5_checkPerson_4 : decode cX5_checkPerson 4 = .ok (.iload_n 0, 1) := by decide +kernel
theorem dX5_checkPerson_5 : decode cX5_checkPerson 5 = .ok (.bipush 20, 2) := by decide +kernel
theorem dX5_checkPerson_7 : decode cX5_checkPerson 7 = .ok (.if_icmp .lt 13, 3) := by decide +kernel
theorem dX5_checkPerson_10 : decode cX5_checkPerson 10 = .ok (.new 161, 3) := by decide +kernel
theorem dX5_checkPerson_13 : decode cX5_checkPerson 13 = .ok (.dup, 1) := by decide +kernel
theorem dX5_checkPerson_14 : decode cX5_checkPerson 14 = .ok (.ldc 227, 2) := by decide +kernel
theorem dX5_checkPerson_16 : decode cX5_checkPerson 16 = .ok (.invokespecial 165, 3) := by decide +kernel
theorem dX5_checkPerson_19 : decode cX5_checkPerson 19 = .ok (.athrow, 1) := by decide +kernel
theorem dX5_checkPerson_20 : decode cX5_checkPerson 20 = .ok (.return_, 1) := by decide +kernel
theorem dX5_checkTime_0 : decode cX5_checkTime 0 = .ok (.iload_n 0, 1) := by decide +kernel
theorem dX5_checkTime_1 : decode cX5_checkTime 1 = .ok (.ifCond .lt 9, 3) := by decide +kernel
theorem dX5_checkTime_4 : decode cX5_checkTime 4 = .ok (.iload_n 0, 1) := by decide +kernel
theorem dX5_checkTime_5 : decode cX5_checkTime 5 = .ok (.ldc 229, 2) := by decide +kernel
theorem dX5_checkTime_7 : decode cX5_checkTime 7 = .ok (.if_icmp .le 13, 3) := by decide +kernel
theorem dX5_checkTime_10 : decode cX5_checkTime 10 = .ok (.new 63, 3) := by decide +kernel
theorem dX5_checkTime_13 : decode cX5_checkTime 13 = .ok (.dup, 1) := by decide +kernel
theorem dX5_checkTime_14 : decode cX5_checkTime 14 = .ok (.ldc 230, 2) := by decide +kernel
theorem dX5_checkTime_16 : decode cX5_checkTime 16 = .ok (.invokespecial 67, 3) := by decide +kernel
theorem dX5_checkTime_19 : decode cX5_checkTime 19 = .ok (.athrow, 1) := by decide +kernel
theorem dX5_checkTime_20 : decode cX5_checkTime 20 = .ok (.return_, 1) := by decide +kernel
theorem dX5_checkPlace_0 : decode cX5_checkPlace 0 = .ok (.iload_n 0, 1) := by decide +kernel
theorem dX5_checkPlace_1 : decode cX5_checkPlace 1 = .ok (.ifCond .ge 13, 3) := by decide +kernel
theorem dX5_checkPlace_4 : decode cX5_checkPlace 4 = .ok (.new 63, 3) := by decide +kernel
theorem dX5_checkPlace_7 : decode cX5_checkPlace 7 = .ok (.dup, 1) := by decide +kernel
theorem dX5_checkPlace_8 : decode cX5_checkPlace 8 = .ok (.ldc 232, 2) := by decide +kernel
theorem dX5_checkPlace_10 : decode cX5_checkPlace 10 = .ok (.invokespecial 67, 3) := by decide +kernel
theorem dX5_checkPlace_13 : decode cX5_checkPlace 13 = .ok (.athrow, 1) := by decide +kernel
theorem dX5_checkPlace_14 : decode cX5_checkPlace 14 = .ok (.return_, 1) := by decide +kernel
theorem dX5_checkSlot_0 : decode cX5_checkSlot 0 = .ok (.iload_n 1, 1) := by decide +kernel
theorem dX5_checkSlot_1 : decode cX5_checkSlot 1 = .ok (.ifCond .lt 14, 3) := by decide +kernel
theorem dX5_checkSlot_4 : decode cX5_checkSlot 4 = .ok (.iload_n 1, 1) := by decide +kernel
theorem dX5_checkSlot_5 : decode cX5_checkSlot 5 = .ok (.aload_n 0, 1) := by decide +kernel
theorem dX5_checkSlot_6 : decode cX5_checkSlot 6 = .ok (.getfield 10, 3) := by decide +kernel
theorem dX5_checkSlot_9 : decode cX5_checkSlot 9 = .ok (.getfield 70, 3) := by decide +kernel
theorem dX5_checkSlot_12 : decode cX5_checkSlot 12 = .ok (.if_icmp .lt 13, 3) := by decide +kernel
theorem dX5_checkSlot_15 : decode cX5_checkSlot 15 = .ok (.new 161, 3) := by decide +kernel
theorem dX5_checkSlot_18 : decode cX5_checkSlot 18 = .ok (.dup, 1) := by decide +kernel
theorem dX5_checkSlot_19 : decode cX5_checkSlot 19 = .ok (.ldc 234, 2) := by decide +kernel
theorem dX5_checkSlot_21 : decode cX5_checkSlot 21 = .ok (.invokespecial 165, 3) := by decide +kernel
theorem dX5_checkSlot_24 : decode cX5_checkSlot 24 = .ok (.athrow, 1) := by decide +kernel
theorem dX5_checkSlot_25 : decode cX5_checkSlot 25 = .ok (.return_, 1) := by decide +kernel
theorem dX5_checkThere_0 : decode cX5_checkThere 0 = .ok (.aload_n 0, 1) := by decide +kernel
theorem dX5_checkThere_1 : decode cX5_checkThere 1 = .ok (.getfield 10, 3) := by decide +kernel
theorem dX5_checkThere_4 : decode cX5_checkThere 4 = .ok (.getfield 149, 3) := by decide +kernel
theorem dX5_checkThere_7 : decode cX5_checkThere 7 = .ok (.iload_n 1, 1) := by decide +kernel
theorem dX5_checkThere_8 : decode cX5_checkThere 8 = .ok (.baload, 1) := by decide +kernel
theorem dX5_checkThere_9 : decode cX5_checkThere 9 = .ok (.ifCond .ne 13, 3) := by decide +kernel
theorem dX5_checkThere_12 : decode cX5_checkThere 12 = .ok (.new 139, 3) := by decide +kernel
theorem dX5_checkThere_15 : decode cX5_checkThere 15 = .ok (.dup, 1) := by decide +kernel
theorem dX5_checkThere_16 : decode cX5_checkThere 16 = .ok (.ldc 236, 2) := by decide +kernel
theorem dX5_checkThere_18 : decode cX5_checkThere 18 = .ok (.invokespecial 143, 3) := by decide +kernel
theorem dX5_checkThere_21 : decode cX5_checkThere 21 = .ok (.athrow, 1) := by decide +kernel
theorem dX5_checkThere_22 : decode cX5_checkThere 22 = .ok (.return_, 1) := by decide +kernel
theorem dX0_init_0 : decode cX0_init 0 = .ok (.aload_n 0, 1) := by decide +kernel
theorem dX0_init_1 : decode cX0_init 1 = .ok (.invokespecial 3, 3) := by decide +kernel
theorem dX0_init_4 : decode cX0_init 4 = .ok (.aload_n 0, 1) := by decide +kernel
theorem dX0_init_5 : decode cX0_init 5 = .ok (.sipush 200, 3) := by decide +kernel
theorem dX0_init_8 : decode cX0_init 8 = .ok (.newarray .int, 2) := by decide +kernel
theorem dX0_init_10 : decode cX0_init 10 = .ok (.putfield 9, 3) := by decide +kernel
theorem dX0_init_13 : decode cX0_init 13 = .ok (.aload_n 0, 1) := by decide +kernel
theorem dX0_init_14 : decode cX0_init 14 = .ok (.sipush 200, 3) := by decide +kernel
theorem dX0_init_17 : decode cX0_init 17 = .ok (.newarray .int, 2) := by decide +kernel
theorem dX0_init_19 : decode cX0_init 19 = .ok (.putfield 15, 3) := by decide +kernel
theorem dX0_init_22 : decode cX0_init 22 = .ok (.aload_n 0, 1) := by decide +kernel
theorem dX0_init_23 : decode cX0_init 23 = .ok (.sipush 200, 3) := by decide +kernel
theorem dX0_init_26 : decode cX0_init 26 = .ok (.newarray .int, 2) := by decide +kernel
theorem dX0_init_28 : decode cX0_init 28 = .ok (.putfield 18, 3) := by decide +kernel
theorem dX0_init_31 : decode cX0_init 31 = .ok (.return_, 1) := by decide +kernel
theorem dX0_add_0 : decode cX0_add 0 = .ok (.aload_n 0, 1) := by decide +kernel
theorem dX0_add_1 : decode cX0_add 1 = .ok (.getfield 21, 3) := by decide +kernel
theorem dX0_add_4 : decode cX0_add 4 = .ok (.istore 4, 2) := by decide +kernel
theorem dX0_add_6 : decode cX0_add 6 = .ok (.aload_n 0, 1) := by decide +kernel
theorem dX0_add_7 : decode cX0_add 7 = .ok (.getfield 9, 3) := by decide +kernel
theorem dX0_add_10 : decode cX0_add 10 = .ok (.iload 4, 2) := by decide +kernel
theorem dX0_add_12 : decode cX0_add 12 = .ok (.iload_n 1, 1) := by decide +kernel
theorem dX0_add_13 : decode cX0_add 13 = .ok (.iastore, 1) := by decide +kernel
theorem dX0_add_14 : decode cX0_add 14 = .ok (.aload_n 0, 1) := by decide +kernel
theorem dX0_add_15 : decode cX0_add 15 = .ok (.getfield 15, 3) := by decide +kernel
theorem dX0_add_18 : decode cX0_add 18 = .ok (.iload 4, 2) := by decide +kernel
theorem dX0_add_20 : decode cX0_add 20 = .ok (.iload_n 2, 1) := by decide +kernel
theorem dX0_add_21 : decode cX0_add 21 = .ok (.iastore, 1) := by decide +kernel
theorem dX0_add_22 : decode cX0_add 22 = .ok (.aload_n 0, 1) := by decide +kernel
theorem dX0_add_23 : decode cX0_add 23 = .ok (.getfield 18, 3) := by decide +kernel
theorem dX0_add_26 : decode cX0_add 26 = .ok (.iload 4, 2) := by decide +kernel
theorem dX0_add_28 : decode cX0_add 28 = .ok (.iload_n 3, 1) := by decide +kernel
theorem dX0_add_29 : decode cX0_add 29 = .ok (.iastore, 1) := by decide +kernel
theorem dX0_add_30 : decode cX0_add 30 = .ok (.aload_n 0, 1) := by decide +kernel
theorem dX0_add_31 : decode cX0_add 31 = .ok (.dup, 1) := by decide +kernel
theorem dX0_add_32 : decode cX0_add 32 = .ok (.getfield 21, 3) := by decide +kernel
theorem dX0_add_35 : decode cX0_add 35 = .ok (.iconst 1, 1) := by decide +kernel
theorem dX0_add_36 : decode cX0_add 36 = .ok (.iadd, 1) := by decide +kernel
theorem dX0_add_37 : decode cX0_add 37 = .ok (.putfield 21, 3) := by decide +kernel
theorem dX0_add_40 : decode cX0_add 40 = .ok (.iload 4, 2) := by decide +kernel
theorem dX0_add_42 : decode cX0_add 42 = .ok (.ireturn, 1) := by decide +kernel
theorem dX1_init_0 : decode cX1_init 0 = .ok (.aload_n 0, 1) := by decide +kernel
theorem dX1_init_1 : decode cX1_init 1 = .ok (.invokespecial 3, 3) := by decide +kernel
theorem dX1_init_4 : decode cX1_init 4 = .ok (.aload_n 0, 1) := by decide +kernel
theorem dX1_init_5 : decode cX1_init 5 = .ok (.sipush 200, 3) := by decide +kernel
theorem dX1_init_8 : decode cX1_init 8 = .ok (.newarray .int, 2) := by decide +kernel
theorem dX1_init_10 : decode cX1_init 10 = .ok (.putfield 9, 3) := by decide +kernel
theorem dX1_init_13 : decode cX1_init 13 = .ok (.aload_n 0, 1) := by decide +kernel
theorem dX1_init_14 : decode cX1_init 14 = .ok (.aload_n 1, 1) := by decide +kernel
theorem dX1_init_15 : decode cX1_init 15 = .ok (.putfield 15, 3) := by decide +kernel
theorem dX1_init_18 : decode cX1_init 18 = .ok (.aload_n 0, 1) := by decide +kernel
theorem dX1_init_19 : decode cX1_init 19 = .ok (.aload_n 2, 1) := by decide +kernel
theorem dX1_init_20 : decode cX1_init 20 = .ok (.putfield 19, 3) := by decide +kernel
theorem dX1_init_23 : decode cX1_init 23 = .ok (.return_, 1) := by decide +kernel
theorem dX1_insert_0 : decode cX1_insert 0 = .ok (.aload_n 0, 1) := by decide +kernel
theorem dX1_insert_1 : decode cX1_insert 1 = .ok (.getfield 9, 3) := by decide +kernel
theorem dX1_insert_4 : decode cX1_insert 4 = .ok (.aload_n 0, 1) := by decide +kernel
theorem dX1_insert_5 : decode cX1_insert 5 = .ok (.getfield 23, 3) := by decide +kernel
theorem dX1_insert_8 : decode cX1_insert 8 = .ok (.iload_n 1, 1) := by decide +kernel
theorem dX1_insert_9 : decode cX1_insert 9 = .ok (.iastore, 1) := by decide +kernel
theorem dX1_insert_10 : decode cX1_insert 10 = .ok (.aload_n 0, 1) := by decide +kernel
theorem dX1_insert_11 : decode cX1_insert 11 = .ok (.aload_n 0, 1) := by decide +kernel
theorem dX1_insert_12 : decode cX1_insert 12 = .ok (.getfield 23, 3) := by decide +kernel
theorem dX1_insert_15 : decode cX1_insert 15 = .ok (.invokevirtual 27, 3) := by decide +kernel
theorem dX1_insert_18 : decode cX1_insert 18 = .ok (.aload_n 0, 1) := by decide +kernel
theorem dX1_insert_19 : decode cX1_insert 19 = .ok (.dup, 1) := by decide +kernel
theorem dX1_insert_20 : decode cX1_insert 20 = .ok (.getfield 23, 3) := by decide +kernel
theorem dX1_insert_23 : decode cX1_insert 23 = .ok (.iconst 1, 1) := by decide +kernel
theorem dX1_insert_24 : decode cX1_insert 24 = .ok (.iadd, 1) := by decide +kernel
theorem dX1_insert_25 : decode cX1_insert 25 = .ok (.putfield 23, 3) := by decide +kernel
theorem dX1_insert_28 : decode cX1_insert 28 = .ok (.return_, 1) := by decide +kernel
theorem dX1_remove_0 : decode cX1_remove 0 = .ok (.iconst 0, 1) := by decide +kernel
theorem dX1_remove_1 : decode cX1_remove 1 = .ok (.istore_n 2, 1) := by decide +kernel
theorem dX1_remove_2 : decode cX1_remove 2 = .ok (.iconst 0, 1) := by decide +kernel
theorem dX1_remove_3 : decode cX1_remove 3 = .ok (.istore_n 3, 1) := by decide +kernel
theorem dX1_remove_4 : decode cX1_remove 4 = .ok (.iload_n 3, 1) := by decide +kernel
theorem dX1_remove_5 : decode cX1_remove 5 = .ok (.aload_n 0, 1) := by decide +kernel
theorem dX1_remove_6 : decode cX1_remove 6 = .ok (.getfield 23, 3) := by decide +kernel
theorem dX1_remove_9 : decode cX1_remove 9 = .ok (.if_icmp .ge 34, 3) := by decide +kernel
theorem dX1_remove_12 : decode cX1_remove 12 = .ok (.aload_n 0, 1) := by decide +kernel
theorem dX1_remove_13 : decode cX1_remove 13 = .ok (.getfield 9, 3) := by decide +kernel
theorem dX1_remove_16 : decode cX1_remove 16 = .ok (.iload_n 3, 1) := by decide +kernel
theorem dX1_remove_17 : decode cX1_remove 17 = .ok (.iaload, 1) := by decide +kernel
theorem dX1_remove_18 : decode cX1_remove 18 = .ok (.iload_n 1, 1) := by decide +kernel
theorem dX1_remove_19 : decode cX1_remove 19 = .ok (.if_icmp .eq 18, 3) := by decide +kernel
theorem dX1_remove_22 : decode cX1_remove 22 = .ok (.aload_n 0, 1) := by decide +kernel
theorem dX1_remove_23 : decode cX1_remove 23 = .ok (.getfield 9, 3) := by decide +kernel
theorem dX1_remove_26 : decode cX1_remove 26 = .ok (.iload_n 2, 1) := by decide +kernel
theorem dX1_remove_27 : decode cX1_remove 27 = .ok (.aload_n 0, 1) := by decide +kernel
theorem dX1_remove_28 : decode cX1_remove 28 = .ok (.getfield 9, 3) := by decide +kernel
theorem dX1_remove_31 : decode cX1_remove 31 = .ok (.iload_n 3, 1) := by decide +kernel
theorem dX1_remove_32 : decode cX1_remove 32 = .ok (.iaload, 1) := by decide +kernel
theorem dX1_remove_33 : decode cX1_remove 33 = .ok (.iastore, 1) := by decide +kernel
theorem dX1_remove_34 : decode cX1_remove 34 = .ok (.iinc 2 1, 3) := by decide +kernel
theorem dX1_remove_37 : decode cX1_remove 37 = .ok (.iinc 3 1, 3) := by decide +kernel
theorem dX1_remove_40 : decode cX1_remove 40 = .ok (.goto (-36), 3) := by decide +kernel
theorem dX1_remove_43 : decode cX1_remove 43 = .ok (.aload_n 0, 1) := by decide +kernel
theorem dX1_remove_44 : decode cX1_remove 44 = .ok (.iload_n 2, 1) := by decide +kernel
theorem dX1_remove_45 : decode cX1_remove 45 = .ok (.putfield 23, 3) := by decide +kernel
theorem dX1_remove_48 : decode cX1_remove 48 = .ok (.return_, 1) := by decide +kernel
theorem dX1_sortAgain_0 : decode cX1_sortAgain 0 = .ok (.iconst 1, 1) := by decide +kernel
theorem dX1_sortAgain_1 : decode cX1_sortAgain 1 = .ok (.istore_n 1, 1) := by decide +kernel
theorem dX1_sortAgain_2 : decode cX1_sortAgain 2 = .ok (.iload_n 1, 1) := by decide +kernel
theorem dX1_sortAgain_3 : decode cX1_sortAgain 3 = .ok (.aload_n 0, 1) := by decide +kernel
theorem dX1_sortAgain_4 : decode cX1_sortAgain 4 = .ok (.getfield 23, 3) := by decide +kernel
theorem dX1_sortAgain_7 : decode cX1_sortAgain 7 = .ok (.if_icmp .ge 14, 3) := by decide +kernel
theorem dX1_sortAgain_10 : decode cX1_sortAgain 10 = .ok (.aload_n 0, 1) := by decide +kernel
theorem dX1_sortAgain_11 : decode cX1_sortAgain 11 = .ok (.iload_n 1, 1) := by decide +kernel
theorem dX1_sortAgain_12 : decode cX1_sortAgain 12 = .ok (.invokevirtual 27, 3) := by decide +kernel
theorem dX1_sortAgain_15 : decode cX1_sortAgain 15 = .ok (.iinc 1 1, 3) := by decide +kernel
theorem dX1_sortAgain_18 : decode cX1_sortAgain 18 = .ok (.goto (-16), 3) := by decide +kernel
theorem dX1_sortAgain_21 : decode cX1_sortAgain 21 = .ok (.return_, 1) := by decide +kernel
theorem dX1_beginOf_0 : decode cX1_beginOf 0 = .ok (.aload_n 0, 1) := by decide +kernel
theorem dX1_beginOf_1 : decode cX1_beginOf 1 = .ok (.getfield 15, 3) := by decide +kernel
theorem dX1_beginOf_4 : decode cX1_beginOf 4 = .ok (.getfield 31, 3) := by decide +kernel
theorem dX1_beginOf_7 : decode cX1_beginOf 7 = .ok (.iload_n 1, 1) := by decide +kernel
theorem dX1_beginOf_8 : decode cX1_beginOf 8 = .ok (.iaload, 1) := by decide +kernel
theorem dX1_beginOf_9 : decode cX1_beginOf 9 = .ok (.aload_n 0, 1) := by decide +kernel
theorem dX1_beginOf_10 : decode cX1_beginOf 10 = .ok (.getfield 19, 3) := by decide +kernel
theorem dX1_beginOf_13 : decode cX1_beginOf 13 = .ok (.aload_n 0, 1) := by decide +kernel
theorem dX1_beginOf_14 : decode cX1_beginOf 14 = .ok (.getfield 15, 3) := by decide +kernel
theorem dX1_beginOf_17 : decode cX1_beginOf 17 = .ok (.getfield 36, 3) := by decide +kernel
theorem dX1_beginOf_20 : decode cX1_beginOf 20 = .ok (.iload_n 1, 1) := by decide +kernel
theorem dX1_beginOf_21 : decode cX1_beginOf 21 = .ok (.iaload, 1) := by decide +kernel
theorem dX1_beginOf_22 : decode cX1_beginOf 22 = .ok (.invokevirtual 39, 3) := by decide +kernel
theorem dX1_beginOf_25 : decode cX1_beginOf 25 = .ok (.iadd, 1) := by decide +kernel
theorem dX1_beginOf_26 : decode cX1_beginOf 26 = .ok (.ireturn, 1) := by decide +kernel
theorem dX1_bytesWithin_0 : decode cX1_bytesWithin 0 = .ok (.iconst 0, 1) := by decide +kernel
theorem dX1_bytesWithin_1 : decode cX1_bytesWithin 1 = .ok (.aload_n 0, 1) := by decide +kernel
theorem dX1_bytesWithin_2 : decode cX1_bytesWithin 2 = .ok (.iload_n 1, 1) := by decide +kernel
theorem dX1_bytesWithin_3 : decode cX1_bytesWithin 3 = .ok (.iload_n 3, 1) := by decide +kernel
theorem dX1_bytesWithin_4 : decode cX1_bytesWithin 4 = .ok (.invokevirtual 45, 3) := by decide +kernel
theorem dX1_bytesWithin_7 : decode cX1_bytesWithin 7 = .ok (.aload_n 0, 1) := by decide +kernel
theorem dX1_bytesWithin_8 : decode cX1_bytesWithin 8 = .ok (.iload_n 1, 1) := by decide +kernel
theorem dX1_bytesWithin_9 : decode cX1_bytesWithin 9 = .ok (.iload_n 2, 1) := by decide +kernel
theorem dX1_bytesWithin_10 : decode cX1_bytesWithin 10 = .ok (.invokevirtual 45, 3) := by decide +kernel
theorem dX1_bytesWithin_13 : decode cX1_bytesWithin 13 = .ok (.isub, 1) := by decide +kernel
theorem dX1_bytesWithin_14 : decode cX1_bytesWithin 14 = .ok (.invokestatic 49, 3) := by decide +kernel
theorem dX1_bytesWithin_17 : decode cX1_bytesWithin 17 = .ok (.ireturn, 1) := by decide +kernel
theorem dX1_sumWithin_0 : decode cX1_sumWithin 0 = .ok (.aload_n 0, 1) := by decide +kernel
theorem dX1_sumWithin_1 : decode cX1_sumWithin 1 = .ok (.getfield 15, 3) := by decide +kernel
theorem dX1_sumWithin_4 : decode cX1_sumWithin 4 = .ok (.iload_n 1, 1) := by decide +kernel
theorem dX1_sumWithin_5 : decode cX1_sumWithin 5 = .ok (.iload_n 2, 1) := by decide +kernel
theorem dX1_sumWithin_6 : decode cX1_sumWithin 6 = .ok (.aload_n 0, 1) := by decide +kernel
theorem dX1_sumWithin_7 : decode cX1_sumWithin 7 = .ok (.iload_n 2, 1) := by decide +kernel
theorem dX1_sumWithin_8 : decode cX1_sumWithin 8 = .ok (.iload_n 3, 1) := by decide +kernel
theorem dX1_sumWithin_9 : decode cX1_sumWithin 9 = .ok (.invokevirtual 45, 3) := by decide +kernel
theorem dX1_sumWithin_12 : decode cX1_sumWithin 12 = .ok (.aload_n 0, 1) := by decide +kernel
theorem dX1_sumWithin_13 : decode cX1_sumWithin 13 = .ok (.iload_n 2, 1) := by decide +kernel
theorem dX1_sumWithin_14 : decode cX1_sumWithin 14 = .ok (.iload 4, 2) := by decide +kernel
theorem dX1_sumWithin_16 : decode cX1_sumWithin 16 = .ok (.invokevirtual 45, 3) := by decide +kernel
theorem dX1_sumWithin_19 : decode cX1_sumWithin 19 = .ok (.invokevirtual 54, 3) := by decide +kernel
theorem dX1_sumWithin_22 : decode cX1_sumWithin 22 = .ok (.ireturn, 1) := by decide +kernel
theorem dX1_bytesBefore_0 : decode cX1_bytesBefore 0 = .ok (.aload_n 0, 1) := by decide +kernel
theorem dX1_bytesBefore_1 : decode cX1_bytesBefore 1 = .ok (.iload_n 1, 1) := by decide +kernel
theorem dX1_bytesBefore_2 : decode cX1_bytesBefore 2 = .ok (.invokevirtual 58, 3) := by decide +kernel
theorem dX1_bytesBefore_5 : decode cX1_bytesBefore 5 = .ok (.istore_n 3, 1) := by decide +kernel
theorem dX1_bytesBefore_6 : decode cX1_bytesBefore 6 = .ok (.iload_n 3, 1) := by decide +kernel
theorem dX1_bytesBefore_7 : decode cX1_bytesBefore 7 = .ok (.aload_n 0, 1) := by decide +kernel
theorem dX1_bytesBefore_8 : decode cX1_bytesBefore 8 = .ok (.getfield 15, 3) := by decide +kernel
theorem dX1_bytesBefore_11 : decode cX1_bytesBefore 11 = .ok (.getfield 61, 3) := by decide +kernel
theorem dX1_bytesBefore_14 : decode cX1_bytesBefore 14 = .ok (.iload_n 1, 1) := by decide +kernel
theorem dX1_bytesBefore_15 : decode cX1_bytesBefore 15 = .ok (.iaload, 1) := by decide +kernel
theorem dX1_bytesBefore_16 : decode cX1_bytesBefore 16 = .ok (.iadd, 1) := by decide +kernel
theorem dX1_bytesBefore_17 : decode cX1_bytesBefore 17 = .ok (.istore 4, 2) := by decide +kernel
theorem dX1_bytesBefore_19 : decode cX1_bytesBefore 19 = .ok (.iload_n 3, 1) := by decide +kernel
theorem dX1_bytesBefore_20 : decode cX1_bytesBefore 20 = .ok (.iload_n 2, 1) := by decide +kernel
theorem dX1_bytesBefore_21 : decode cX1_bytesBefore 21 = .ok (.iload 4, 2) := by decide +kernel
theorem dX1_bytesBefore_23 : decode cX1_bytesBefore 23 = .ok (.invokestatic 63, 3) := by decide +kernel
theorem dX1_bytesBefore_26 : decode cX1_bytesBefore 26 = .ok (.invokestatic 49, 3) := by decide +kernel
theorem dX1_bytesBefore_29 : decode cX1_bytesBefore 29 = .ok (.iload_n 3, 1) := by decide +kernel
theorem dX1_bytesBefore_30 : decode cX1_bytesBefore 30 = .ok (.isub, 1) := by decide +kernel
theorem dX1_bytesBefore_31 : decode cX1_bytesBefore 31 = .ok (.ireturn, 1) := by decide +kernel
theorem dX1_settle_0 : decode cX1_settle 0 = .ok (.aload_n 0, 1) := by decide +kernel
theorem dX1_settle_1 : decode cX1_settle 1 = .ok (.getfield 9, 3) := by decide +kernel
theorem dX1_settle_4 : decode cX1_settle 4 = .ok (.iload_n 1, 1) := by decide +kernel
theorem dX1_settle_5 : decode cX1_settle 5 = .ok (.iaload, 1) := by decide +kernel
theorem dX1_settle_6 : decode cX1_settle 6 = .ok (.istore_n 2, 1) := by decide +kernel
theorem dX1_settle_7 : decode cX1_settle 7 = .ok (.iload_n 1, 1) := by decide +kernel
theorem dX1_settle_8 : decode cX1_settle 8 = .ok (.istore_n 3, 1) := by decide +kernel
theorem dX1_settle_9 : decode cX1_settle 9 = .ok (.iload_n 3, 1) := by decide +kernel
theorem dX1_settle_10 : decode cX1_settle 10 = .ok (.ifCond .le 39, 3) := by decide +kernel
theorem dX1_settle_13 : decode cX1_settle 13 = .ok (.aload_n 0, 1) := by decide +kernel
theorem dX1_settle_14 : decode cX1_settle 14 = .ok (.iload_n 2, 1) := by decide +kernel
theorem dX1_settle_15 : decode cX1_settle 15 = .ok (.aload_n 0, 1) := by decide +kernel
theorem dX1_settle_16 : decode cX1_settle 16 = .ok (.getfield 9, 3) := by decide +kernel
theorem dX1_settle_19 : decode cX1_settle 19 = .ok (.iload_n 3, 1) := by decide +kernel
theorem dX1_settle_20 : decode cX1_settle 20 = .ok (.iconst 1, 1) := by decide +kernel
theorem dX1_settle_21 : decode cX1_settle 21 = .ok (.isub, 1) := by decide +kernel
theorem dX1_settle_22 : decode cX1_settle 22 = .ok (.iaload, 1) := by decide +kernel
theorem dX1_settle_23 : decode cX1_settle 23 = .ok (.invokevirtual 66, 3) := by decide +kernel
theorem dX1_settle_26 : decode cX1_settle 26 = .ok (.ifCond .eq 23, 3) := by decide +kernel
theorem dX1_settle_29 : decode cX1_settle 29 = .ok (.aload_n 0, 1) := by decide +kernel
theorem dX1_settle_30 : decode cX1_settle 30 = .ok (.getfield 9, 3) := by decide +kernel
theorem dX1_settle_33 : decode cX1_settle 33 = .ok (.iload_n 3, 1) := by decide +kernel
theorem dX1_settle_34 : decode cX1_settle 34 = .ok (.aload_n 0, 1) := by decide +kernel
theorem dX1_settle_35 : decode cX1_settle 35 = .ok (.getfield 9, 3) := by decide +kernel
theorem dX1_settle_38 : decode cX1_settle 38 = .ok (.iload_n 3, 1) := by decide +kernel
theorem dX1_settle_39 : decode cX1_settle 39 = .ok (.iconst 1, 1) := by decide +kernel
theorem dX1_settle_40 : decode cX1_settle 40 = .ok (.isub, 1) := by decide +kernel
theorem dX1_settle_41 : decode cX1_settle 41 = .ok (.iaload, 1) := by decide +kernel
theorem dX1_settle_42 : decode cX1_settle 42 = .ok (.iastore, 1) := by decide +kernel
theorem dX1_settle_43 : decode cX1_settle 43 = .ok (.iinc 3 (-1), 3) := by decide +kernel
theorem dX1_settle_46 : decode cX1_settle 46 = .ok (.goto (-37), 3) := by decide +kernel
theorem dX1_settle_49 : decode cX1_settle 49 = .ok (.aload_n 0, 1) := by decide +kernel
theorem dX1_settle_50 : decode cX1_settle 50 = .ok (.getfield 9, 3) := by decide +kernel
theorem dX1_settle_53 : decode cX1_settle 53 = .ok (.iload_n 3, 1) := by decide +kernel
theorem dX1_settle_54 : decode cX1_settle 54 = .ok (.iload_n 2, 1) := by decide +kernel
theorem dX1_settle_55 : decode cX1_settle 55 = .ok (.iastore, 1) := by decide +kernel
theorem dX1_settle_56 : decode cX1_settle 56 = .ok (.return_, 1) := by decide +kernel
theorem dX1_isBefore_0 : decode cX1_isBefore 0 = .ok (.aload_n 0, 1) := by decide +kernel
theorem dX1_isBefore_1 : decode cX1_isBefore 1 = .ok (.iload_n 1, 1) := by decide +kernel
theorem dX1_isBefore_2 : decode cX1_isBefore 2 = .ok (.invokevirtual 58, 3) := by decide +kernel
theorem dX1_isBefore_5 : decode cX1_isBefore 5 = .ok (.istore_n 3, 1) := by decide +kernel
theorem dX1_isBefore_6 : decode cX1_isBefore 6 = .ok (.aload_n 0, 1) := by decide +kernel
theorem dX1_isBefore_7 : decode cX1_isBefore 7 = .ok (.iload_n 2, 1) := by decide +kernel
theorem dX1_isBefore_8 : decode cX1_isBefore 8 = .ok (.invokevirtual 58, 3) := by decide +kernel
theorem dX1_isBefore_11 : decode cX1_isBefore 11 = .ok (.istore 4, 2) := by decide +kernel
theorem dX1_isBefore_13 : decode cX1_isBefore 13 = .ok (.iload_n 3, 1) := by decide +kernel
theorem dX1_isBefore_14 : decode cX1_isBefore 14 = .ok (.iload 4, 2) := by decide +kernel
theorem dX1_isBefore_16 : decode cX1_isBefore 16 = .ok (.if_icmp .eq 15, 3) := by decide +kernel
theorem dX1_isBefore_19 : decode cX1_isBefore 19 = .ok (.iload_n 3, 1) := by decide +kernel
theorem dX1_isBefore_20 : decode cX1_isBefore 20 = .ok (.iload 4, 2) := by decide +kernel
theorem dX1_isBefore_22 : decode cX1_isBefore 22 = .ok (.if_icmp .ge 7, 3) := by decide +kernel
theorem dX1_isBefore_25 : decode cX1_isBefore 25 = .ok (.iconst 1, 1) := by decide +kernel
theorem dX1_isBefore_26 : decode cX1_isBefore 26 = .ok (.goto 4, 3) := by decide +kernel
theorem dX1_isBefore_29 : decode cX1_isBefore 29 = .ok (.iconst 0, 1) := by decide +kernel
theorem dX1_isBefore_30 : decode cX1_isBefore 30 = .ok (.ireturn, 1) := by decide +kernel
theorem dX1_isBefore_31 : decode cX1_isBefore 31 = .ok (.aload_n 0, 1) := by decide +kernel
theorem dX1_isBefore_32 : decode cX1_isBefore 32 = .ok (.getfield 15, 3) := by decide +kernel
theorem dX1_isBefore_35 : decode cX1_isBefore 35 = .ok (.getfield 36, 3) := by decide +kernel
theorem dX1_isBefore_38 : decode cX1_isBefore 38 = .ok (.iload_n 1, 1) := by decide +kernel
theorem dX1_isBefore_39 : decode cX1_isBefore 39 = .ok (.iaload, 1) := by decide +kernel
theorem dX1_isBefore_40 : decode cX1_isBefore 40 = .ok (.aload_n 0, 1) := by decide +kernel
theorem dX1_isBefore_41 : decode cX1_isBefore 41 = .ok (.getfield 15, 3) := by decide +kernel
theorem dX1_isBefore_44 : decode cX1_isBefore 44 = .ok (.getfield 36, 3) := by decide +kernel
theorem dX1_isBefore_47 : decode cX1_isBefore 47 = .ok (.iload_n 2, 1) := by decide +kernel
theorem dX1_isBefore_48 : decode cX1_isBefore 48 = .ok (.iaload, 1) := by decide +kernel
theorem dX1_isBefore_49 : decode cX1_isBefore 49 = .ok (.if_icmp .eq 30, 3) := by decide +kernel
theorem dX1_isBefore_52 : decode cX1_isBefore 52 = .ok (.aload_n 0, 1) := by decide +kernel
theorem dX1_isBefore_53 : decode cX1_isBefore 53 = .ok (.getfield 15, 3) := by decide +kernel
theorem dX1_isBefore_56 : decode cX1_isBefore 56 = .ok (.getfield 36, 3) := by decide +kernel
theorem dX1_isBefore_59 : decode cX1_isBefore 59 = .ok (.iload_n 1, 1) := by decide +kernel
theorem dX1_isBefore_60 : decode cX1_isBefore 60 = .ok (.iaload, 1) := by decide +kernel
theorem dX1_isBefore_61 : decode cX1_isBefore 61 = .ok (.aload_n 0, 1) := by decide +kernel
theorem dX1_isBefore_62 : decode cX1_isBefore 62 = .ok (.getfield 15, 3) := by decide +kernel
theorem dX1_isBefore_65 : decode cX1_isBefore 65 = .ok (.getfield 36, 3) := by decide +kernel
theorem dX1_isBefore_68 : decode cX1_isBefore 68 = .ok (.iload_n 2, 1) := by decide +kernel
theorem dX1_isBefore_69 : decode cX1_isBefore 69 = .ok (.iaload, 1) := by decide +kernel
theorem dX1_isBefore_70 : decode cX1_isBefore 70 = .ok (.if_icmp .ge 7, 3) := by decide +kernel
theorem dX1_isBefore_73 : decode cX1_isBefore 73 = .ok (.iconst 1, 1) := by decide +kernel
theorem dX1_isBefore_74 : decode cX1_isBefore 74 = .ok (.goto 4, 3) := by decide +kernel
theorem dX1_isBefore_77 : decode cX1_isBefore 77 = .ok (.iconst 0, 1) := by decide +kernel
theorem dX1_isBefore_78 : decode cX1_isBefore 78 = .ok (.ireturn, 1) := by decide +kernel
theorem dX1_isBefore_79 : decode cX1_isBefore 79 = .ok (.iload_n 1, 1) := by decide +kernel
theorem dX1_isBefore_80 : decode cX1_isBefore 80 = .ok (.iload_n 2, 1) := by decide +kernel
theorem dX1_isBefore_81 : decode cX1_isBefore 81 = .ok (.if_icmp .ge 7, 3) := by decide +kernel
theorem dX1_isBefore_84 : decode cX1_isBefore 84 = .ok (.iconst 1, 1) := by decide +kernel
theorem dX1_isBefore_85 : decode cX1_isBefore 85 = .ok (.goto 4, 3) := by decide +kernel
theorem dX1_isBefore_88 : decode cX1_isBefore 88 = .ok (.iconst 0, 1) := by decide +kernel
theorem dX1_isBefore_89 : decode cX1_isBefore 89 = .ok (.ireturn, 1) := by decide +kernel
theorem dX2_init_0 : decode cX2_init 0 = .ok (.aload_n 0, 1) := by decide +kernel
theorem dX2_init_1 : decode cX2_init 1 = .ok (.invokespecial 3, 3) := by decide +kernel
theorem dX2_init_4 : decode cX2_init 4 = .ok (.aload_n 0, 1) := by decide +kernel
theorem dX2_init_5 : decode cX2_init 5 = .ok (.sipush 200, 3) := by decide +kernel
theorem dX2_init_8 : decode cX2_init 8 = .ok (.newarray .int, 2) := by decide +kernel
theorem dX2_init_10 : decode cX2_init 10 = .ok (.putfield 9, 3) := by decide +kernel
theorem dX2_init_13 : decode cX2_init 13 = .ok (.aload_n 0, 1) := by decide +kernel
theorem dX2_init_14 : decode cX2_init 14 = .ok (.sipush 200, 3) := by decide +kernel
theorem dX2_init_17 : decode cX2_init 17 = .ok (.newarray .int, 2) := by decide +kernel
theorem dX2_init_19 : decode cX2_init 19 = .ok (.putfield 15, 3) := by decide +kernel
theorem dX2_init_22 : decode cX2_init 22 = .ok (.aload_n 0, 1) := by decide +kernel
theorem dX2_init_23 : decode cX2_init 23 = .ok (.sipush 200, 3) := by decide +kernel
theorem dX2_init_26 : decode cX2_init 26 = .ok (.newarray .boolean, 2) := by decide +kernel
theorem dX2_init_28 : decode cX2_init 28 = .ok (.putfield 18, 3) := by decide +kernel
theorem dX2_init_31 : decode cX2_init 31 = .ok (.aload_n 0, 1) := by decide +kernel
theorem dX2_init_32 : decode cX2_init 32 = .ok (.sipush 1000, 3) := by decide +kernel
theorem dX2_init_35 : decode cX2_init 35 = .ok (.newarray .boolean, 2) := by decide +kernel
theorem dX2_init_37 : decode cX2_init 37 = .ok (.putfield 22, 3) := by decide +kernel
theorem dX2_init_40 : decode cX2_init 40 = .ok (.return_, 1) := by decide +kernel
theorem dX2_allow_0 : decode cX2_allow 0 = .ok (.aload_n 0, 1) := by decide +kernel
theorem dX2_allow_1 : decode cX2_allow 1 = .ok (.getfield 22, 3) := by decide +kernel
theorem dX2_allow_4 : decode cX2_allow 4 = .ok (.iload_n 1, 1) := by decide +kernel
theorem dX2_allow_5 : decode cX2_allow 5 = .ok (.bipush 50, 2) := by decide +kernel
theorem dX2_allow_7 : decode cX2_allow 7 = .ok (.imul, 1) := by decide +kernel
theorem dX2_allow_8 : decode cX2_allow 8 = .ok (.iload_n 2, 1) := by decide +kernel
theorem dX2_allow_9 : decode cX2_allow 9 = .ok (.iadd, 1) := by decide +kernel
theorem dX2_allow_10 : decode cX2_allow 10 = .ok (.iload_n 3, 1) := by decide +kernel
theorem dX2_allow_11 : decode cX2_allow 11 = .ok (.bastore, 1) := by decide +kernel
theorem dX2_allow_12 : decode cX2_allow 12 = .ok (.return_, 1) := by decide +kernel
theorem dX2_mayHear_0 : decode cX2_mayHear 0 = .ok (.aload_n 0, 1) := by decide +kernel
theorem dX2_mayHear_1 : decode cX2_mayHear 1 = .ok (.getfield 22, 3) := by decide +kernel
theorem dX2_mayHear_4 : decode cX2_mayHear 4 = .ok (.iload_n 1, 1) := by decide +kernel
theorem dX2_mayHear_5 : decode cX2_mayHear 5 = .ok (.bipush 50, 2) := by decide +kernel
theorem dX2_mayHear_7 : decode cX2_mayHear 7 = .ok (.imul, 1) := by decide +kernel
theorem dX2_mayHear_8 : decode cX2_mayHear 8 = .ok (.iload_n 2, 1) := by decide +kernel
theorem dX2_mayHear_9 : decode cX2_mayHear 9 = .ok (.iadd, 1) := by decide +kernel
theorem dX2_mayHear_10 : decode cX2_mayHear 10 = .ok (.baload, 1) := by decide +kernel
theorem dX2_mayHear_11 : decode cX2_mayHear 11 = .ok (.ireturn, 1) := by decide +kernel
theorem dX2_keepRow_0 : decode cX2_keepRow 0 = .ok (.aload_n 0, 1) := by decide +kernel
theorem dX2_keepRow_1 : decode cX2_keepRow 1 = .ok (.getfield 25, 3) := by decide +kernel
theorem dX2_keepRow_4 : decode cX2_keepRow 4 = .ok (.sipush 200, 3) := by decide +kernel
theorem dX2_keepRow_7 : decode cX2_keepRow 7 = .ok (.invokestatic 29, 3) := by decide +kernel
theorem dX2_keepRow_10 : decode cX2_keepRow 10 = .ok (.istore 4, 2) := by decide +kernel
theorem dX2_keepRow_12 : decode cX2_keepRow 12 = .ok (.aload_n 0, 1) := by decide +kernel
theorem dX2_keepRow_13 : decode cX2_keepRow 13 = .ok (.getfield 9, 3) := by decide +kernel
theorem dX2_keepRow_16 : decode cX2_keepRow 16 = .ok (.iload 4, 2) := by decide +kernel
theorem dX2_keepRow_18 : decode cX2_keepRow 18 = .ok (.iload_n 1, 1) := by decide +kernel
theorem dX2_keepRow_19 : decode cX2_keepRow 19 = .ok (.iastore, 1) := by decide +kernel
theorem dX2_keepRow_20 : decode cX2_keepRow 20 = .ok (.aload_n 0, 1) := by decide +kernel
theorem dX2_keepRow_21 : decode cX2_keepRow 21 = .ok (.getfield 15, 3) := by decide +kernel
theorem dX2_keepRow_24 : decode cX2_keepRow 24 = .ok (.iload 4, 2) := by decide +kernel
theorem dX2_keepRow_26 : decode cX2_keepRow 26 = .ok (.iload_n 2, 1) := by decide +kernel
theorem dX2_keepRow_27 : decode cX2_keepRow 27 = .ok (.iastore, 1) := by decide +kernel
theorem dX2_keepRow_28 : decode cX2_keepRow 28 = .ok (.aload_n 0, 1) := by decide +kernel
theorem dX2_keepRow_29 : decode cX2_keepRow 29 = .ok (.getfield 18, 3) := by decide +kernel
theorem dX2_keepRow_32 : decode cX2_keepRow 32 = .ok (.iload 4, 2) := by decide +kernel
theorem dX2_keepRow_34 : decode cX2_keepRow 34 = .ok (.iload_n 3, 1) := by decide +kernel
theorem dX2_keepRow_35 : decode cX2_keepRow 35 = .ok (.bastore, 1) := by decide +kernel
theorem dX2_keepRow_36 : decode cX2_keepRow 36 = .ok (.aload_n 0, 1) := by decide +kernel
theorem dX2_keepRow_37 : decode cX2_keepRow 37 = .ok (.dup, 1) := by decide +kernel
theorem dX2_keepRow_38 : decode cX2_keepRow 38 = .ok (.getfield 25, 3) := by decide +kernel
theorem dX2_keepRow_41 : decode cX2_keepRow 41 = .ok (.iconst 1, 1) := by decide +kernel
theorem dX2_keepRow_42 : decode cX2_keepRow 42 = .ok (.iadd, 1) := by decide +kernel
theorem dX2_keepRow_43 : decode cX2_keepRow 43 = .ok (.putfield 25, 3) := by decide +kernel
theorem dX2_keepRow_46 : decode cX2_keepRow 46 = .ok (.return_, 1) := by decide +kernel
theorem dX2_isKept_0 : decode cX2_isKept 0 = .ok (.iload_n 1, 1) := by decide +kernel
theorem dX2_isKept_1 : decode cX2_isKept 1 = .ok (.ifCond .lt 27, 3) := by decide +kernel
theorem dX2_isKept_4 : decode cX2_isKept 4 = .ok (.iload_n 1, 1) := by decide +kernel
theorem dX2_isKept_5 : decode cX2_isKept 5 = .ok (.aload_n 0, 1) := by decide +kernel
theorem dX2_isKept_6 : decode cX2_isKept 6 = .ok (.getfield 25, 3) := by decide +kernel
theorem dX2_isKept_9 : decode cX2_isKept 9 = .ok (.if_icmp .ge 19, 3) := by decide +kernel
theorem dX2_isKept_12 : decode cX2_isKept 12 = .ok (.iload_n 1, 1) := by decide +kernel
theorem dX2_isKept_13 : decode cX2_isKept 13 = .ok (.aload_n 0, 1) := by decide +kernel
theorem dX2_isKept_14 : decode cX2_isKept 14 = .ok (.getfield 25, 3) := by decide +kernel
theorem dX2_isKept_17 : decode cX2_isKept 17 = .ok (.sipush 200, 3) := by decide +kernel
theorem dX2_isKept_20 : decode cX2_isKept 20 = .ok (.isub, 1) := by decide +kernel
theorem dX2_isKept_21 : decode cX2_isKept 21 = .ok (.if_icmp .lt 7, 3) := by decide +kernel
theorem dX2_isKept_24 : decode cX2_isKept 24 = .ok (.iconst 1, 1) := by decide +kernel
theorem dX2_isKept_25 : decode cX2_isKept 25 = .ok (.goto 4, 3) := by decide +kernel
theorem dX2_isKept_28 : decode cX2_isKept 28 = .ok (.iconst 0, 1) := by decide +kernel
theorem dX2_isKept_29 : decode cX2_isKept 29 = .ok (.ireturn, 1) := by decide +kernel
theorem dX3_init_0 : decode cX3_init 0 = .ok (.aload_n 0, 1) := by decide +kernel
theorem dX3_init_1 : decode cX3_init 1 = .ok (.invokespecial 3, 3) := by decide +kernel
theorem dX3_init_4 : decode cX3_init 4 = .ok (.aload_n 0, 1) := by decide +kernel
theorem dX3_init_5 : decode cX3_init 5 = .ok (.bipush 60, 2) := by decide +kernel
theorem dX3_init_7 : decode cX3_init 7 = .ok (.newarray .int, 2) := by decide +kernel
theorem dX3_init_9 : decode cX3_init 9 = .ok (.putfield 9, 3) := by decide +kernel
theorem dX3_init_12 : decode cX3_init 12 = .ok (.aload_n 0, 1) := by decide +kernel
theorem dX3_init_13 : decode cX3_init 13 = .ok (.bipush 60, 2) := by decide +kernel
theorem dX3_init_15 : decode cX3_init 15 = .ok (.newarray .int, 2) := by decide +kernel
theorem dX3_init_17 : decode cX3_init 17 = .ok (.putfield 15, 3) := by decide +kernel
theorem dX3_init_20 : decode cX3_init 20 = .ok (.aload_n 0, 1) := by decide +kernel
theorem dX3_init_21 : decode cX3_init 21 = .ok (.bipush 10, 2) := by decide +kernel
theorem dX3_init_23 : decode cX3_init 23 = .ok (.newarray .int, 2) := by decide +kernel
theorem dX3_init_25 : decode cX3_init 25 = .ok (.putfield 18, 3) := by decide +kernel
theorem dX3_init_28 : decode cX3_init 28 = .ok (.iconst 0, 1) := by decide +kernel
theorem dX3_init_29 : decode cX3_init 29 = .ok (.istore_n 1, 1) := by decide +kernel
theorem dX3_init_30 : decode cX3_init 30 = .ok (.iload_n 1, 1) := by decide +kernel
theorem dX3_init_31 : decode cX3_init 31 = .ok (.bipush 10, 2) := by decide +kernel
theorem dX3_init_33 : decode cX3_init 33 = .ok (.if_icmp .ge 16, 3) := by decide +kernel
theorem dX3_init_36 : decode cX3_init 36 = .ok (.aload_n 0, 1) := by decide +kernel
theorem dX3_init_37 : decode cX3_init 37 = .ok (.getfield 18, 3) := by decide +kernel
theorem dX3_init_40 : decode cX3_init 40 = .ok (.iload_n 1, 1) := by decide +kernel
theorem dX3_init_41 : decode cX3_init 41 = .ok (.iconst (-1), 1) := by decide +kernel
theorem dX3_init_42 : decode cX3_init 42 = .ok (.iastore, 1) := by decide +kernel
theorem dX3_init_43 : decode cX3_init 43 = .ok (.iinc 1 1, 3) := by decide +kernel
theorem dX3_init_46 : decode cX3_init 46 = .ok (.goto (-16), 3) := by decide +kernel
theorem dX3_init_49 : decode cX3_init 49 = .ok (.return_, 1) := by decide +kernel
theorem dX3_add_0 : decode cX3_add 0 = .ok (.aload_n 0, 1) := by decide +kernel
theorem dX3_add_1 : decode cX3_add 1 = .ok (.getfield 21, 3) := by decide +kernel
theorem dX3_add_4 : decode cX3_add 4 = .ok (.istore_n 3, 1) := by decide +kernel
theorem dX3_add_5 : decode cX3_add 5 = .ok (.aload_n 0, 1) := by decide +kernel
theorem dX3_add_6 : decode cX3_add 6 = .ok (.getfield 9, 3) := by decide +kernel
theorem dX3_add_9 : decode cX3_add 9 = .ok (.iload_n 3, 1) := by decide +kernel
theorem dX3_add_10 : decode cX3_add 10 = .ok (.iload_n 1, 1) := by decide +kernel
theorem dX3_add_11 : decode cX3_add 11 = .ok (.iastore, 1) := by decide +kernel
theorem dX3_add_12 : decode cX3_add 12 = .ok (.aload_n 0, 1) := by decide +kernel
theorem dX3_add_13 : decode cX3_add 13 = .ok (.getfield 15, 3) := by decide +kernel
theorem dX3_add_16 : decode cX3_add 16 = .ok (.iload_n 3, 1) := by decide +kernel
theorem dX3_add_17 : decode cX3_add 17 = .ok (.iload_n 2, 1) := by decide +kernel
theorem dX3_add_18 : decode cX3_add 18 = .ok (.iastore, 1) := by decide +kernel
theorem dX3_add_19 : decode cX3_add 19 = .ok (.aload_n 0, 1) := by decide +kernel
theorem dX3_add_20 : decode cX3_add 20 = .ok (.getfield 18, 3) := by decide +kernel
theorem dX3_add_23 : decode cX3_add 23 = .ok (.iload_n 1, 1) := by decide +kernel
theorem dX3_add_24 : decode cX3_add 24 = .ok (.iaload, 1) := by decide +kernel
theorem dX3_add_25 : decode cX3_add 25 = .ok (.iconst (-1), 1) := by decide +kernel
theorem dX3_add_26 : decode cX3_add 26 = .ok (.if_icmp .ne 10, 3) := by decide +kernel
theorem dX3_add_29 : decode cX3_add 29 = .ok (.aload_n 0, 1) := by decide +kernel
theorem dX3_add_30 : decode cX3_add 30 = .ok (.getfield 18, 3) := by decide +kernel
theorem dX3_add_33 : decode cX3_add 33 = .ok (.iload_n 1, 1) := by decide +kernel
theorem dX3_add_34 : decode cX3_add 34 = .ok (.iload_n 3, 1) := by decide +kernel
theorem dX3_add_35 : decode cX3_add 35 = .ok (.iastore, 1) := by decide +kernel
theorem dX3_add_36 : decode cX3_add 36 = .ok (.aload_n 0, 1) := by decide +kernel
theorem dX3_add_37 : decode cX3_add 37 = .ok (.dup, 1) := by decide +kernel
theorem dX3_add_38 : decode cX3_add 38 = .ok (.getfield 21, 3) := by decide +kernel
theorem dX3_add_41 : decode cX3_add 41 = .ok (.iconst 1, 1) := by decide +kernel
theorem dX3_add_42 : decode cX3_add 42 = .ok (.iadd, 1) := by decide +kernel
theorem dX3_add_43 : decode cX3_add 43 = .ok (.putfield 21, 3) := by decide +kernel
theorem dX3_add_46 : decode cX3_add 46 = .ok (.iload_n 3, 1) := by decide +kernel
theorem dX3_add_47 : decode cX3_add 47 = .ok (.ireturn, 1) := by decide +kernel
theorem dX3_offsetOf_0 : decode cX3_offsetOf 0 = .ok (.aload_n 0, 1) := by decide +kernel
theorem dX3_offsetOf_1 : decode cX3_offsetOf 1 = .ok (.getfield 18, 3) := by decide +kernel
theorem dX3_offsetOf_4 : decode cX3_offsetOf 4 = .ok (.iload_n 1, 1) := by decide +kernel
theorem dX3_offsetOf_5 : decode cX3_offsetOf 5 = .ok (.iaload, 1) := by decide +kernel
theorem dX3_offsetOf_6 : decode cX3_offsetOf 6 = .ok (.istore_n 2, 1) := by decide +kernel
theorem dX3_offsetOf_7 : decode cX3_offsetOf 7 = .ok (.iload_n 2, 1) := by decide +kernel
theorem dX3_offsetOf_8 : decode cX3_offsetOf 8 = .ok (.iconst (-1), 1) := by decide +kernel
theorem dX3_offsetOf_9 : decode cX3_offsetOf 9 = .ok (.if_icmp .ne 7, 3) := by decide +kernel
theorem dX3_offsetOf_12 : decode cX3_offsetOf 12 = .ok (.iconst 0, 1) := by decide +kernel
theorem dX3_offsetOf_13 : decode cX3_offsetOf 13 = .ok (.goto 9, 3) := by decide +kernel
theorem dX3_offsetOf_16 : decode cX3_offsetOf 16 = .ok (.aload_n 0, 1) := by decide +kernel
theorem dX3_offsetOf_17 : decode cX3_offsetOf 17 = .ok (.getfield 15, 3) := by decide +kernel
theorem dX3_offsetOf_20 : decode cX3_offsetOf 20 = .ok (.iload_n 2, 1) := by decide +kernel
theorem dX3_offsetOf_21 : decode cX3_offsetOf 21 = .ok (.iaload, 1) := by decide +kernel
theorem dX3_offsetOf_22 : decode cX3_offsetOf 22 = .ok (.ireturn, 1) := by decide +kernel
theorem dX3_contradictionAt_0 : decode cX3_contradictionAt 0 = .ok (.iconst 0, 1) := by decide +kernel
theorem dX3_contradictionAt_1 : decode cX3_contradictionAt 1 = .ok (.istore_n 2, 1) := by decide +kernel
theorem dX3_contradictionAt_2 : decode cX3_contradictionAt 2 = .ok (.iconst 0, 1) := by decide +kernel
theorem dX3_contradictionAt_3 : decode cX3_contradictionAt 3 = .ok (.istore_n 3, 1) := by decide +kernel
theorem dX3_contradictionAt_4 : decode cX3_contradictionAt 4 = .ok (.iload_n 3, 1) := by decide +kernel
theorem dX3_contradictionAt_5 : decode cX3_contradictionAt 5 = .ok (.aload_n 0, 1) := by decide +kernel
theorem dX3_contradictionAt_6 : decode cX3_contradictionAt 6 = .ok (.getfield 21, 3) := by decide +kernel
theorem dX3_contradictionAt_9 : decode cX3_contradictionAt 9 = .ok (.if_icmp .ge 53, 3) := by decide +kernel
theorem dX3_contradictionAt_12 : decode cX3_contradictionAt 12 = .ok (.aload_n 0, 1) := by decide +kernel
theorem dX3_contradictionAt_13 : decode cX3_contradictionAt 13 = .ok (.getfield 15, 3) := by decide +kernel
theorem dX3_contradictionAt_16 : decode cX3_contradictionAt 16 = .ok (.iload_n 3, 1) := by decide +kernel
theorem dX3_contradictionAt_17 : decode cX3_contradictionAt 17 = .ok (.iaload, 1) := by decide +kernel
theorem dX3_contradictionAt_18 : decode cX3_contradictionAt 18 = .ok (.aload_n 0, 1) := by decide +kernel
theorem dX3_contradictionAt_19 : decode cX3_contradictionAt 19 = .ok (.aload_n 0, 1) := by decide +kernel
theorem dX3_contradictionAt_20 : decode cX3_contradictionAt 20 = .ok (.getfield 9, 3) := by decide +kernel
theorem dX3_contradictionAt_23 : decode cX3_contradictionAt 23 = .ok (.iload_n 3, 1) := by decide +kernel
theorem dX3_contradictionAt_24 : decode cX3_contradictionAt 24 = .ok (.iaload, 1) := by decide +kernel
theorem dX3_contradictionAt_25 : decode cX3_contradictionAt 25 = .ok (.invokevirtual 25, 3) := by decide +kernel
theorem dX3_contradictionAt_28 : decode cX3_contradictionAt 28 = .ok (.if_icmp .eq 28, 3) := by decide +kernel
theorem dX3_contradictionAt_31 : decode cX3_contradictionAt 31 = .ok (.iload_n 2, 1) := by decide +kernel
theorem dX3_contradictionAt_32 : decode cX3_contradictionAt 32 = .ok (.iload_n 1, 1) := by decide +kernel
theorem dX3_contradictionAt_33 : decode cX3_contradictionAt 33 = .ok (.if_icmp .ne 20, 3) := by decide +kernel
theorem dX3_contradictionAt_36 : decode cX3_contradictionAt 36 = .ok (.bipush 100, 2) := by decide +kernel
theorem dX3_contradictionAt_38 : decode cX3_contradictionAt 38 = .ok (.aload_n 0, 1) := by decide +kernel
theorem dX3_contradictionAt_39 : decode cX3_contradictionAt 39 = .ok (.getfield 18, 3) := by decide +kernel
theorem dX3_contradictionAt_42 : decode cX3_contradictionAt 42 = .ok (.aload_n 0, 1) := by decide +kernel
theorem dX3_contradictionAt_43 : decode cX3_contradictionAt 43 = .ok (.getfield 9, 3) := by decide +kernel
theorem dX3_contradictionAt_46 : decode cX3_contradictionAt 46 = .ok (.iload_n 3, 1) := by decide +kernel
theorem dX3_contradictionAt_47 : decode cX3_contradictionAt 47 = .ok (.iaload, 1) := by decide +kernel
theorem dX3_contradictionAt_48 : decode cX3_contradictionAt 48 = .ok (.iaload, 1) := by decide +kernel
theorem dX3_contradictionAt_49 : decode cX3_contradictionAt 49 = .ok (.imul, 1) := by decide +kernel
theorem dX3_contradictionAt_50 : decode cX3_contradictionAt 50 = .ok (.iload_n 3, 1) := by decide +kernel
theorem dX3_contradictionAt_51 : decode cX3_contradictionAt 51 = .ok (.iadd, 1) := by decide +kernel
theorem dX3_contradictionAt_52 : decode cX3_contradictionAt 52 = .ok (.ireturn, 1) := by decide +kernel
theorem dX3_contradictionAt_53 : decode cX3_contradictionAt 53 = .ok (.iinc 2 1, 3) := by decide +kernel
theorem dX3_contradictionAt_56 : decode cX3_contradictionAt 56 = .ok (.iinc 3 1, 3) := by decide +kernel
theorem dX3_contradictionAt_59 : decode cX3_contradictionAt 59 = .ok (.goto (-55), 3) := by decide +kernel
theorem dX3_contradictionAt_62 : decode cX3_contradictionAt 62 = .ok (.iconst (-1), 1) := by decide +kernel
theorem dX3_contradictionAt_63 : decode cX3_contradictionAt 63 = .ok (.ireturn, 1) := by decide +kernel
theorem dX4_init_0 : decode cX4_init 0 = .ok (.aload_n 0, 1) := by decide +kernel
theorem dX4_init_1 : decode cX4_init 1 = .ok (.invokespecial 3, 3) := by decide +kernel
theorem dX4_init_4 : decode cX4_init 4 = .ok (.aload_n 0, 1) := by decide +kernel
theorem dX4_init_5 : decode cX4_init 5 = .ok (.sipush 200, 3) := by decide +kernel
theorem dX4_init_8 : decode cX4_init 8 = .ok (.newarray .int, 2) := by decide +kernel
theorem dX4_init_10 : decode cX4_init 10 = .ok (.putfield 9, 3) := by decide +kernel
theorem dX4_init_13 : decode cX4_init 13 = .ok (.aload_n 0, 1) := by decide +kernel
theorem dX4_init_14 : decode cX4_init 14 = .ok (.sipush 200, 3) := by decide +kernel
theorem dX4_init_17 : decode cX4_init 17 = .ok (.newarray .int, 2) := by decide +kernel
theorem dX4_init_19 : decode cX4_init 19 = .ok (.putfield 15, 3) := by decide +kernel
theorem dX4_init_22 : decode cX4_init 22 = .ok (.aload_n 0, 1) := by decide +kernel
theorem dX4_init_23 : decode cX4_init 23 = .ok (.sipush 200, 3) := by decide +kernel
theorem dX4_init_26 : decode cX4_init 26 = .ok (.newarray .int, 2) := by decide +kernel
theorem dX4_init_28 : decode cX4_init 28 = .ok (.putfield 18, 3) := by decide +kernel
theorem dX4_init_31 : decode cX4_init 31 = .ok (.aload_n 0, 1) := by decide +kernel
theorem dX4_init_32 : decode cX4_init 32 = .ok (.sipush 200, 3) := by decide +kernel
theorem dX4_init_35 : decode cX4_init 35 = .ok (.newarray .long, 2) := by decide +kernel
theorem dX4_init_37 : decode cX4_init 37 = .ok (.putfield 21, 3) := by decide +kernel
theorem dX4_init_40 : decode cX4_init 40 = .ok (.aload_n 0, 1) := by decide +kernel
theorem dX4_init_41 : decode cX4_init 41 = .ok (.sipush 200, 3) := by decide +kernel
theorem dX4_init_44 : decode cX4_init 44 = .ok (.newarray .int, 2) := by decide +kernel
theorem dX4_init_46 : decode cX4_init 46 = .ok (.putfield 25, 3) := by decide +kernel
theorem dX4_init_49 : decode cX4_init 49 = .ok (.aload_n 0, 1) := by decide +kernel
theorem dX4_init_50 : decode cX4_init 50 = .ok (.sipush 200, 3) := by decide +kernel
theorem dX4_init_53 : decode cX4_init 53 = .ok (.newarray .int, 2) := by decide +kernel
theorem dX4_init_55 : decode cX4_init 55 = .ok (.putfield 28, 3) := by decide +kernel
theorem dX4_init_58 : decode cX4_init 58 = .ok (.aload_n 0, 1) := by decide +kernel
theorem dX4_init_59 : decode cX4_init 59 = .ok (.sipush 200, 3) := by decide +kernel
theorem dX4_init_62 : decode cX4_init 62 = .ok (.newarray .int, 2) := by decide +kernel
theorem dX4_init_64 : decode cX4_init 64 = .ok (.putfield 31, 3) := by decide +kernel
theorem dX4_init_67 : decode cX4_init 67 = .ok (.aload_n 0, 1) := by decide +kernel
theorem dX4_init_68 : decode cX4_init 68 = .ok (.sipush 200, 3) := by decide +kernel
theorem dX4_init_71 : decode cX4_init 71 = .ok (.newarray .boolean, 2) := by decide +kernel
theorem dX4_init_73 : decode cX4_init 73 = .ok (.putfield 34, 3) := by decide +kernel
theorem dX4_init_76 : decode cX4_init 76 = .ok (.return_, 1) := by decide +kernel
theorem dX4_add_0 : decode cX4_add 0 = .ok (.aload_n 0, 1) := by decide +kernel
theorem dX4_add_1 : decode cX4_add 1 = .ok (.getfield 38, 3) := by decide +kernel
theorem dX4_add_4 : decode cX4_add 4 = .ok (.istore 8, 2) := by decide +kernel
theorem dX4_add_6 : decode cX4_add 6 = .ok (.aload_n 0, 1) := by decide +kernel
theorem dX4_add_7 : decode cX4_add 7 = .ok (.getfield 9, 3) := by decide +kernel
theorem dX4_add_10 : decode cX4_add 10 = .ok (.iload 8, 2) := by decide +kernel
theorem dX4_add_12 : decode cX4_add 12 = .ok (.iload_n 1, 1) := by decide +kernel
theorem dX4_add_13 : decode cX4_add 13 = .ok (.iastore, 1) := by decide +kernel
theorem dX4_add_14 : decode cX4_add 14 = .ok (.aload_n 0, 1) := by decide +kernel
theorem dX4_add_15 : decode cX4_add 15 = .ok (.getfield 15, 3) := by decide +kernel
theorem dX4_add_18 : decode cX4_add 18 = .ok (.iload 8, 2) := by decide +kernel
theorem dX4_add_20 : decode cX4_add 20 = .ok (.iload_n 2, 1) := by decide +kernel
theorem dX4_add_21 : decode cX4_add 21 = .ok (.iastore, 1) := by decide +kernel
theorem dX4_add_22 : decode cX4_add 22 = .ok (.aload_n 0, 1) := by decide +kernel
theorem dX4_add_23 : decode cX4_add 23 = .ok (.getfield 18, 3) := by decide +kernel
theorem dX4_add_26 : decode cX4_add 26 = .ok (.iload 8, 2) := by decide +kernel
theorem dX4_add_28 : decode cX4_add 28 = .ok (.iload_n 3, 1) := by decide +kernel
theorem dX4_add_29 : decode cX4_add 29 = .ok (.iastore, 1) := by decide +kernel
theorem dX4_add_30 : decode cX4_add 30 = .ok (.aload_n 0, 1) := by decide +kernel
theorem dX4_add_31 : decode cX4_add 31 = .ok (.getfield 21, 3) := by decide +kernel
theorem dX4_add_34 : decode cX4_add 34 = .ok (.iload 8, 2) := by decide +kernel
theorem dX4_add_36 : decode cX4_add 36 = .ok (.lload 4, 2) := by decide +kernel
theorem dX4_add_38 : decode cX4_add 38 = .ok (.lastore, 1) := by decide +kernel
theorem dX4_add_39 : decode cX4_add 39 = .ok (.aload_n 0, 1) := by decide +kernel
theorem dX4_add_40 : decode cX4_add 40 = .ok (.getfield 25, 3) := by decide +kernel
theorem dX4_add_43 : decode cX4_add 43 = .ok (.iload 8, 2) := by decide +kernel
theorem dX4_add_45 : decode cX4_add 45 = .ok (.iload 6, 2) := by decide +kernel
theorem dX4_add_47 : decode cX4_add 47 = .ok (.iastore, 1) := by decide +kernel
theorem dX4_add_48 : decode cX4_add 48 = .ok (.aload_n 0, 1) := by decide +kernel
theorem dX4_add_49 : decode cX4_add 49 = .ok (.getfield 28, 3) := by decide +kernel
theorem dX4_add_52 : decode cX4_add 52 = .ok (.iload 8, 2) := by decide +kernel
theorem dX4_add_54 : decode cX4_add 54 = .ok (.iload 7, 2) := by decide +kernel
theorem dX4_add_56 : decode cX4_add 56 = .ok (.iastore, 1) := by decide +kernel
theorem dX4_add_57 : decode cX4_add 57 = .ok (.aload_n 0, 1) := by decide +kernel
theorem dX4_add_58 : decode cX4_add 58 = .ok (.getfield 34, 3) := by decide +kernel
theorem dX4_add_61 : decode cX4_add 61 = .ok (.iload 8, 2) := by decide +kernel
theorem dX4_add_63 : decode cX4_add 63 = .ok (.iconst 1, 1) := by decide +kernel
theorem dX4_add_64 : decode cX4_add 64 = .ok (.bastore, 1) := by decide +kernel
theorem dX4_add_65 : decode cX4_add 65 = .ok (.aload_n 0, 1) := by decide +kernel
theorem dX4_add_66 : decode cX4_add 66 = .ok (.getfield 31, 3) := by decide +kernel
theorem dX4_add_69 : decode cX4_add 69 = .ok (.iload 8, 2) := by decide +kernel
theorem dX4_add_71 : decode cX4_add 71 = .ok (.aload_n 0, 1) := by decide +kernel
theorem dX4_add_72 : decode cX4_add 72 = .ok (.iload 8, 2) := by decide +kernel
theorem dX4_add_74 : decode cX4_add 74 = .ok (.invokevirtual 42, 3) := by decide +kernel
theorem dX4_add_77 : decode cX4_add 77 = .ok (.iastore, 1) := by decide +kernel
theorem dX4_add_78 : decode cX4_add 78 = .ok (.aload_n 0, 1) := by decide +kernel
theorem dX4_add_79 : decode cX4_add 79 = .ok (.dup, 1) := by decide +kernel
theorem dX4_add_80 : decode cX4_add 80 = .ok (.getfield 38, 3) := by decide +kernel
theorem dX4_add_83 : decode cX4_add 83 = .ok (.iconst 1, 1) := by decide +kernel
theorem dX4_add_84 : decode cX4_add 84 = .ok (.iadd, 1) := by decide +kernel
theorem dX4_add_85 : decode cX4_add 85 = .ok (.putfield 38, 3) := by decide +kernel
theorem dX4_add_88 : decode cX4_add 88 = .ok (.iload 8, 2) := by decide +kernel
theorem dX4_add_90 : decode cX4_add 90 = .ok (.ireturn, 1) := by decide +kernel
theorem dX4_isOf_0 : decode cX4_isOf 0 = .ok (.iload_n 2, 1) := by decide +kernel
theorem dX4_isOf_1 : decode cX4_isOf 1 = .ok (.iconst (-1), 1) := by decide +kernel
theorem dX4_isOf_2 : decode cX4_isOf 2 = .ok (.if_icmp .eq 13, 3) := by decide +kernel
theorem dX4_isOf_5 : decode cX4_isOf 5 = .ok (.iload_n 2, 1) := by decide +kernel
theorem dX4_isOf_6 : decode cX4_isOf 6 = .ok (.aload_n 0, 1) := by decide +kernel
theorem dX4_isOf_7 : decode cX4_isOf 7 = .ok (.getfield 25, 3) := by decide +kernel
theorem dX4_isOf_10 : decode cX4_isOf 10 = .ok (.iload_n 1, 1) := by decide +kernel
theorem dX4_isOf_11 : decode cX4_isOf 11 = .ok (.iaload, 1) := by decide +kernel
theorem dX4_isOf_12 : decode cX4_isOf 12 = .ok (.if_icmp .ne 22, 3) := by decide +kernel
theorem dX4_isOf_15 : decode cX4_isOf 15 = .ok (.iload_n 3, 1) := by decide +kernel
theorem dX4_isOf_16 : decode cX4_isOf 16 = .ok (.iconst (-1), 1) := by decide +kernel
theorem dX4_isOf_17 : decode cX4_isOf 17 = .ok (.if_icmp .eq 13, 3) := by decide +kernel
theorem dX4_isOf_20 : decode cX4_isOf 20 = .ok (.iload_n 3, 1) := by decide +kernel
theorem dX4_isOf_21 : decode cX4_isOf 21 = .ok (.aload_n 0, 1) := by decide +kernel
theorem dX4_isOf_22 : decode cX4_isOf 22 = .ok (.getfield 28, 3) := by decide +kernel
theorem dX4_isOf_25 : decode cX4_isOf 25 = .ok (.iload_n 1, 1) := by decide +kernel
theorem dX4_isOf_26 : decode cX4_isOf 26 = .ok (.iaload, 1) := by decide +kernel
theorem dX4_isOf_27 : decode cX4_isOf 27 = .ok (.if_icmp .ne 7, 3) := by decide +kernel
theorem dX4_isOf_30 : decode cX4_isOf 30 = .ok (.iconst 1, 1) := by decide +kernel
theorem dX4_isOf_31 : decode cX4_isOf 31 = .ok (.goto 4, 3) := by decide +kernel
theorem dX4_isOf_34 : decode cX4_isOf 34 = .ok (.iconst 0, 1) := by decide +kernel
theorem dX4_isOf_35 : decode cX4_isOf 35 = .ok (.ireturn, 1) := by decide +kernel
theorem dX4_sumNow_0 : decode cX4_sumNow 0 = .ok (.aload_n 0, 1) := by decide +kernel
theorem dX4_sumNow_1 : decode cX4_sumNow 1 = .ok (.iconst 0, 1) := by decide +kernel
theorem dX4_sumNow_2 : decode cX4_sumNow 2 = .ok (.iload_n 1, 1) := by decide +kernel
theorem dX4_sumNow_3 : decode cX4_sumNow 3 = .ok (.iconst 0, 1) := by decide +kernel
theorem dX4_sumNow_4 : decode cX4_sumNow 4 = .ok (.aload_n 0, 1) := by decide +kernel
theorem dX4_sumNow_5 : decode cX4_sumNow 5 = .ok (.getfield 18, 3) := by decide +kernel
theorem dX4_sumNow_8 : decode cX4_sumNow 8 = .ok (.iload_n 1, 1) := by decide +kernel
theorem dX4_sumNow_9 : decode cX4_sumNow 9 = .ok (.iaload, 1) := by decide +kernel
theorem dX4_sumNow_10 : decode cX4_sumNow 10 = .ok (.invokevirtual 46, 3) := by decide +kernel
theorem dX4_sumNow_13 : decode cX4_sumNow 13 = .ok (.ireturn, 1) := by decide +kernel
theorem dX4_sumOn_0 : decode cX4_sumOn 0 = .ok (.iload_n 1, 1) := by decide +kernel
theorem dX4_sumOn_1 : decode cX4_sumOn 1 = .ok (.istore 5, 2) := by decide +kernel
theorem dX4_sumOn_3 : decode cX4_sumOn 3 = .ok (.iload_n 3, 1) := by decide +kernel
theorem dX4_sumOn_4 : decode cX4_sumOn 4 = .ok (.istore 6, 2) := by decide +kernel
theorem dX4_sumOn_6 : decode cX4_sumOn 6 = .ok (.iload 6, 2) := by decide +kernel
theorem dX4_sumOn_8 : decode cX4_sumOn 8 = .ok (.iload 4, 2) := by decide +kernel
theorem dX4_sumOn_10 : decode cX4_sumOn 10 = .ok (.if_icmp .ge 52, 3) := by decide +kernel
theorem dX4_sumOn_13 : decode cX4_sumOn 13 = .ok (.aload_n 0, 1) := by decide +kernel
theorem dX4_sumOn_14 : decode cX4_sumOn 14 = .ok (.getfield 21, 3) := by decide +kernel
theorem dX4_sumOn_17 : decode cX4_sumOn 17 = .ok (.iload_n 2, 1) := by decide +kernel
theorem dX4_sumOn_18 : decode cX4_sumOn 18 = .ok (.laload, 1) := by decide +kernel
theorem dX4_sumOn_19 : decode cX4_sumOn 19 = .ok (.aload_n 0, 1) := by decide +kernel
theorem dX4_sumOn_20 : decode cX4_sumOn 20 = .ok (.iload_n 2, 1) := by decide +kernel
theorem dX4_sumOn_21 : decode cX4_sumOn 21 = .ok (.iload 6, 2) := by decide +kernel
theorem dX4_sumOn_23 : decode cX4_sumOn 23 = .ok (.invokevirtual 50, 3) := by decide +kernel
theorem dX4_sumOn_26 : decode cX4_sumOn 26 = .ok (.lushr, 1) := by decide +kernel
theorem dX4_sumOn_27 : decode cX4_sumOn 27 = .ok (.l2i, 1) := by decide +kernel
theorem dX4_sumOn_28 : decode cX4_sumOn 28 = .ok (.sipush 255, 3) := by decide +kernel
theorem dX4_sumOn_31 : decode cX4_sumOn 31 = .ok (.iand, 1) := by decide +kernel
theorem dX4_sumOn_32 : decode cX4_sumOn 32 = .ok (.istore 7, 2) := by decide +kernel
theorem dX4_sumOn_34 : decode cX4_sumOn 34 = .ok (.iload 5, 2) := by decide +kernel
theorem dX4_sumOn_36 : decode cX4_sumOn 36 = .ok (.iload 7, 2) := by decide +kernel
theorem dX4_sumOn_38 : decode cX4_sumOn 38 = .ok (.ixor, 1) := by decide +kernel
theorem dX4_sumOn_39 : decode cX4_sumOn 39 = .ok (.istore 8, 2) := by decide +kernel
theorem dX4_sumOn_41 : decode cX4_sumOn 41 = .ok (.iload 8, 2) := by decide +kernel
theorem dX4_sumOn_43 : decode cX4_sumOn 43 = .ok (.iconst 5, 1) := by decide +kernel
theorem dX4_sumOn_44 : decode cX4_sumOn 44 = .ok (.ishl, 1) := by decide +kernel
theorem dX4_sumOn_45 : decode cX4_sumOn 45 = .ok (.iload 8, 2) := by decide +kernel
theorem dX4_sumOn_47 : decode cX4_sumOn 47 = .ok (.bipush 27, 2) := by decide +kernel
theorem dX4_sumOn_49 : decode cX4_sumOn 49 = .ok (.iushr, 1) := by decide +kernel
theorem dX4_sumOn_50 : decode cX4_sumOn 50 = .ok (.ior, 1) := by decide +kernel
theorem dX4_sumOn_51 : decode cX4_sumOn 51 = .ok (.ldc 54, 2) := by decide +kernel
theorem dX4_sumOn_53 : decode cX4_sumOn 53 = .ok (.imul, 1) := by decide +kernel
theorem dX4_sumOn_54 : decode cX4_sumOn 54 = .ok (.istore 5, 2) := by decide +kernel
theorem dX4_sumOn_56 : decode cX4_sumOn 56 = .ok (.iinc 6 1, 3) := by decide +kernel
theorem dX4_sumOn_59 : decode cX4_sumOn 59 = .ok (.goto (-53), 3) := by decide +kernel
theorem dX4_sumOn_62 : decode cX4_sumOn 62 = .ok (.iload 5, 2) := by decide +kernel
theorem dX4_sumOn_64 : decode cX4_sumOn 64 = .ok (.ireturn, 1) := by decide +kernel
theorem dX4_alter_0 : decode cX4_alter 0 = .ok (.aload_n 0, 1) := by decide +kernel
theorem dX4_alter_1 : decode cX4_alter 1 = .ok (.getfield 21, 3) := by decide +kernel
theorem dX4_alter_4 : decode cX4_alter 4 = .ok (.iload_n 1, 1) := by decide +kernel
theorem dX4_alter_5 : decode cX4_alter 5 = .ok (.dup2, 1) := by decide +kernel
theorem dX4_alter_6 : decode cX4_alter 6 = .ok (.laload, 1) := by decide +kernel
theorem dX4_alter_7 : decode cX4_alter 7 = .ok (.iload_n 3, 1) := by decide +kernel
theorem dX4_alter_8 : decode cX4_alter 8 = .ok (.i2l, 1) := by decide +kernel
theorem dX4_alter_9 : decode cX4_alter 9 = .ok (.aload_n 0, 1) := by decide +kernel
theorem dX4_alter_10 : decode cX4_alter 10 = .ok (.iload_n 1, 1) := by decide +kernel
theorem dX4_alter_11 : decode cX4_alter 11 = .ok (.iload_n 2, 1) := by decide +kernel
theorem dX4_alter_12 : decode cX4_alter 12 = .ok (.invokevirtual 50, 3) := by decide +kernel
theorem dX4_alter_15 : decode cX4_alter 15 = .ok (.lshl, 1) := by decide +kernel
theorem dX4_alter_16 : decode cX4_alter 16 = .ok (.lxor, 1) := by decide +kernel
theorem dX4_alter_17 : decode cX4_alter 17 = .ok (.lastore, 1) := by decide +kernel
theorem dX4_alter_18 : decode cX4_alter 18 = .ok (.return_, 1) := by decide +kernel
theorem dX4_shiftOf_0 : decode cX4_shiftOf 0 = .ok (.bipush 8, 2) := by decide +kernel
theorem dX4_shiftOf_2 : decode cX4_shiftOf 2 = .ok (.aload_n 0, 1) := by decide +kernel
theorem dX4_shiftOf_3 : decode cX4_shiftOf 3 = .ok (.getfield 18, 3) := by decide +kernel
theorem dX4_shiftOf_6 : decode cX4_shiftOf 6 = .ok (.iload_n 1, 1) := by decide +kernel
theorem dX4_shiftOf_7 : decode cX4_shiftOf 7 = .ok (.iaload, 1) := by decide +kernel
theorem dX4_shiftOf_8 : decode cX4_shiftOf 8 = .ok (.iconst 1, 1) := by decide +kernel
theorem dX4_shiftOf_9 : decode cX4_shiftOf 9 = .ok (.isub, 1) := by decide +kernel
theorem dX4_shiftOf_10 : decode cX4_shiftOf 10 = .ok (.iload_n 2, 1) := by decide +kernel
theorem dX4_shiftOf_11 : decode cX4_shiftOf 11 = .ok (.isub, 1) := by decide +kernel
theorem dX4_shiftOf_12 : decode cX4_shiftOf 12 = .ok (.imul, 1) := by decide +kernel
theorem dX4_shiftOf_13 : decode cX4_shiftOf 13 = .ok (.ireturn, 1) := by decide +kernel
end
section
/-! what a state of the class is, in numbers: N counts (0 slots, 1 marks, 2 the line, 3 certificates, 4 rows ever); F rows of numbers (0 source, 1 clock, 2 length, 3 unit, 4 incident, 5 a mark's source, 6 the line's order, 7 a certificate's slot, 8 a row's person, 9 a row's slot); B rows of booleans (0 there, 1 allowed, 2 rights, 3 held); G sums (0 kept, 1 a certificate's kept, 2 its last); D (0 a mark's difference, 1 a source's first mark or -1); L the bytes -/
abbrev c_St : Type := (Nat → Nat) × (Nat → Nat → Nat) × (Nat → Nat → Bool) × (Nat → Nat → Int32) × (Nat → Nat → Int) × (Nat → Int64)
def cu_N (u : c_St) (k : Nat) : Nat := u.1 k
def cu_F (u : c_St) (k i : Nat) : Nat := u.2.1 k i
def cu_B (u : c_St) (k i : Nat) : Bool := u.2.2.1 k i
def cu_G (u : c_St) (k i : Nat) : Int32 := u.2.2.2.1 k i
def cu_D (u : c_St) (k i : Nat) : Int := u.2.2.2.2.1 k i
def cu_L (u : c_St) (i : Nat) : Int64 := u.2.2.2.2.2 i
def up2 {α : Type} (f : Nat → Nat → α) (k i : Nat) (v : α) : Nat → Nat → α := fun k' i' => if k' = k then (if i' = i then v else f k' i') else f k' i'
def cs_N (u : c_St) (k v : Nat) : c_St := (fun j => if j = k then v else u.1 j, u.2.1, u.2.2.1, u.2.2.2.1, u.2.2.2.2.1, u.2.2.2.2.2)
def cs_F (u : c_St) (k i v : Nat) : c_St := (u.1, up2 u.2.1 k i v, u.2.2.1, u.2.2.2.1, u.2.2.2.2.1, u.2.2.2.2.2)
def cs_B (u : c_St) (k i : Nat) (v : Bool) : c_St := (u.1, u.2.1, up2 u.2.2.1 k i v, u.2.2.2.1, u.2.2.2.2.1, u.2.2.2.2.2)
def cs_G (u : c_St) (k i : Nat) (v : Int32) : c_St := (u.1, u.2.1, u.2.2.1, up2 u.2.2.2.1 k i v, u.2.2.2.2.1, u.2.2.2.2.2)
def cs_D (u : c_St) (k i : Nat) (v : Int) : c_St := (u.1, u.2.1, u.2.2.1, u.2.2.2.1, up2 u.2.2.2.2.1 k i v, u.2.2.2.2.2)
def cs_L (u : c_St) (i : Nat) (v : Int64) : c_St := (u.1, u.2.1, u.2.2.1, u.2.2.2.1, u.2.2.2.2.1, fun j => if j = i then v else u.2.2.2.2.2 j)
theorem cx_NN (u : c_St) (k v j : Nat) : cu_N (cs_N u k v) j = if j = k then v else cu_N u j := rfl
theorem cx_FN (u : c_St) (k v : Nat) : cu_F (cs_N u k v) = cu_F u := rfl
theorem cx_BN (u : c_St) (k v : Nat) : cu_B (cs_N u k v) = cu_B u := rfl
theorem cx_GN (u : c_St) (k v : Nat) : cu_G (cs_N u k v) = cu_G u := rfl
theorem cx_DN (u : c_St) (k v : Nat) : cu_D (cs_N u k v) = cu_D u := rfl
theorem cx_LN (u : c_St) (k v : Nat) : cu_L (cs_N u k v) = cu_L u := rfl
theorem cx_NF (u : c_St) (k i v : Nat) : cu_N (cs_F u k i v) = cu_N u := rfl
theorem cx_FF (u : c_St) (k i v : Nat) (k' j : Nat) : cu_F (cs_F u k i v) k' j = if k' = k then (if j = i then v else cu_F u k' j) else cu_F u k' j := rfl
theorem cx_BF (u : c_St) (k i v : Nat) : cu_B (cs_F u k i v) = cu_B u := rfl
theorem cx_GF (u : c_St) (k i v : Nat) : cu_G (cs_F u k i v) = cu_G u := rfl
theorem cx_DF (u : c_St) (k i v : Nat) : cu_D (cs_F u k i v) = cu_D u := rfl
theorem cx_LF (u : c_St) (k i v : Nat) : cu_L (cs_F u k i v) = cu_L u := rfl
theorem cx_NB (u : c_St) (k i : Nat) (v : Bool) : cu_N (cs_B u k i v) = cu_N u := rfl
theorem cx_FB (u : c_St) (k i : Nat) (v : Bool) : cu_F (cs_B u k i v) = cu_F u := rfl
theorem cx_BB (u : c_St) (k i : Nat) (v : Bool) (k' j : Nat) : cu_B (cs_B u k i v) k' j = if k' = k then (if j = i then v else cu_B u k' j) else cu_B u k' j := rfl
theorem cx_GB (u : c_St) (k i : Nat) (v : Bool) : cu_G (cs_B u k i v) = cu_G u := rfl
theorem cx_DB (u : c_St) (k i : Nat) (v : Bool) : cu_D (cs_B u k i v) = cu_D u := rfl
theorem cx_LB (u : c_St) (k i : Nat) (v : Bool) : cu_L (cs_B u k i v) = cu_L u := rfl
theorem cx_NG (u : c_St) (k i : Nat) (v : Int32) : cu_N (cs_G u k i v) = cu_N u := rfl
theorem cx_FG (u : c_St) (k i : Nat) (v : Int32) : cu_F (cs_G u k i v) = cu_F u := rfl
theorem cx_BG (u : c_St) (k i : Nat) (v : Int32) : cu_B (cs_G u k i v) = cu_B u := rfl
theorem cx_GG (u : c_St) (k i : Nat) (v : Int32) (k' j : Nat) : cu_G (cs_G u k i v) k' j = if k' = k then (if j = i then v else cu_G u k' j) else cu_G u k' j := rfl
theorem cx_DG (u : c_St) (k i : Nat) (v : Int32) : cu_D (cs_G u k i v) = cu_D u := rfl
theorem cx_LG (u : c_St) (k i : Nat) (v : Int32) : cu_L (cs_G u k i v) = cu_L u := rfl
theorem cx_ND (u : c_St) (k i : Nat) (v : Int) : cu_N (cs_D u k i v) = cu_N u := rfl
theorem cx_FD (u : c_St) (k i : Nat) (v : Int) : cu_F (cs_D u k i v) = cu_F u := rfl
theorem cx_BD (u : c_St) (k i : Nat) (v : Int) : cu_B (cs_D u k i v) = cu_B u := rfl
theorem cx_GD (u : c_St) (k i : Nat) (v : Int) : cu_G (cs_D u k i v) = cu_G u := rfl
theorem cx_DD (u : c_St) (k i : Nat) (v : Int) (k' j : Nat) : cu_D (cs_D u k i v) k' j = if k' = k then (if j = i then v else cu_D u k' j) else cu_D u k' j := rfl
theorem cx_LD (u : c_St) (k i : Nat) (v : Int) : cu_L (cs_D u k i v) = cu_L u := rfl
theorem cx_NL (u : c_St) (i : Nat) (v : Int64) : cu_N (cs_L u i v) = cu_N u := rfl
theorem cx_FL (u : c_St) (i : Nat) (v : Int64) : cu_F (cs_L u i v) = cu_F u := rfl
theorem cx_BL (u : c_St) (i : Nat) (v : Int64) : cu_B (cs_L u i v) = cu_B u := rfl
theorem cx_GL (u : c_St) (i : Nat) (v : Int64) : cu_G (cs_L u i v) = cu_G u := rfl
theorem cx_DL (u : c_St) (i : Nat) (v : Int64) : cu_D (cs_L u i v) = cu_D u := rfl
theorem cx_LL (u : c_St) (i : Nat) (v : Int64) (j : Nat) : cu_L (cs_L u i v) j = if j = i then v else cu_L u j := rfl
/-- the class ids of the int, long and boolean arrays -/
abbrev c_K : Type := ClassId × ClassId × ClassId
abbrev tC (k : c_K) : List (ClassId × FieldType) := [(k.1, .int), (k.2.1, .long), (k.2.2, .boolean)]
def wC_f0 (a : Nat → Nat) (u : c_St) : List Value := [.ref (a 1), .ref (a 2), .ref (a 3), .ref (a 4), .ref (a 5), .ref (a 6)]
def wC_f1 (a : Nat → Nat) (u : c_St) : List Value := [.ref (a 7), .ref (a 8), .ref (a 9), .ref (a 10), .ref (a 11), .ref (a 12), .ref (a 13), .ref (a 14), .int (nI (cu_N u 0))]
def wC_f2 (a : Nat → Nat) (u : c_St) : List Value := [.ref (a 15), .ref (a 16), .ref (a 17), .int (nI (cu_N u 1))]
def wC_f3 (a : Nat → Nat) (u : c_St) : List Value := [.ref (a 18), .int (nI (cu_N u 2)), .ref (a 1), .ref (a 2)]
def wC_f4 (a : Nat → Nat) (u : c_St) : List Value := [.ref (a 19), .ref (a 20), .ref (a 21), .int (nI (cu_N u 3))]
def wC_f5 (a : Nat → Nat) (u : c_St) : List Value := [.ref (a 22), .ref (a 23), .ref (a 24), .int (nI (cu_N u 4)), .ref (a 25)]
def wC (a : Nat → Nat) (k : c_K) (u : c_St) : va_W := [(a 0, .inr (5, wC_f0 a u)), (a 1, .inr (4, wC_f1 a u)), (a 2, .inr (3, wC_f2 a u)), (a 3, .inr (1, wC_f3 a u)), (a 4, .inr (0, wC_f4 a u)), (a 5, .inr (2, wC_f5 a u)), (a 6, .inl (k.2.2, 50, .inl (fun j9 => bI (cu_B u 3 j9)))), (a 7, .inl (k.1, 200, .inl (fun j9 => nI (cu_F u 0 j9)))), (a 8, .inl (k.1, 200, .inl (fun j9 => nI (cu_F u 1 j9)))), (a 9, .inl (k.1, 200, .inl (fun j9 => nI (cu_F u 2 j9)))), (a 10, .inl (k.2.1, 200, .inr (.inl (fun j9 => cu_L u j9)))), (a 11, .inl (k.1, 200, .inl (fun j9 => nI (cu_F u 3 j9)))), (a 12, .inl (k.1, 200, .inl (fun j9 => nI (cu_F u 4 j9)))), (a 13, .inl (k.1, 200, .inl (fun j9 => cu_G u 0 j9))), (a 14, .inl (k.2.2, 200, .inl (fun j9 => bI (cu_B u 0 j9)))), (a 15, .inl (k.1, 60, .inl (fun j9 => nI (cu_F u 5 j9)))), (a 16, .inl (k.1, 60, .inl (fun j9 => iI (cu_D u 0 j9)))), (a 17, .inl (k.1, 10, .inl (fun j9 => iI (cu_D u 1 j9)))), (a 18, .inl (k.1, 200, .inl (fun j9 => nI (cu_F u 6 j9)))), (a 19, .inl (k.1, 200, .inl (fun j9 => nI (cu_F u 7 j9)))), (a 20, .inl (k.1, 200, .inl (fun j9 => cu_G u 1 j9))), (a 21, .inl (k.1, 200, .inl (fun j9 => cu_G u 2 j9))), (a 22, .inl (k.1, 200, .inl (fun j9 => nI (cu_F u 8 j9)))), (a 23, .inl (k.1, 200, .inl (fun j9 => nI (cu_F u 9 j9)))), (a 24, .inl (k.2.2, 200, .inl (fun j9 => bI (cu_B u 1 j9)))), (a 25, .inl (k.2.2, 1000, .inl (fun j9 => bI (cu_B u 2 j9))))]
theorem wC_g0 (a : Nat → Nat) (k : c_K) (u : c_St) : (wC a k u)[0]? = some (a 0, .inr (5, wC_f0 a u)) := rfl
theorem wC_g1 (a : Nat → Nat) (k : c_K) (u : c_St) : (wC a k u)[1]? = some (a 1, .inr (4, wC_f1 a u)) := rfl
theorem wC_g2 (a : Nat → Nat) (k : c_K) (u : c_St) : (wC a k u)[2]? = some (a 2, .inr (3, wC_f2 a u)) := rfl
theorem wC_g3 (a : Nat → Nat) (k : c_K) (u : c_St) : (wC a k u)[3]? = some (a 3, .inr (1, wC_f3 a u)) := rfl
theorem wC_g4 (a : Nat → Nat) (k : c_K) (u : c_St) : (wC a k u)[4]? = some (a 4, .inr (0, wC_f4 a u)) := rfl
theorem wC_g5 (a : Nat → Nat) (k : c_K) (u : c_St) : (wC a k u)[5]? = some (a 5, .inr (2, wC_f5 a u)) := rfl
theorem wC_g6 (a : Nat → Nat) (k : c_K) (u : c_St) : (wC a k u)[6]? = some (a 6, .inl (k.2.2, 50, .inl (fun j9 => bI (cu_B u 3 j9)))) := rfl
theorem wC_g7 (a : Nat → Nat) (k : c_K) (u : c_St) : (wC a k u)[7]? = some (a 7, .inl (k.1, 200, .inl (fun j9 => nI (cu_F u 0 j9)))) := rfl
theorem wC_g8 (a : Nat → Nat) (k : c_K) (u : c_St) : (wC a k u)[8]? = some (a 8, .inl (k.1, 200, .inl (fun j9 => nI (cu_F u 1 j9)))) := rfl
theorem wC_g9 (a : Nat → Nat) (k : c_K) (u : c_St) : (wC a k u)[9]? = some (a 9, .inl (k.1, 200, .inl (fun j9 => nI (cu_F u 2 j9)))) := rfl
theorem wC_g10 (a : Nat → Nat) (k : c_K) (u : c_St) : (wC a k u)[10]? = some (a 10, .inl (k.2.1, 200, .inr (.inl (fun j9 => cu_L u j9)))) := rfl
theorem wC_g11 (a : Nat → Nat) (k : c_K) (u : c_St) : (wC a k u)[11]? = some (a 11, .inl (k.1, 200, .inl (fun j9 => nI (cu_F u 3 j9)))) := rfl
theorem wC_g12 (a : Nat → Nat) (k : c_K) (u : c_St) : (wC a k u)[12]? = some (a 12, .inl (k.1, 200, .inl (fun j9 => nI (cu_F u 4 j9)))) := rfl
theorem wC_g13 (a : Nat → Nat) (k : c_K) (u : c_St) : (wC a k u)[13]? = some (a 13, .inl (k.1, 200, .inl (fun j9 => cu_G u 0 j9))) := rfl
theorem wC_g14 (a : Nat → Nat) (k : c_K) (u : c_St) : (wC a k u)[14]? = some (a 14, .inl (k.2.2, 200, .inl (fun j9 => bI (cu_B u 0 j9)))) := rfl
theorem wC_g15 (a : Nat → Nat) (k : c_K) (u : c_St) : (wC a k u)[15]? = some (a 15, .inl (k.1, 60, .inl (fun j9 => nI (cu_F u 5 j9)))) := rfl
theorem wC_g16 (a : Nat → Nat) (k : c_K) (u : c_St) : (wC a k u)[16]? = some (a 16, .inl (k.1, 60, .inl (fun j9 => iI (cu_D u 0 j9)))) := rfl
theorem wC_g17 (a : Nat → Nat) (k : c_K) (u : c_St) : (wC a k u)[17]? = some (a 17, .inl (k.1, 10, .inl (fun j9 => iI (cu_D u 1 j9)))) := rfl
theorem wC_g18 (a : Nat → Nat) (k : c_K) (u : c_St) : (wC a k u)[18]? = some (a 18, .inl (k.1, 200, .inl (fun j9 => nI (cu_F u 6 j9)))) := rfl
theorem wC_g19 (a : Nat → Nat) (k : c_K) (u : c_St) : (wC a k u)[19]? = some (a 19, .inl (k.1, 200, .inl (fun j9 => nI (cu_F u 7 j9)))) := rfl
theorem wC_g20 (a : Nat → Nat) (k : c_K) (u : c_St) : (wC a k u)[20]? = some (a 20, .inl (k.1, 200, .inl (fun j9 => cu_G u 1 j9))) := rfl
theorem wC_g21 (a : Nat → Nat) (k : c_K) (u : c_St) : (wC a k u)[21]? = some (a 21, .inl (k.1, 200, .inl (fun j9 => cu_G u 2 j9))) := rfl
theorem wC_g22 (a : Nat → Nat) (k : c_K) (u : c_St) : (wC a k u)[22]? = some (a 22, .inl (k.1, 200, .inl (fun j9 => nI (cu_F u 8 j9)))) := rfl
theorem wC_g23 (a : Nat → Nat) (k : c_K) (u : c_St) : (wC a k u)[23]? = some (a 23, .inl (k.1, 200, .inl (fun j9 => nI (cu_F u 9 j9)))) := rfl
theorem wC_g24 (a : Nat → Nat) (k : c_K) (u : c_St) : (wC a k u)[24]? = some (a 24, .inl (k.2.2, 200, .inl (fun j9 => bI (cu_B u 1 j9)))) := rfl
theorem wC_g25 (a : Nat → Nat) (k : c_K) (u : c_St) : (wC a k u)[25]? = some (a 25, .inl (k.2.2, 1000, .inl (fun j9 => bI (cu_B u 2 j9)))) := rfl
theorem wC_n0 (a : Nat → Nat) (k : c_K) (u : c_St) (v : Nat) : (wC a k u).set 1 (a 1, .inr (4, (wC_f1 a u).set 8 (.int (nI v)))) = wC a k (cs_N u 0 v) := rfl
theorem wC_n1 (a : Nat → Nat) (k : c_K) (u : c_St) (v : Nat) : (wC a k u).set 2 (a 2, .inr (3, (wC_f2 a u).set 3 (.int (nI v)))) = wC a k (cs_N u 1 v) := rfl
theorem wC_n2 (a : Nat → Nat) (k : c_K) (u : c_St) (v : Nat) : (wC a k u).set 3 (a 3, .inr (1, (wC_f3 a u).set 1 (.int (nI v)))) = wC a k (cs_N u 2 v) := rfl
theorem wC_n3 (a : Nat → Nat) (k : c_K) (u : c_St) (v : Nat) : (wC a k u).set 4 (a 4, .inr (0, (wC_f4 a u).set 3 (.int (nI v)))) = wC a k (cs_N u 3 v) := rfl
theorem wC_n4 (a : Nat → Nat) (k : c_K) (u : c_St) (v : Nat) : (wC a k u).set 5 (a 5, .inr (2, (wC_f5 a u).set 3 (.int (nI v)))) = wC a k (cs_N u 4 v) := rfl
theorem wC_s6 (a : Nat → Nat) (k : c_K) (u : c_St) (i : Nat) (v : Bool) (hi : i < 2147483648) : (wC a k u).set 6 (a 6, .inl (k.2.2, 50, .inl (upd (fun j9 => bI (cu_B u 3 j9)) (nI i).toNatClampNeg (vp_nar .boolean (bI v))))) = wC a k (cs_B u 3 i v) := by
  have h : upd (fun j9 => bI (cu_B u 3 j9)) i (vp_nar .boolean (bI v)) = (fun j9 => bI (cu_B (cs_B u 3 i v) 3 j9)) := by
    funext j
    simp only [upd, cx_BB, bI_nar, if_true]
    all_goals (split <;> rfl)
  rw [nI_clamp (by omega), h]
  rfl
theorem wC_s7 (a : Nat → Nat) (k : c_K) (u : c_St) (i : Nat) (v : Nat) (hi : i < 2147483648) : (wC a k u).set 7 (a 7, .inl (k.1, 200, .inl (upd (fun j9 => nI (cu_F u 0 j9)) (nI i).toNatClampNeg (nI v)))) = wC a k (cs_F u 0 i v) := by
  have h : upd (fun j9 => nI (cu_F u 0 j9)) i (nI v) = (fun j9 => nI (cu_F (cs_F u 0 i v) 0 j9)) := by
    funext j
    simp only [upd, cx_FF, if_true]
    all_goals (split <;> rfl)
  rw [nI_clamp (by omega), h]
  rfl
theorem wC_s8 (a : Nat → Nat) (k : c_K) (u : c_St) (i : Nat) (v : Nat) (hi : i < 2147483648) : (wC a k u).set 8 (a 8, .inl (k.1, 200, .inl (upd (fun j9 => nI (cu_F u 1 j9)) (nI i).toNatClampNeg (nI v)))) = wC a k (cs_F u 1 i v) := by
  have h : upd (fun j9 => nI (cu_F u 1 j9)) i (nI v) = (fun j9 => nI (cu_F (cs_F u 1 i v) 1 j9)) := by
    funext j
    simp only [upd, cx_FF, if_true]
    all_goals (split <;> rfl)
  rw [nI_clamp (by omega), h]
  rfl
theorem wC_s9 (a : Nat → Nat) (k : c_K) (u : c_St) (i : Nat) (v : Nat) (hi : i < 2147483648) : (wC a k u).set 9 (a 9, .inl (k.1, 200, .inl (upd (fun j9 => nI (cu_F u 2 j9)) (nI i).toNatClampNeg (nI v)))) = wC a k (cs_F u 2 i v) := by
  have h : upd (fun j9 => nI (cu_F u 2 j9)) i (nI v) = (fun j9 => nI (cu_F (cs_F u 2 i v) 2 j9)) := by
    funext j
    simp only [upd, cx_FF, if_true]
    all_goals (split <;> rfl)
  rw [nI_clamp (by omega), h]
  rfl
theorem wC_s10 (a : Nat → Nat) (k : c_K) (u : c_St) (i : Nat) (v : Int64) (hi : i < 2147483648) : (wC a k u).set 10 (a 10, .inl (k.2.1, 200, .inr (.inl (vp_updL (fun j9 => cu_L u j9) (nI i).toNatClampNeg v)))) = wC a k (cs_L u i v) := by
  have h : vp_updL (fun j9 => cu_L u j9) i v = (fun j9 => cu_L (cs_L u i v) j9) := by
    funext j
    simp only [vp_updL, cx_LL, if_true]
    all_goals (split <;> rfl)
  rw [nI_clamp (by omega), h]
  rfl
theorem wC_s11 (a : Nat → Nat) (k : c_K) (u : c_St) (i : Nat) (v : Nat) (hi : i < 2147483648) : (wC a k u).set 11 (a 11, .inl (k.1, 200, .inl (upd (fun j9 => nI (cu_F u 3 j9)) (nI i).toNatClampNeg (nI v)))) = wC a k (cs_F u 3 i v) := by
  have h : upd (fun j9 => nI (cu_F u 3 j9)) i (nI v) = (fun j9 => nI (cu_F (cs_F u 3 i v) 3 j9)) := by
    funext j
    simp only [upd, cx_FF, if_true]
    all_goals (split <;> rfl)
  rw [nI_clamp (by omega), h]
  rfl
theorem wC_s12 (a : Nat → Nat) (k : c_K) (u : c_St) (i : Nat) (v : Nat) (hi : i < 2147483648) : (wC a k u).set 12 (a 12, .inl (k.1, 200, .inl (upd (fun j9 => nI (cu_F u 4 j9)) (nI i).toNatClampNeg (nI v)))) = wC a k (cs_F u 4 i v) := by
  have h : upd (fun j9 => nI (cu_F u 4 j9)) i (nI v) = (fun j9 => nI (cu_F (cs_F u 4 i v) 4 j9)) := by
    funext j
    simp only [upd, cx_FF, if_true]
    all_goals (split <;> rfl)
  rw [nI_clamp (by omega), h]
  rfl
theorem wC_s13 (a : Nat → Nat) (k : c_K) (u : c_St) (i : Nat) (v : Int32) (hi : i < 2147483648) : (wC a k u).set 13 (a 13, .inl (k.1, 200, .inl (upd (fun j9 => cu_G u 0 j9) (nI i).toNatClampNeg v))) = wC a k (cs_G u 0 i v) := by
  have h : upd (fun j9 => cu_G u 0 j9) i v = (fun j9 => cu_G (cs_G u 0 i v) 0 j9) := by
    funext j
    simp only [upd, cx_GG, if_true]
    all_goals (split <;> rfl)
  rw [nI_clamp (by omega), h]
  rfl
theorem wC_s14 (a : Nat → Nat) (k : c_K) (u : c_St) (i : Nat) (v : Bool) (hi : i < 2147483648) : (wC a k u).set 14 (a 14, .inl (k.2.2, 200, .inl (upd (fun j9 => bI (cu_B u 0 j9)) (nI i).toNatClampNeg (vp_nar .boolean (bI v))))) = wC a k (cs_B u 0 i v) := by
  have h : upd (fun j9 => bI (cu_B u 0 j9)) i (vp_nar .boolean (bI v)) = (fun j9 => bI (cu_B (cs_B u 0 i v) 0 j9)) := by
    funext j
    simp only [upd, cx_BB, bI_nar, if_true]
    all_goals (split <;> rfl)
  rw [nI_clamp (by omega), h]
  rfl
theorem wC_s15 (a : Nat → Nat) (k : c_K) (u : c_St) (i : Nat) (v : Nat) (hi : i < 2147483648) : (wC a k u).set 15 (a 15, .inl (k.1, 60, .inl (upd (fun j9 => nI (cu_F u 5 j9)) (nI i).toNatClampNeg (nI v)))) = wC a k (cs_F u 5 i v) := by
  have h : upd (fun j9 => nI (cu_F u 5 j9)) i (nI v) = (fun j9 => nI (cu_F (cs_F u 5 i v) 5 j9)) := by
    funext j
    simp only [upd, cx_FF, if_true]
    all_goals (split <;> rfl)
  rw [nI_clamp (by omega), h]
  rfl
theorem wC_s16 (a : Nat → Nat) (k : c_K) (u : c_St) (i : Nat) (v : Int) (hi : i < 2147483648) : (wC a k u).set 16 (a 16, .inl (k.1, 60, .inl (upd (fun j9 => iI (cu_D u 0 j9)) (nI i).toNatClampNeg (iI v)))) = wC a k (cs_D u 0 i v) := by
  have h : upd (fun j9 => iI (cu_D u 0 j9)) i (iI v) = (fun j9 => iI (cu_D (cs_D u 0 i v) 0 j9)) := by
    funext j
    simp only [upd, cx_DD, if_true]
    all_goals (split <;> rfl)
  rw [nI_clamp (by omega), h]
  rfl
theorem wC_s17 (a : Nat → Nat) (k : c_K) (u : c_St) (i : Nat) (v : Int) (hi : i < 2147483648) : (wC a k u).set 17 (a 17, .inl (k.1, 10, .inl (upd (fun j9 => iI (cu_D u 1 j9)) (nI i).toNatClampNeg (iI v)))) = wC a k (cs_D u 1 i v) := by
  have h : upd (fun j9 => iI (cu_D u 1 j9)) i (iI v) = (fun j9 => iI (cu_D (cs_D u 1 i v) 1 j9)) := by
    funext j
    simp only [upd, cx_DD, if_true]
    all_goals (split <;> rfl)
  rw [nI_clamp (by omega), h]
  rfl
theorem wC_s18 (a : Nat → Nat) (k : c_K) (u : c_St) (i : Nat) (v : Nat) (hi : i < 2147483648) : (wC a k u).set 18 (a 18, .inl (k.1, 200, .inl (upd (fun j9 => nI (cu_F u 6 j9)) (nI i).toNatClampNeg (nI v)))) = wC a k (cs_F u 6 i v) := by
  have h : upd (fun j9 => nI (cu_F u 6 j9)) i (nI v) = (fun j9 => nI (cu_F (cs_F u 6 i v) 6 j9)) := by
    funext j
    simp only [upd, cx_FF, if_true]
    all_goals (split <;> rfl)
  rw [nI_clamp (by omega), h]
  rfl
theorem wC_s19 (a : Nat → Nat) (k : c_K) (u : c_St) (i : Nat) (v : Nat) (hi : i < 2147483648) : (wC a k u).set 19 (a 19, .inl (k.1, 200, .inl (upd (fun j9 => nI (cu_F u 7 j9)) (nI i).toNatClampNeg (nI v)))) = wC a k (cs_F u 7 i v) := by
  have h : upd (fun j9 => nI (cu_F u 7 j9)) i (nI v) = (fun j9 => nI (cu_F (cs_F u 7 i v) 7 j9)) := by
    funext j
    simp only [upd, cx_FF, if_true]
    all_goals (split <;> rfl)
  rw [nI_clamp (by omega), h]
  rfl
theorem wC_s20 (a : Nat → Nat) (k : c_K) (u : c_St) (i : Nat) (v : Int32) (hi : i < 2147483648) : (wC a k u).set 20 (a 20, .inl (k.1, 200, .inl (upd (fun j9 => cu_G u 1 j9) (nI i).toNatClampNeg v))) = wC a k (cs_G u 1 i v) := by
  have h : upd (fun j9 => cu_G u 1 j9) i v = (fun j9 => cu_G (cs_G u 1 i v) 1 j9) := by
    funext j
    simp only [upd, cx_GG, if_true]
    all_goals (split <;> rfl)
  rw [nI_clamp (by omega), h]
  rfl
theorem wC_s21 (a : Nat → Nat) (k : c_K) (u : c_St) (i : Nat) (v : Int32) (hi : i < 2147483648) : (wC a k u).set 21 (a 21, .inl (k.1, 200, .inl (upd (fun j9 => cu_G u 2 j9) (nI i).toNatClampNeg v))) = wC a k (cs_G u 2 i v) := by
  have h : upd (fun j9 => cu_G u 2 j9) i v = (fun j9 => cu_G (cs_G u 2 i v) 2 j9) := by
    funext j
    simp only [upd, cx_GG, if_true]
    all_goals (split <;> rfl)
  rw [nI_clamp (by omega), h]
  rfl
theorem wC_s22 (a : Nat → Nat) (k : c_K) (u : c_St) (i : Nat) (v : Nat) (hi : i < 2147483648) : (wC a k u).set 22 (a 22, .inl (k.1, 200, .inl (upd (fun j9 => nI (cu_F u 8 j9)) (nI i).toNatClampNeg (nI v)))) = wC a k (cs_F u 8 i v) := by
  have h : upd (fun j9 => nI (cu_F u 8 j9)) i (nI v) = (fun j9 => nI (cu_F (cs_F u 8 i v) 8 j9)) := by
    funext j
    simp only [upd, cx_FF, if_true]
    all_goals (split <;> rfl)
  rw [nI_clamp (by omega), h]
  rfl
theorem wC_s23 (a : Nat → Nat) (k : c_K) (u : c_St) (i : Nat) (v : Nat) (hi : i < 2147483648) : (wC a k u).set 23 (a 23, .inl (k.1, 200, .inl (upd (fun j9 => nI (cu_F u 9 j9)) (nI i).toNatClampNeg (nI v)))) = wC a k (cs_F u 9 i v) := by
  have h : upd (fun j9 => nI (cu_F u 9 j9)) i (nI v) = (fun j9 => nI (cu_F (cs_F u 9 i v) 9 j9)) := by
    funext j
    simp only [upd, cx_FF, if_true]
    all_goals (split <;> rfl)
  rw [nI_clamp (by omega), h]
  rfl
theorem wC_s24 (a : Nat → Nat) (k : c_K) (u : c_St) (i : Nat) (v : Bool) (hi : i < 2147483648) : (wC a k u).set 24 (a 24, .inl (k.2.2, 200, .inl (upd (fun j9 => bI (cu_B u 1 j9)) (nI i).toNatClampNeg (vp_nar .boolean (bI v))))) = wC a k (cs_B u 1 i v) := by
  have h : upd (fun j9 => bI (cu_B u 1 j9)) i (vp_nar .boolean (bI v)) = (fun j9 => bI (cu_B (cs_B u 1 i v) 1 j9)) := by
    funext j
    simp only [upd, cx_BB, bI_nar, if_true]
    all_goals (split <;> rfl)
  rw [nI_clamp (by omega), h]
  rfl
theorem wC_s25 (a : Nat → Nat) (k : c_K) (u : c_St) (i : Nat) (v : Bool) (hi : i < 2147483648) : (wC a k u).set 25 (a 25, .inl (k.2.2, 1000, .inl (upd (fun j9 => bI (cu_B u 2 j9)) (nI i).toNatClampNeg (vp_nar .boolean (bI v))))) = wC a k (cs_B u 2 i v) := by
  have h : upd (fun j9 => bI (cu_B u 2 j9)) i (vp_nar .boolean (bI v)) = (fun j9 => bI (cu_B (cs_B u 2 i v) 2 j9)) := by
    funext j
    simp only [upd, cx_BB, bI_nar, if_true]
    all_goals (split <;> rfl)
  rw [nI_clamp (by omega), h]
  rfl
def wR_f0 (a : Nat → Nat) (u : c_St) : List Value := [.int (nI (cu_N u 4)), .int (nI (cu_N u 0)), .ref (a 1), .ref (a 2), .ref (a 3), .ref (a 14), .ref (a 4), .ref (a 5), .ref (a 12), .ref (a 9), .int (nI (cu_N u 1)), .ref (a 6), .ref (a 15), .ref (a 10), .ref (a 11), .int (nI (cu_N u 2)), .ref (a 7), .ref (a 13), .int (nI (cu_N u 3)), .ref (a 8)]
def wR (a : Nat → Nat) (k : c_K) (u : c_St) : va_W := [(a 0, .inr (6, wR_f0 a u)), (a 1, .inl (k.1, 200, .inl (fun j9 => nI (cu_F u 0 j9)))), (a 2, .inl (k.1, 200, .inl (fun j9 => nI (cu_F u 1 j9)))), (a 3, .inl (k.1, 200, .inl (fun j9 => nI (cu_F u 2 j9)))), (a 4, .inl (k.1, 200, .inl (fun j9 => nI (cu_F u 3 j9)))), (a 5, .inl (k.1, 200, .inl (fun j9 => nI (cu_F u 4 j9)))), (a 6, .inl (k.1, 60, .inl (fun j9 => nI (cu_F u 5 j9)))), (a 7, .inl (k.1, 200, .inl (fun j9 => nI (cu_F u 6 j9)))), (a 8, .inl (k.1, 600, .inl (fun j9 => nI (cu_F u 7 j9)))), (a 9, .inl (k.2.2, 200, .inl (fun j9 => bI (cu_B u 0 j9)))), (a 10, .inl (k.2.2, 50, .inl (fun j9 => bI (cu_B u 1 j9)))), (a 11, .inl (k.2.2, 1000, .inl (fun j9 => bI (cu_B u 2 j9)))), (a 12, .inl (k.1, 200, .inl (fun j9 => cu_G u 0 j9))), (a 13, .inl (k.1, 200, .inl (fun j9 => cu_G u 1 j9))), (a 14, .inl (k.1, 1600, .inl (fun j9 => cu_G u 2 j9))), (a 15, .inl (k.1, 60, .inl (fun j9 => iI (cu_D u 0 j9))))]
theorem wR_g0 (a : Nat → Nat) (k : c_K) (u : c_St) : (wR a k u)[0]? = some (a 0, .inr (6, wR_f0 a u)) := rfl
theorem wR_g1 (a : Nat → Nat) (k : c_K) (u : c_St) : (wR a k u)[1]? = some (a 1, .inl (k.1, 200, .inl (fun j9 => nI (cu_F u 0 j9)))) := rfl
theorem wR_g2 (a : Nat → Nat) (k : c_K) (u : c_St) : (wR a k u)[2]? = some (a 2, .inl (k.1, 200, .inl (fun j9 => nI (cu_F u 1 j9)))) := rfl
theorem wR_g3 (a : Nat → Nat) (k : c_K) (u : c_St) : (wR a k u)[3]? = some (a 3, .inl (k.1, 200, .inl (fun j9 => nI (cu_F u 2 j9)))) := rfl
theorem wR_g4 (a : Nat → Nat) (k : c_K) (u : c_St) : (wR a k u)[4]? = some (a 4, .inl (k.1, 200, .inl (fun j9 => nI (cu_F u 3 j9)))) := rfl
theorem wR_g5 (a : Nat → Nat) (k : c_K) (u : c_St) : (wR a k u)[5]? = some (a 5, .inl (k.1, 200, .inl (fun j9 => nI (cu_F u 4 j9)))) := rfl
theorem wR_g6 (a : Nat → Nat) (k : c_K) (u : c_St) : (wR a k u)[6]? = some (a 6, .inl (k.1, 60, .inl (fun j9 => nI (cu_F u 5 j9)))) := rfl
theorem wR_g7 (a : Nat → Nat) (k : c_K) (u : c_St) : (wR a k u)[7]? = some (a 7, .inl (k.1, 200, .inl (fun j9 => nI (cu_F u 6 j9)))) := rfl
theorem wR_g8 (a : Nat → Nat) (k : c_K) (u : c_St) : (wR a k u)[8]? = some (a 8, .inl (k.1, 600, .inl (fun j9 => nI (cu_F u 7 j9)))) := rfl
theorem wR_g9 (a : Nat → Nat) (k : c_K) (u : c_St) : (wR a k u)[9]? = some (a 9, .inl (k.2.2, 200, .inl (fun j9 => bI (cu_B u 0 j9)))) := rfl
theorem wR_g10 (a : Nat → Nat) (k : c_K) (u : c_St) : (wR a k u)[10]? = some (a 10, .inl (k.2.2, 50, .inl (fun j9 => bI (cu_B u 1 j9)))) := rfl
theorem wR_g11 (a : Nat → Nat) (k : c_K) (u : c_St) : (wR a k u)[11]? = some (a 11, .inl (k.2.2, 1000, .inl (fun j9 => bI (cu_B u 2 j9)))) := rfl
theorem wR_g12 (a : Nat → Nat) (k : c_K) (u : c_St) : (wR a k u)[12]? = some (a 12, .inl (k.1, 200, .inl (fun j9 => cu_G u 0 j9))) := rfl
theorem wR_g13 (a : Nat → Nat) (k : c_K) (u : c_St) : (wR a k u)[13]? = some (a 13, .inl (k.1, 200, .inl (fun j9 => cu_G u 1 j9))) := rfl
theorem wR_g14 (a : Nat → Nat) (k : c_K) (u : c_St) : (wR a k u)[14]? = some (a 14, .inl (k.1, 1600, .inl (fun j9 => cu_G u 2 j9))) := rfl
theorem wR_g15 (a : Nat → Nat) (k : c_K) (u : c_St) : (wR a k u)[15]? = some (a 15, .inl (k.1, 60, .inl (fun j9 => iI (cu_D u 0 j9)))) := rfl
theorem wR_n4 (a : Nat → Nat) (k : c_K) (u : c_St) (v : Nat) : (wR a k u).set 0 (a 0, .inr (6, (wR_f0 a u).set 0 (.int (nI v)))) = wR a k (cs_N u 4 v) := rfl
theorem wR_n0 (a : Nat → Nat) (k : c_K) (u : c_St) (v : Nat) : (wR a k u).set 0 (a 0, .inr (6, (wR_f0 a u).set 1 (.int (nI v)))) = wR a k (cs_N u 0 v) := rfl
theorem wR_n1 (a : Nat → Nat) (k : c_K) (u : c_St) (v : Nat) : (wR a k u).set 0 (a 0, .inr (6, (wR_f0 a u).set 10 (.int (nI v)))) = wR a k (cs_N u 1 v) := rfl
theorem wR_n2 (a : Nat → Nat) (k : c_K) (u : c_St) (v : Nat) : (wR a k u).set 0 (a 0, .inr (6, (wR_f0 a u).set 15 (.int (nI v)))) = wR a k (cs_N u 2 v) := rfl
theorem wR_n3 (a : Nat → Nat) (k : c_K) (u : c_St) (v : Nat) : (wR a k u).set 0 (a 0, .inr (6, (wR_f0 a u).set 18 (.int (nI v)))) = wR a k (cs_N u 3 v) := rfl
theorem wR_s1 (a : Nat → Nat) (k : c_K) (u : c_St) (i : Nat) (v : Nat) (hi : i < 2147483648) : (wR a k u).set 1 (a 1, .inl (k.1, 200, .inl (upd (fun j9 => nI (cu_F u 0 j9)) (nI i).toNatClampNeg (nI v)))) = wR a k (cs_F u 0 i v) := by
  have h : upd (fun j9 => nI (cu_F u 0 j9)) i (nI v) = (fun j9 => nI (cu_F (cs_F u 0 i v) 0 j9)) := by
    funext j
    simp only [upd, cx_FF, if_true]
    all_goals (split <;> rfl)
  rw [nI_clamp (by omega), h]
  rfl
theorem wR_s2 (a : Nat → Nat) (k : c_K) (u : c_St) (i : Nat) (v : Nat) (hi : i < 2147483648) : (wR a k u).set 2 (a 2, .inl (k.1, 200, .inl (upd (fun j9 => nI (cu_F u 1 j9)) (nI i).toNatClampNeg (nI v)))) = wR a k (cs_F u 1 i v) := by
  have h : upd (fun j9 => nI (cu_F u 1 j9)) i (nI v) = (fun j9 => nI (cu_F (cs_F u 1 i v) 1 j9)) := by
    funext j
    simp only [upd, cx_FF, if_true]
    all_goals (split <;> rfl)
  rw [nI_clamp (by omega), h]
  rfl
theorem wR_s3 (a : Nat → Nat) (k : c_K) (u : c_St) (i : Nat) (v : Nat) (hi : i < 2147483648) : (wR a k u).set 3 (a 3, .inl (k.1, 200, .inl (upd (fun j9 => nI (cu_F u 2 j9)) (nI i).toNatClampNeg (nI v)))) = wR a k (cs_F u 2 i v) := by
  have h : upd (fun j9 => nI (cu_F u 2 j9)) i (nI v) = (fun j9 => nI (cu_F (cs_F u 2 i v) 2 j9)) := by
    funext j
    simp only [upd, cx_FF, if_true]
    all_goals (split <;> rfl)
  rw [nI_clamp (by omega), h]
  rfl
theorem wR_s4 (a : Nat → Nat) (k : c_K) (u : c_St) (i : Nat) (v : Nat) (hi : i < 2147483648) : (wR a k u).set 4 (a 4, .inl (k.1, 200, .inl (upd (fun j9 => nI (cu_F u 3 j9)) (nI i).toNatClampNeg (nI v)))) = wR a k (cs_F u 3 i v) := by
  have h : upd (fun j9 => nI (cu_F u 3 j9)) i (nI v) = (fun j9 => nI (cu_F (cs_F u 3 i v) 3 j9)) := by
    funext j
    simp only [upd, cx_FF, if_true]
    all_goals (split <;> rfl)
  rw [nI_clamp (by omega), h]
  rfl
theorem wR_s5 (a : Nat → Nat) (k : c_K) (u : c_St) (i : Nat) (v : Nat) (hi : i < 2147483648) : (wR a k u).set 5 (a 5, .inl (k.1, 200, .inl (upd (fun j9 => nI (cu_F u 4 j9)) (nI i).toNatClampNeg (nI v)))) = wR a k (cs_F u 4 i v) := by
  have h : upd (fun j9 => nI (cu_F u 4 j9)) i (nI v) = (fun j9 => nI (cu_F (cs_F u 4 i v) 4 j9)) := by
    funext j
    simp only [upd, cx_FF, if_true]
    all_goals (split <;> rfl)
  rw [nI_clamp (by omega), h]
  rfl
theorem wR_s6 (a : Nat → Nat) (k : c_K) (u : c_St) (i : Nat) (v : Nat) (hi : i < 2147483648) : (wR a k u).set 6 (a 6, .inl (k.1, 60, .inl (upd (fun j9 => nI (cu_F u 5 j9)) (nI i).toNatClampNeg (nI v)))) = wR a k (cs_F u 5 i v) := by
  have h : upd (fun j9 => nI (cu_F u 5 j9)) i (nI v) = (fun j9 => nI (cu_F (cs_F u 5 i v) 5 j9)) := by
    funext j
    simp only [upd, cx_FF, if_true]
    all_goals (split <;> rfl)
  rw [nI_clamp (by omega), h]
  rfl
theorem wR_s7 (a : Nat → Nat) (k : c_K) (u : c_St) (i : Nat) (v : Nat) (hi : i < 2147483648) : (wR a k u).set 7 (a 7, .inl (k.1, 200, .inl (upd (fun j9 => nI (cu_F u 6 j9)) (nI i).toNatClampNeg (nI v)))) = wR a k (cs_F u 6 i v) := by
  have h : upd (fun j9 => nI (cu_F u 6 j9)) i (nI v) = (fun j9 => nI (cu_F (cs_F u 6 i v) 6 j9)) := by
    funext j
    simp only [upd, cx_FF, if_true]
    all_goals (split <;> rfl)
  rw [nI_clamp (by omega), h]
  rfl
theorem wR_s8 (a : Nat → Nat) (k : c_K) (u : c_St) (i : Nat) (v : Nat) (hi : i < 2147483648) : (wR a k u).set 8 (a 8, .inl (k.1, 600, .inl (upd (fun j9 => nI (cu_F u 7 j9)) (nI i).toNatClampNeg (nI v)))) = wR a k (cs_F u 7 i v) := by
  have h : upd (fun j9 => nI (cu_F u 7 j9)) i (nI v) = (fun j9 => nI (cu_F (cs_F u 7 i v) 7 j9)) := by
    funext j
    simp only [upd, cx_FF, if_true]
    all_goals (split <;> rfl)
  rw [nI_clamp (by omega), h]
  rfl
theorem wR_s9 (a : Nat → Nat) (k : c_K) (u : c_St) (i : Nat) (v : Bool) (hi : i < 2147483648) : (wR a k u).set 9 (a 9, .inl (k.2.2, 200, .inl (upd (fun j9 => bI (cu_B u 0 j9)) (nI i).toNatClampNeg (vp_nar .boolean (bI v))))) = wR a k (cs_B u 0 i v) := by
  have h : upd (fun j9 => bI (cu_B u 0 j9)) i (vp_nar .boolean (bI v)) = (fun j9 => bI (cu_B (cs_B u 0 i v) 0 j9)) := by
    funext j
    simp only [upd, cx_BB, bI_nar, if_true]
    all_goals (split <;> rfl)
  rw [nI_clamp (by omega), h]
  rfl
theorem wR_s10 (a : Nat → Nat) (k : c_K) (u : c_St) (i : Nat) (v : Bool) (hi : i < 2147483648) : (wR a k u).set 10 (a 10, .inl (k.2.2, 50, .inl (upd (fun j9 => bI (cu_B u 1 j9)) (nI i).toNatClampNeg (vp_nar .boolean (bI v))))) = wR a k (cs_B u 1 i v) := by
  have h : upd (fun j9 => bI (cu_B u 1 j9)) i (vp_nar .boolean (bI v)) = (fun j9 => bI (cu_B (cs_B u 1 i v) 1 j9)) := by
    funext j
    simp only [upd, cx_BB, bI_nar, if_true]
    all_goals (split <;> rfl)
  rw [nI_clamp (by omega), h]
  rfl
theorem wR_s11 (a : Nat → Nat) (k : c_K) (u : c_St) (i : Nat) (v : Bool) (hi : i < 2147483648) : (wR a k u).set 11 (a 11, .inl (k.2.2, 1000, .inl (upd (fun j9 => bI (cu_B u 2 j9)) (nI i).toNatClampNeg (vp_nar .boolean (bI v))))) = wR a k (cs_B u 2 i v) := by
  have h : upd (fun j9 => bI (cu_B u 2 j9)) i (vp_nar .boolean (bI v)) = (fun j9 => bI (cu_B (cs_B u 2 i v) 2 j9)) := by
    funext j
    simp only [upd, cx_BB, bI_nar, if_true]
    all_goals (split <;> rfl)
  rw [nI_clamp (by omega), h]
  rfl
theorem wR_s12 (a : Nat → Nat) (k : c_K) (u : c_St) (i : Nat) (v : Int32) (hi : i < 2147483648) : (wR a k u).set 12 (a 12, .inl (k.1, 200, .inl (upd (fun j9 => cu_G u 0 j9) (nI i).toNatClampNeg v))) = wR a k (cs_G u 0 i v) := by
  have h : upd (fun j9 => cu_G u 0 j9) i v = (fun j9 => cu_G (cs_G u 0 i v) 0 j9) := by
    funext j
    simp only [upd, cx_GG, if_true]
    all_goals (split <;> rfl)
  rw [nI_clamp (by omega), h]
  rfl
theorem wR_s13 (a : Nat → Nat) (k : c_K) (u : c_St) (i : Nat) (v : Int32) (hi : i < 2147483648) : (wR a k u).set 13 (a 13, .inl (k.1, 200, .inl (upd (fun j9 => cu_G u 1 j9) (nI i).toNatClampNeg v))) = wR a k (cs_G u 1 i v) := by
  have h : upd (fun j9 => cu_G u 1 j9) i v = (fun j9 => cu_G (cs_G u 1 i v) 1 j9) := by
    funext j
    simp only [upd, cx_GG, if_true]
    all_goals (split <;> rfl)
  rw [nI_clamp (by omega), h]
  rfl
theorem wR_s14 (a : Nat → Nat) (k : c_K) (u : c_St) (i : Nat) (v : Int32) (hi : i < 2147483648) : (wR a k u).set 14 (a 14, .inl (k.1, 1600, .inl (upd (fun j9 => cu_G u 2 j9) (nI i).toNatClampNeg v))) = wR a k (cs_G u 2 i v) := by
  have h : upd (fun j9 => cu_G u 2 j9) i v = (fun j9 => cu_G (cs_G u 2 i v) 2 j9) := by
    funext j
    simp only [upd, cx_GG, if_true]
    all_goals (split <;> rfl)
  rw [nI_clamp (by omega), h]
  rfl
theorem wR_s15 (a : Nat → Nat) (k : c_K) (u : c_St) (i : Nat) (v : Int) (hi : i < 2147483648) : (wR a k u).set 15 (a 15, .inl (k.1, 60, .inl (upd (fun j9 => iI (cu_D u 0 j9)) (nI i).toNatClampNeg (iI v)))) = wR a k (cs_D u 0 i v) := by
  have h : upd (fun j9 => iI (cu_D u 0 j9)) i (iI v) = (fun j9 => iI (cu_D (cs_D u 0 i v) 0 j9)) := by
    funext j
    simp only [upd, cx_DD, if_true]
    all_goals (split <;> rfl)
  rw [nI_clamp (by omega), h]
  rfl
end
section
/-! the class's reading helpers in numbers -/
def c_off (u : c_St) (s : Nat) : Int := if cu_D u 1 s = -1 then 0 else cu_D u 0 (cu_D u 1 s).toNat
def c_beg (u : c_St) (n : Nat) : Int := (cu_F u 1 n : Int) + c_off u (cu_F u 0 n)
def c_byte (b : Int64) (sh : Int32) : Int32 := (b.toUInt64 >>> (sh.toInt64.toUInt64 &&& Int64.toUInt64 63)).toInt64.toInt32 &&& 255
def c_rot (x : Int32) : Int32 := ((x <<< ((5 : Int32) &&& 31)) ||| (x.toUInt32 >>> ((27 : Int32).toUInt32 &&& Int32.toUInt32 31)).toInt32) * (-2048144789)
def c_sm (b : Int64) (L : Nat) (s : Int32) (i : Nat) : Nat → Int32
  | 0 => s
  | k + 1 => c_rot (c_sm b L s i k ^^^ c_byte b (nI (8 * (L - 1 - (i + k)))))
/-- how many of a slot's bytes are before a time -/
def c_bb (u : c_St) (n : Nat) (t : Int32) : Nat := (min (max (t.toInt - c_beg u n) 0) (cu_F u 2 n : Int)).toNat
def c_lt (u : c_St) (x y : Nat) : Bool := decide (c_beg u x < c_beg u y ∨ (c_beg u x = c_beg u y ∧ (cu_F u 0 x < cu_F u 0 y ∨ (cu_F u 0 x = cu_F u 0 y ∧ x < y))))
def c_of (u : c_St) (n : Nat) (au ai : Int32) : Bool := decide ((au = -1 ∨ au = nI (cu_F u 3 n)) ∧ (ai = -1 ∨ ai = nI (cu_F u 4 n)))
/-- what always holds of the numbers -/
def c_ok (u : c_St) : Prop := cu_N u 0 ≤ 200 ∧ cu_N u 1 ≤ 60 ∧
  (∀ n, n < cu_N u 0 → cu_F u 0 n < 10 ∧ cu_F u 1 n ≤ 9999999 ∧ 1 ≤ cu_F u 2 n ∧ cu_F u 2 n ≤ 8 ∧ cu_F u 3 n < 100 ∧ cu_F u 4 n < 50) ∧
  (∀ j, j < cu_N u 1 → cu_F u 5 j < 10 ∧ -9999999 ≤ cu_D u 0 j ∧ cu_D u 0 j ≤ 9999999) ∧
  (∀ s, s < 10 → cu_D u 1 s = -1 ∨ ∃ j : Nat, j < cu_N u 1 ∧ cu_D u 1 s = (j : Int))
theorem nI_m1 {j : Nat} (h : j < 2147483648) : nI j ≠ -1 := by
  intro q
  have h1 := congrArg Int32.toInt q
  rw [nI_toInt (by omega)] at h1
  have h2 : (-1 : Int32).toInt = -1 := by decide
  rw [h2] at h1
  omega
theorem c_off_b {u : c_St} (h : c_ok u) {s : Nat} (hs : s < 10) : -9999999 ≤ c_off u s ∧ c_off u s ≤ 9999999 := by
  obtain ⟨-, -, -, h4, h5⟩ := h
  unfold c_off
  split
  · omega
  · rename_i h9
    rcases h5 s hs with q | ⟨j, hj, q⟩
    · exact absurd q h9
    · rw [q, Int.toNat_natCast]
      exact (h4 j hj).2
theorem c_beg_b {u : c_St} (h : c_ok u) {n : Nat} (hn : n < cu_N u 0) : -9999999 ≤ c_beg u n ∧ c_beg u n ≤ 19999998 := by
  have h1 := h.2.2.1 n hn
  have h2 := c_off_b h h1.1
  unfold c_beg
  omega
theorem c_bb_le (u : c_St) (n : Nat) (t : Int32) : c_bb u n t ≤ cu_F u 2 n := by
  unfold c_bb
  omega
theorem c_bb_eq {b : Int} {L : Nat} {t : Int32} (h1 : -9999999 ≤ b) (h2 : b ≤ 19999998) (h3 : L ≤ 8) : (if iI b < (if iI (b + (L : Int)) < t then iI (b + (L : Int)) else t) then (if iI (b + (L : Int)) < t then iI (b + (L : Int)) else t) else iI b) - iI b = nI (min (max (t.toInt - b) 0) (L : Int)).toNat := by
  have ht := i32_b t
  obtain ⟨z, hz⟩ : ∃ z, z = t.toInt := ⟨_, rfl⟩
  have et : t = iI z := by rw [hz]; exact iI_self t
  rw [← hz] at ht ⊢
  rw [et]
  have e1 : (iI (b + (L : Int)) < iI z) ↔ b + L < z := iI_lt (by omega) (by omega) (by omega) (by omega)
  by_cases c1 : b + (L : Int) < z
  · rw [if_pos (e1.mpr c1)]
    have e2 : (iI b < iI (b + (L : Int))) ↔ b < b + L := iI_lt (by omega) (by omega) (by omega) (by omega)
    by_cases c2 : b < b + (L : Int)
    · rw [if_pos (e2.mpr c2), iI_sub, nI_iI]
      congr 1
      omega
    · rw [if_neg (fun q => c2 (e2.mp q)), iI_sub, nI_iI]
      congr 1
      omega
  · rw [if_neg (fun q => c1 (e1.mp q))]
    have e2 : (iI b < iI z) ↔ b < z := iI_lt (by omega) (by omega) (by omega) (by omega)
    by_cases c2 : b < z
    · rw [if_pos (e2.mpr c2), iI_sub, nI_iI]
      congr 1
      omega
    · rw [if_neg (fun q => c2 (e2.mp q)), iI_sub, nI_iI]
      congr 1
      omega
theorem c_wi_eq {a b : Nat} (ha : a ≤ 8) (hb : b ≤ 8) : (if (0 : Int32) < nI a - nI b then nI a - nI b else 0) = nI (a - b) := by
  rw [nI_iI a, nI_iI b, iI_sub, nI_iI (a - b)]
  have e0 : (0 : Int32) = iI 0 := rfl
  rw [e0]
  have e2 : (iI 0 < iI ((a : Int) - b)) ↔ 0 < (a : Int) - b := iI_lt (by omega) (by omega) (by omega) (by omega)
  by_cases c2 : 0 < (a : Int) - b
  · rw [if_pos (e2.mpr c2)]
    congr 1
    omega
  · rw [if_neg (fun q => c2 (e2.mp q))]
    congr 1
    omega

set_option maxHeartbeats 4000000 in
set_option maxRecDepth 100000 in
theorem c_X4_shiftOf (l : Launch) (dC : Nat → ClassId) (dI : Nat → Nat → Nat) (a : Nat → Nat) (k : c_K) (u : c_St) (n i : Nat) (hn : n < 200) (hi : i < cu_F u 2 n) : Met l yX4_shiftOf wsX4_shiftOf ({ frames := 0, cells := 0, slots := 0, locals := 0 }) (va_Pc [.ref (a 1), .int (nI n), .int (nI i)] (w_ro (dC, dI) vwCl (wC a k u) (tC k))) (vp_Si (fun r => r = nI (8 * (cu_F u 2 n - 1 - i)))) 0 0 (fun _ => False) := by
  refine Met.ofW (cc := cX4_shiftOf) (maxL := 3) (ret := (some .int)) (by decide) rfl ?_
  intro p e s m args below meth c s₁ B hml hv
  obtain ⟨rfl, hP, hK⟩ := hv
  have hx := B.exec
  have hb := B.bytes
  have hr := B.returns
  have hts := atoms_spec (ws := wsX4_shiftOf) B.pre
  have htg : ∀ w ∈ wG, w.before _ s = true := fun w h => hts w (List.mem_cons_of_mem _ h)
  have hown : s.vm.findClass RX4 = some m.cls := findClass_of_methodNamed B.named
  have hlocks := B.notSynchronized
  have hl := lv_entry ([.ref (a 1), .int (nI n), .int (nI i)]) (n := 3) (Nat.le_of_ble_eq_true rfl)
  rw [lg_entry_eq]
  generalize (lg_sl ([.ref (a 1), .int (nI n), .int (nI i)]) ++ List.replicate (3 - (lg_sl ([.ref (a 1), .int (nI n), .int (nI i)])).length) Slot.unset).toArray = ls at hl ⊢
  have hl : lv_has ls 3 [(0, .ref (a 1)), (1, .int (nI n)), (2, .int (nI i))] := hl
  refine lv_bipush (v := 8) hx hb dX4_shiftOf_0 (by decide) ?_
  refine lv_aload_n hx hb dX4_shiftOf_2 rfl (lv_at hl 0 rfl) ?_
  refine va_get (D := (dC, dI)) (ci := 4) (v := .ref (a 9)) (C := RX4) (T := TX4) (N := 9) hx hb htg inX4 hown hK hP 1 (wC_g1 a k _) rfl 2 (by decide) (htg _ q_34) (fun _ h9 => h9) rfl dX4_shiftOf_3 ?_
  refine lv_iload_n hx hb dX4_shiftOf_6 rfl (lv_at hl 1 rfl) ?_
  refine va_iald hx hb hK hP 9 0 (wC_g9 a k _) rfl (vp_in_nI (n := n) (N := 200) (by omega) (by decide)) dX4_shiftOf_7 ?_
  refine wtopi (nI (cu_F u 2 n)) (congrArg (fun j9 => nI (cu_F u 2 j9)) (nI_clamp (n := n) (Nat.lt_trans (m := 200) (by omega) (by decide)))) ?_
  refine lv_iconst (v := 1) hx hb dX4_shiftOf_8 (by decide) ?_
  refine lv_isub hx hb dX4_shiftOf_9 ?_
  refine wtopi (y := nI (cu_F u 2 n - 1)) (pk_sub (a := cu_F u 2 n) (b := 1) (by omega)) ?_
  refine lv_iload_n hx hb dX4_shiftOf_10 rfl (lv_at hl 2 rfl) ?_
  refine lv_isub hx hb dX4_shiftOf_11 ?_
  refine wtopi (y := nI (cu_F u 2 n - 1 - i)) (pk_sub (a := cu_F u 2 n - 1) (b := i) (by omega)) ?_
  refine lv_imul hx hb dX4_shiftOf_12 ?_
  refine wtopi (y := nI (8 * (cu_F u 2 n - 1 - i))) (pk_mul 8 (cu_F u 2 n - 1 - i)) ?_
  exact W.iret (v := nI (8 * (cu_F u 2 n - 1 - i))) hx hb hr (fun t9 ht9 hW9 => ⟨_, rfl, rfl, ht9⟩) (fun _ h => by cases h) dX4_shiftOf_13
set_option maxHeartbeats 4000000 in
set_option maxRecDepth 100000 in
theorem c_X4_sumOn (l : Launch) (dC : Nat → ClassId) (dI : Nat → Nat → Nat) (a : Nat → Nat) (k : c_K) (u : c_St) (s0 : Int32) (n i en : Nat) (hn : n < 200) (hi : i ≤ 8) (he : en ≤ cu_F u 2 n) (h8 : cu_F u 2 n ≤ 8) : Met l yX4_sumOn wsX4_sumOn ({ frames := 1, cells := 0, slots := 0, locals := 22 }) (va_Pc [.ref (a 1), .int s0, .int (nI n), .int (nI i), .int (nI en)] (w_ro (dC, dI) vwCl (wC a k u) (tC k))) (vp_Si (fun r => r = c_sm (cu_L u n) (cu_F u 2 n) s0 i (en - i))) 0 0 (fun _ => False) := by
  refine Met.ofW (cc := cX4_sumOn) (maxL := 9) (ret := (some .int)) (by decide) rfl ?_
  intro p e s m args below meth c s₁ B hml hv
  obtain ⟨rfl, hP, hK⟩ := hv
  have hx := B.exec
  have hb := B.bytes
  have hr := B.returns
  have hts := atoms_spec (ws := wsX4_sumOn) B.pre
  have htg : ∀ w ∈ wG, w.before _ s = true := fun w h => hts w (List.mem_cons_of_mem _ h)
  have hown : s.vm.findClass RX4 = some m.cls := findClass_of_methodNamed B.named
  have hlocks := B.notSynchronized
  have hl := lv_entry ([.ref (a 1), .int s0, .int (nI n), .int (nI i), .int (nI en)]) (n := 9) (Nat.le_of_ble_eq_true rfl)
  rw [lg_entry_eq]
  generalize (lg_sl ([.ref (a 1), .int s0, .int (nI n), .int (nI i), .int (nI en)]) ++ List.replicate (9 - (lg_sl ([.ref (a 1), .int s0, .int (nI n), .int (nI i), .int (nI en)])).length) Slot.unset).toArray = ls at hl ⊢
  have hl : lv_has ls 9 [(0, .ref (a 1)), (1, .int s0), (2, .int (nI n)), (3, .int (nI i)), (4, .int (nI en))] := hl
  refine lv_iload_n hx hb dX4_sumOn_0 rfl (lv_at hl 1 rfl) ?_
  refine lv_istore (lv' := [(5, .int s0), (0, .ref (a 1)), (1, .int s0), (2, .int (nI n)), (3, .int (nI i)), (4, .int (nI en))]) hx hb dX4_sumOn_1 hl (by decide) rfl (fun ls hl => ?_)
  refine lv_iload_n hx hb dX4_sumOn_3 rfl (lv_at hl 4 rfl) ?_
  refine lv_istore (lv' := [(6, .int (nI i)), (5, .int s0), (0, .ref (a 1)), (1, .int s0), (2, .int (nI n)), (3, .int (nI i)), (4, .int (nI en))]) hx hb dX4_sumOn_4 hl (by decide) rfl (fun ls hl => ?_)
  refine w_loop (fun j : Nat => en - i - j) (fun j ls => j ≤ en - i ∧ lv_has ls 9 [(0, .ref (a 1)), (1, .int s0), (2, .int (nI n)), (3, .int (nI i)), (4, .int (nI en)), (5, .int (c_sm (cu_L u n) (cu_F u 2 n) s0 i j)), (6, .int (nI (i + j)))]) ?_ 0 ls ⟨Nat.zero_le _, lv_sub hl [2, 3, 4, 5, 6, 1, 0] rfl⟩
  intro j ls hI ih
  obtain ⟨hj, hl⟩ := hI
  refine lv_iload hx hb dX4_sumOn_6 (lv_at hl 6 rfl) ?_
  refine lv_iload hx hb dX4_sumOn_8 (lv_at hl 4 rfl) ?_
  refine nb_ge (a := (i + j)) (b := en) (tgt := 62) hx hb (by omega) (by omega) rfl rfl dX4_sumOn_10 (by decide) (fun c_10 => ?_) (fun c_10 => ?_)
  · refine lv_iload hx hb dX4_sumOn_62 (lv_at hl 5 rfl) ?_
    exact W.iret (v := c_sm (cu_L u n) (cu_F u 2 n) s0 i j) hx hb hr (fun t9 ht9 hW9 => ⟨_, rfl, (by rw [show en - i = j by omega]), ht9⟩) (fun _ h => by cases h) dX4_sumOn_64
  · refine lv_aload_n hx hb dX4_sumOn_13 rfl (lv_at hl 0 rfl) ?_
    refine va_get (D := (dC, dI)) (ci := 4) (v := .ref (a 10)) (C := RX4) (T := TX4) (N := 9) hx hb htg inX4 hown hK hP 1 (wC_g1 a k _) rfl 3 (by decide) (htg _ q_37) (fun _ h9 => h9) rfl dX4_sumOn_14 ?_
    refine lv_iload_n hx hb dX4_sumOn_17 rfl (lv_at hl 2 rfl) ?_
    refine va_lald hx hb hK hP 10 1 (wC_g10 a k _) rfl (vp_in_nI (n := n) (N := 200) (by omega) (by decide)) dX4_sumOn_18 ?_
    refine wtopl (cu_L u n) (congrArg (fun j9 => cu_L u j9) (nI_clamp (n := n) (Nat.lt_trans (m := 200) (by omega) (by decide)))) ?_
    refine lv_aload_n hx hb dX4_sumOn_19 rfl (lv_at hl 0 rfl) ?_
    refine lv_iload_n hx hb dX4_sumOn_20 rfl (lv_at hl 2 rfl) ?_
    refine lv_iload hx hb dX4_sumOn_21 (lv_at hl 6 rfl) ?_
    refine vp_callSi (W.runV (As := [.int (nI n), .int (nI (i + j))]) (rest := [.long (cu_L u n)]) ⟨hx, hb, hml, hown, hts⟩ (c_X4_shiftOf l dC dI a k u n (i + j) hn (by omega)) (cwV 2 hts (wG_V wG_c q_217 q_219 p_1 q_2 q_220) rfl rfl rfl (by decide +kernel) ⟨Nat.le_of_ble_eq_true rfl, Nat.le_of_ble_eq_true rfl⟩) (w_roV hK hP (ci := 4) (q0 := 1) rfl (wC_g1 a k _) rfl) rfl rfl hl.1 rfl (lv_room (Nat.le_of_ble_eq_true rfl)) dX4_sumOn_23 ⟨Nat.le_of_ble_eq_true rfl, Nat.le_of_ble_eq_true rfl⟩) (fun r_1 hr_1 => ?_)
    subst hr_1
    refine lv_lushr hx hb dX4_sumOn_26 rfl ?_
    refine lv_l2i hx hb dX4_sumOn_27 rfl ?_
    refine lv_sipush (v := 255) hx hb dX4_sumOn_28 (by decide) ?_
    refine lv_iand hx hb dX4_sumOn_31 ?_
    refine wtopi (y := c_byte (cu_L u n) (nI (8 * (cu_F u 2 n - 1 - (i + j))))) rfl ?_
    refine lv_istore (lv' := [(7, .int (c_byte (cu_L u n) (nI (8 * (cu_F u 2 n - 1 - (i + j)))))), (0, .ref (a 1)), (1, .int s0), (2, .int (nI n)), (3, .int (nI i)), (4, .int (nI en)), (5, .int (c_sm (cu_L u n) (cu_F u 2 n) s0 i j)), (6, .int (nI (i + j)))]) hx hb dX4_sumOn_32 hl (by decide) rfl (fun ls hl => ?_)
    refine lv_iload hx hb dX4_sumOn_34 (lv_at hl 6 rfl) ?_
    refine lv_iload hx hb dX4_sumOn_36 (lv_at hl 0 rfl) ?_
    refine lv_ixor hx hb dX4_sumOn_38 ?_
    refine lv_istore (lv' := [(8, .int ((c_sm (cu_L u n) (cu_F u 2 n) s0 i j) ^^^ (c_byte (cu_L u n) (nI (8 * (cu_F u 2 n - 1 - (i + j))))))), (7, .int (c_byte (cu_L u n) (nI (8 * (cu_F u 2 n - 1 - (i + j)))))), (0, .ref (a 1)), (1, .int s0), (2, .int (nI n)), (3, .int (nI i)), (4, .int (nI en)), (5, .int (c_sm (cu_L u n) (cu_F u 2 n) s0 i j)), (6, .int (nI (i + j)))]) hx hb dX4_sumOn_39 hl (by decide) rfl (fun ls hl => ?_)
    refine lv_iload hx hb dX4_sumOn_41 (lv_at hl 0 rfl) ?_
    refine lv_iconst (v := 5) hx hb dX4_sumOn_43 (by decide) ?_
    refine lv_ishl hx hb dX4_sumOn_44 ?_
    refine lv_iload hx hb dX4_sumOn_45 (lv_at hl 0 rfl) ?_
    refine lv_bipush (v := 27) hx hb dX4_sumOn_47 (by decide) ?_
    refine lv_iushr hx hb dX4_sumOn_49 rfl ?_
    refine lv_ior hx hb dX4_sumOn_50 ?_
    refine lv_ldc (v := (-2048144789)) hx hb hown (htg _ q_221) dX4_sumOn_51 ?_
    refine lv_imul hx hb dX4_sumOn_53 ?_
    refine wtopi (y := c_sm (cu_L u n) (cu_F u 2 n) s0 i (j + 1)) rfl ?_
    refine lv_istore (lv' := [(5, .int (c_sm (cu_L u n) (cu_F u 2 n) s0 i (j + 1))), (8, .int ((c_sm (cu_L u n) (cu_F u 2 n) s0 i j) ^^^ (c_byte (cu_L u n) (nI (8 * (cu_F u 2 n - 1 - (i + j))))))), (7, .int (c_byte (cu_L u n) (nI (8 * (cu_F u 2 n - 1 - (i + j)))))), (0, .ref (a 1)), (1, .int s0), (2, .int (nI n)), (3, .int (nI i)), (4, .int (nI en)), (6, .int (nI (i + j)))]) hx hb dX4_sumOn_54 hl (by decide) rfl (fun ls hl => ?_)
    refine lv_iinc (v := nI ((i + j) + 1)) (lv' := [(6, .int (nI ((i + j) + 1))), (5, .int (c_sm (cu_L u n) (cu_F u 2 n) s0 i (j + 1))), (8, .int ((c_sm (cu_L u n) (cu_F u 2 n) s0 i j) ^^^ (c_byte (cu_L u n) (nI (8 * (cu_F u 2 n - 1 - (i + j))))))), (7, .int (c_byte (cu_L u n) (nI (8 * (cu_F u 2 n - 1 - (i + j)))))), (0, .ref (a 1)), (1, .int s0), (2, .int (nI n)), (3, .int (nI i)), (4, .int (nI en))]) hx hb dX4_sumOn_56 hl (k := 8) rfl (nI_1 (i + j)) (by decide) rfl (fun ls hl => ?_)
    refine lv_goto (tgt := 6) hx hb dX4_sumOn_59 (by decide) ?_
    exact ih (j + 1) ls (by omega) ⟨by omega, lv_sub hl [4, 5, 6, 7, 8, 1, 0] rfl⟩
set_option maxHeartbeats 4000000 in
set_option maxRecDepth 100000 in
theorem c_X4_sumNow (l : Launch) (dC : Nat → ClassId) (dI : Nat → Nat → Nat) (a : Nat → Nat) (k : c_K) (u : c_St) (n : Nat) (hn : n < 200) (h8 : cu_F u 2 n ≤ 8) : Met l yX4_sumNow wsX4_sumNow ({ frames := 2, cells := 0, slots := 0, locals := 50 }) (va_Pc [.ref (a 1), .int (nI n)] (w_ro (dC, dI) vwCl (wC a k u) (tC k))) (vp_Si (fun r => r = c_sm (cu_L u n) (cu_F u 2 n) 0 0 (cu_F u 2 n))) 0 0 (fun _ => False) := by
  refine Met.ofW (cc := cX4_sumNow) (maxL := 2) (ret := (some .int)) (by decide) rfl ?_
  intro p e s m args below meth c s₁ B hml hv
  obtain ⟨rfl, hP, hK⟩ := hv
  have hx := B.exec
  have hb := B.bytes
  have hr := B.returns
  have hts := atoms_spec (ws := wsX4_sumNow) B.pre
  have htg : ∀ w ∈ wG, w.before _ s = true := fun w h => hts w (List.mem_cons_of_mem _ h)
  have hown : s.vm.findClass RX4 = some m.cls := findClass_of_methodNamed B.named
  have hlocks := B.notSynchronized
  have hl := lv_entry ([.ref (a 1), .int (nI n)]) (n := 2) (Nat.le_of_ble_eq_true rfl)
  rw [lg_entry_eq]
  generalize (lg_sl ([.ref (a 1), .int (nI n)]) ++ List.replicate (2 - (lg_sl ([.ref (a 1), .int (nI n)])).length) Slot.unset).toArray = ls at hl ⊢
  have hl : lv_has ls 2 [(0, .ref (a 1)), (1, .int (nI n))] := hl
  refine lv_aload_n hx hb dX4_sumNow_0 rfl (lv_at hl 0 rfl) ?_
  refine lv_iconst (v := 0) hx hb dX4_sumNow_1 (by decide) ?_
  refine lv_iload_n hx hb dX4_sumNow_2 rfl (lv_at hl 1 rfl) ?_
  refine lv_iconst (v := 0) hx hb dX4_sumNow_3 (by decide) ?_
  refine lv_aload_n hx hb dX4_sumNow_4 rfl (lv_at hl 0 rfl) ?_
  refine va_get (D := (dC, dI)) (ci := 4) (v := .ref (a 9)) (C := RX4) (T := TX4) (N := 9) hx hb htg inX4 hown hK hP 1 (wC_g1 a k _) rfl 2 (by decide) (htg _ q_34) (fun _ h9 => h9) rfl dX4_sumNow_5 ?_
  refine lv_iload_n hx hb dX4_sumNow_8 rfl (lv_at hl 1 rfl) ?_
  refine va_iald hx hb hK hP 9 0 (wC_g9 a k _) rfl (vp_in_nI (n := n) (N := 200) (by omega) (by decide)) dX4_sumNow_9 ?_
  refine wtopi (nI (cu_F u 2 n)) (congrArg (fun j9 => nI (cu_F u 2 j9)) (nI_clamp (n := n) (Nat.lt_trans (m := 200) (by omega) (by decide)))) ?_
  refine vp_callSi (W.runV (As := [.int 0, .int (nI n), .int 0, .int (nI (cu_F u 2 n))]) (rest := []) ⟨hx, hb, hml, hown, hts⟩ (c_X4_sumOn l dC dI a k u 0 n 0 (cu_F u 2 n) hn (by omega) (Nat.le_refl _) h8) (cwV 4 hts (wG_V wG_c q_230 q_214 q_215 q_2 q_216) rfl rfl rfl (by decide +kernel) ⟨Nat.le_of_ble_eq_true rfl, Nat.le_of_ble_eq_true rfl⟩) (w_roV hK hP (ci := 4) (q0 := 1) rfl (wC_g1 a k _) rfl) rfl rfl hl.1 rfl (lv_room (Nat.le_of_ble_eq_true rfl)) dX4_sumNow_10 ⟨Nat.le_of_ble_eq_true rfl, Nat.le_of_ble_eq_true rfl⟩) (fun r_1 hr_1 => ?_)
  subst hr_1
  exact W.iret (v := c_sm (cu_L u n) (cu_F u 2 n) 0 0 (cu_F u 2 n - 0)) hx hb hr (fun t9 ht9 hW9 => ⟨_, rfl, rfl, ht9⟩) (fun _ h => by cases h) dX4_sumNow_13
set_option maxHeartbeats 4000000 in
set_option maxRecDepth 100000 in
theorem c_X3_offsetOf (l : Launch) (dC : Nat → ClassId) (dI : Nat → Nat → Nat) (a : Nat → Nat) (k : c_K) (u : c_St) (sc : Nat) (hs : sc < 10) (hd : cu_D u 1 sc = -1 ∨ ∃ j : Nat, j < 60 ∧ cu_D u 1 sc = (j : Int)) : Met l yX3_offsetOf wsX3_offsetOf ({ frames := 0, cells := 0, slots := 0, locals := 0 }) (va_Pc [.ref (a 2), .int (nI sc)] (w_ro (dC, dI) vwCl (wC a k u) (tC k))) (vp_Si (fun r => r = iI (c_off u sc))) 0 0 (fun _ => False) := by
  refine Met.ofW (cc := cX3_offsetOf) (maxL := 3) (ret := (some .int)) (by decide) rfl ?_
  intro p e s m args below meth c s₁ B hml hv
  obtain ⟨rfl, hP, hK⟩ := hv
  have hx := B.exec
  have hb := B.bytes
  have hr := B.returns
  have hts := atoms_spec (ws := wsX3_offsetOf) B.pre
  have htg : ∀ w ∈ wG, w.before _ s = true := fun w h => hts w (List.mem_cons_of_mem _ h)
  have hown : s.vm.findClass RX3 = some m.cls := findClass_of_methodNamed B.named
  have hlocks := B.notSynchronized
  have hl := lv_entry ([.ref (a 2), .int (nI sc)]) (n := 3) (Nat.le_of_ble_eq_true rfl)
  rw [lg_entry_eq]
  generalize (lg_sl ([.ref (a 2), .int (nI sc)]) ++ List.replicate (3 - (lg_sl ([.ref (a 2), .int (nI sc)])).length) Slot.unset).toArray = ls at hl ⊢
  have hl : lv_has ls 3 [(0, .ref (a 2)), (1, .int (nI sc))] := hl
  rcases hd with hd | ⟨j, hj, hd⟩
  · refine lv_aload_n hx hb dX3_offsetOf_0 rfl (lv_at hl 0 rfl) ?_
    refine va_get (D := (dC, dI)) (ci := 3) (v := .ref (a 17)) (C := RX3) (T := TX3) (N := 4) hx hb htg inX3 hown hK hP 2 (wC_g2 a k _) rfl 2 (by decide) (htg _ q_77) (fun _ h9 => h9) rfl dX3_offsetOf_1 ?_
    refine lv_iload_n hx hb dX3_offsetOf_4 rfl (lv_at hl 1 rfl) ?_
    refine va_iald hx hb hK hP 17 0 (wC_g17 a k _) rfl (vp_in_nI (n := sc) (N := 10) (by omega) (by decide)) dX3_offsetOf_5 ?_
    refine wtopi (iI (cu_D u 1 sc)) (congrArg (fun j9 => iI (cu_D u 1 j9)) (nI_clamp (n := sc) (Nat.lt_trans (m := 10) (by omega) (by decide)))) ?_
    refine wtopi (y := -1) (by rw [hd]; rfl) ?_
    refine lv_istore_n (lv' := [(2, .int (-1)), (0, .ref (a 2)), (1, .int (nI sc))]) hx hb dX3_offsetOf_6 rfl hl (by decide) rfl (fun ls hl => ?_)
    refine lv_iload_n hx hb dX3_offsetOf_7 rfl (lv_at hl 0 rfl) ?_
    refine lv_iconst (v := (-1)) hx hb dX3_offsetOf_8 (by decide) ?_
    refine lv_icmp_ne (tgt := 16) hx hb dX3_offsetOf_9 (by decide) (fun c_9 => ?_) (fun c_9 => ?_)
    · exact absurd rfl c_9
    · refine lv_iconst (v := 0) hx hb dX3_offsetOf_12 (by decide) ?_
      refine lv_goto (tgt := 22) hx hb dX3_offsetOf_13 (by decide) ?_
      exact W.iret (v := 0) hx hb hr (fun t9 ht9 hW9 => ⟨_, rfl, (by unfold c_off; rw [if_pos hd]; rfl), ht9⟩) (fun _ h => by cases h) dX3_offsetOf_22
  · refine lv_aload_n hx hb dX3_offsetOf_0 rfl (lv_at hl 0 rfl) ?_
    refine va_get (D := (dC, dI)) (ci := 3) (v := .ref (a 17)) (C := RX3) (T := TX3) (N := 4) hx hb htg inX3 hown hK hP 2 (wC_g2 a k _) rfl 2 (by decide) (htg _ q_77) (fun _ h9 => h9) rfl dX3_offsetOf_1 ?_
    refine lv_iload_n hx hb dX3_offsetOf_4 rfl (lv_at hl 1 rfl) ?_
    refine va_iald hx hb hK hP 17 0 (wC_g17 a k _) rfl (vp_in_nI (n := sc) (N := 10) (by omega) (by decide)) dX3_offsetOf_5 ?_
    refine wtopi (iI (cu_D u 1 sc)) (congrArg (fun j9 => iI (cu_D u 1 j9)) (nI_clamp (n := sc) (Nat.lt_trans (m := 10) (by omega) (by decide)))) ?_
    refine wtopi (y := nI j) (by rw [hd, nI_iI]) ?_
    refine lv_istore_n (lv' := [(2, .int (nI j)), (0, .ref (a 2)), (1, .int (nI sc))]) hx hb dX3_offsetOf_6 rfl hl (by decide) rfl (fun ls hl => ?_)
    refine lv_iload_n hx hb dX3_offsetOf_7 rfl (lv_at hl 0 rfl) ?_
    refine lv_iconst (v := (-1)) hx hb dX3_offsetOf_8 (by decide) ?_
    refine lv_icmp_ne (tgt := 16) hx hb dX3_offsetOf_9 (by decide) (fun c_9 => ?_) (fun c_9 => ?_)
    · refine lv_aload_n hx hb dX3_offsetOf_16 rfl (lv_at hl 1 rfl) ?_
      refine va_get (D := (dC, dI)) (ci := 3) (v := .ref (a 16)) (C := RX3) (T := TX3) (N := 4) hx hb htg inX3 hown hK hP 2 (wC_g2 a k _) rfl 1 (by decide) (htg _ q_76) (fun _ h9 => h9) rfl dX3_offsetOf_17 ?_
      refine lv_iload_n hx hb dX3_offsetOf_20 rfl (lv_at hl 0 rfl) ?_
      refine va_iald hx hb hK hP 16 0 (wC_g16 a k _) rfl (vp_in_nI (n := j) (N := 60) (by omega) (by decide)) dX3_offsetOf_21 ?_
      refine wtopi (iI (cu_D u 0 j)) (congrArg (fun j9 => iI (cu_D u 0 j9)) (nI_clamp (n := j) (Nat.lt_trans (m := 60) (by omega) (by decide)))) ?_
      exact W.iret (v := iI (cu_D u 0 j)) hx hb hr (fun t9 ht9 hW9 => ⟨_, rfl, (by unfold c_off; rw [if_neg (by omega), hd, Int.toNat_natCast]), ht9⟩) (fun _ h => by cases h) dX3_offsetOf_22
    · exact absurd c_9 (nI_m1 (by omega))
set_option maxHeartbeats 4000000 in
set_option maxRecDepth 100000 in
theorem c_X1_beginOf (l : Launch) (dC : Nat → ClassId) (dI : Nat → Nat → Nat) (a : Nat → Nat) (k : c_K) (u : c_St) (h : c_ok u) (n : Nat) (hn : n < cu_N u 0) : Met l yX1_beginOf wsX1_beginOf ({ frames := 1, cells := 0, slots := 0, locals := 22 }) (va_Pc [.ref (a 3), .int (nI n)] (w_ro (dC, dI) vwCl (wC a k u) (tC k))) (vp_Si (fun r => r = iI (c_beg u n))) 0 0 (fun _ => False) := by
  have hn2 := h.2.2.1 n hn
  have h20 := h.1
  have h60 := h.2.1
  have hd9 : cu_D u 1 (cu_F u 0 n) = -1 ∨ ∃ j : Nat, j < 60 ∧ cu_D u 1 (cu_F u 0 n) = (j : Int) := by
    rcases h.2.2.2.2 _ hn2.1 with q | ⟨j, q1, q2⟩
    · exact Or.inl q
    · exact Or.inr ⟨j, by omega, q2⟩
  refine Met.ofW (cc := cX1_beginOf) (maxL := 2) (ret := (some .int)) (by decide) rfl ?_
  intro p e s m args below meth c s₁ B hml hv
  obtain ⟨rfl, hP, hK⟩ := hv
  have hx := B.exec
  have hb := B.bytes
  have hr := B.returns
  have hts := atoms_spec (ws := wsX1_beginOf) B.pre
  have htg : ∀ w ∈ wG, w.before _ s = true := fun w h => hts w (List.mem_cons_of_mem _ h)
  have hown : s.vm.findClass RX1 = some m.cls := findClass_of_methodNamed B.named
  have hlocks := B.notSynchronized
  have hl := lv_entry ([.ref (a 3), .int (nI n)]) (n := 2) (Nat.le_of_ble_eq_true rfl)
  rw [lg_entry_eq]
  generalize (lg_sl ([.ref (a 3), .int (nI n)]) ++ List.replicate (2 - (lg_sl ([.ref (a 3), .int (nI n)])).length) Slot.unset).toArray = ls at hl ⊢
  have hl : lv_has ls 2 [(0, .ref (a 3)), (1, .int (nI n))] := hl
  refine lv_aload_n hx hb dX1_beginOf_0 rfl (lv_at hl 0 rfl) ?_
  refine va_get (D := (dC, dI)) (ci := 1) (v := .ref (a 1)) (C := RX1) (T := TX1) (N := 4) hx hb htg inX1 hown hK hP 3 (wC_g3 a k _) rfl 2 (by decide) (htg _ q_100) (fun _ h9 => h9) rfl dX1_beginOf_1 ?_
  refine va_get (D := (dC, dI)) (ci := 4) (v := .ref (a 8)) (C := RX4) (T := TX4) (N := 9) hx hb htg inX4 hown hK hP 1 (wC_g1 a k _) rfl 1 (by decide) (htg _ q_33) (fun _ h9 => h9) rfl dX1_beginOf_4 ?_
  refine lv_iload_n hx hb dX1_beginOf_7 rfl (lv_at hl 1 rfl) ?_
  refine va_iald hx hb hK hP 8 0 (wC_g8 a k _) rfl (vp_in_nI (n := n) (N := 200) (by omega) (by decide)) dX1_beginOf_8 ?_
  refine wtopi (nI (cu_F u 1 n)) (congrArg (fun j9 => nI (cu_F u 1 j9)) (nI_clamp (n := n) (Nat.lt_trans (m := 200) (by omega) (by decide)))) ?_
  refine lv_aload_n hx hb dX1_beginOf_9 rfl (lv_at hl 0 rfl) ?_
  refine va_get (D := (dC, dI)) (ci := 1) (v := .ref (a 2)) (C := RX1) (T := TX1) (N := 4) hx hb htg inX1 hown hK hP 3 (wC_g3 a k _) rfl 3 (by decide) (htg _ q_101) (fun _ h9 => h9) rfl dX1_beginOf_10 ?_
  refine lv_aload_n hx hb dX1_beginOf_13 rfl (lv_at hl 0 rfl) ?_
  refine va_get (D := (dC, dI)) (ci := 1) (v := .ref (a 1)) (C := RX1) (T := TX1) (N := 4) hx hb htg inX1 hown hK hP 3 (wC_g3 a k _) rfl 2 (by decide) (htg _ q_100) (fun _ h9 => h9) rfl dX1_beginOf_14 ?_
  refine va_get (D := (dC, dI)) (ci := 4) (v := .ref (a 7)) (C := RX4) (T := TX4) (N := 9) hx hb htg inX4 hown hK hP 1 (wC_g1 a k _) rfl 0 (by decide) (htg _ q_31) (fun _ h9 => h9) rfl dX1_beginOf_17 ?_
  refine lv_iload_n hx hb dX1_beginOf_20 rfl (lv_at hl 1 rfl) ?_
  refine va_iald hx hb hK hP 7 0 (wC_g7 a k _) rfl (vp_in_nI (n := n) (N := 200) (by omega) (by decide)) dX1_beginOf_21 ?_
  refine wtopi (nI (cu_F u 0 n)) (congrArg (fun j9 => nI (cu_F u 0 j9)) (nI_clamp (n := n) (Nat.lt_trans (m := 200) (by omega) (by decide)))) ?_
  refine vp_callSi (W.runV (As := [.int (nI (cu_F u 0 n))]) (rest := [.int (nI (cu_F u 1 n))]) ⟨hx, hb, hml, hown, hts⟩ (c_X3_offsetOf l dC dI a k u (cu_F u 0 n) hn2.1 hd9) (cwV 1 hts (wG_V wG_c q_195 q_196 q_197 q_3 q_198) rfl rfl rfl (by decide +kernel) ⟨Nat.le_of_ble_eq_true rfl, Nat.le_of_ble_eq_true rfl⟩) (w_roV hK hP (ci := 3) (q0 := 2) rfl (wC_g2 a k _) rfl) rfl rfl hl.1 rfl (lv_room (Nat.le_of_ble_eq_true rfl)) dX1_beginOf_22 ⟨Nat.le_of_ble_eq_true rfl, Nat.le_of_ble_eq_true rfl⟩) (fun r_1 hr_1 => ?_)
  subst hr_1
  refine lv_iadd hx hb dX1_beginOf_25 ?_
  refine wtopi (y := iI (c_beg u n)) (nI_addI _ _) ?_
  exact W.iret (v := iI (c_beg u n)) hx hb hr (fun t9 ht9 hW9 => ⟨_, rfl, rfl, ht9⟩) (fun _ h => by cases h) dX1_beginOf_26
set_option maxHeartbeats 4000000 in
set_option maxRecDepth 100000 in
theorem c_X1_bytesBefore (l : Launch) (dC : Nat → ClassId) (dI : Nat → Nat → Nat) (a : Nat → Nat) (k : c_K) (u : c_St) (h : c_ok u) (n : Nat) (hn : n < cu_N u 0) (t : Int32) : Met l yX1_bytesBefore wsX1_bytesBefore ({ frames := 2, cells := 0, slots := 0, locals := 43 }) (va_Pc [.ref (a 3), .int (nI n), .int t] (w_ro (dC, dI) vwCl (wC a k u) (tC k))) (vp_Si (fun r => r = nI (c_bb u n t))) 0 0 (fun _ => False) := by
  have hn2 := h.2.2.1 n hn
  have h20 := h.1
  have h60 := h.2.1
  have hbb := c_beg_b h hn
  refine Met.ofW (cc := cX1_bytesBefore) (maxL := 5) (ret := (some .int)) (by decide) rfl ?_
  intro p e s m args below meth c s₁ B hml hv
  obtain ⟨rfl, hP, hK⟩ := hv
  have hx := B.exec
  have hb := B.bytes
  have hr := B.returns
  have hts := atoms_spec (ws := wsX1_bytesBefore) B.pre
  have htg : ∀ w ∈ wG, w.before _ s = true := fun w h => hts w (List.mem_cons_of_mem _ h)
  have hown : s.vm.findClass RX1 = some m.cls := findClass_of_methodNamed B.named
  have hlocks := B.notSynchronized
  have hl := lv_entry ([.ref (a 3), .int (nI n), .int t]) (n := 5) (Nat.le_of_ble_eq_true rfl)
  rw [lg_entry_eq]
  generalize (lg_sl ([.ref (a 3), .int (nI n), .int t]) ++ List.replicate (5 - (lg_sl ([.ref (a 3), .int (nI n), .int t])).length) Slot.unset).toArray = ls at hl ⊢
  have hl : lv_has ls 5 [(0, .ref (a 3)), (1, .int (nI n)), (2, .int t)] := hl
  refine lv_aload_n hx hb dX1_bytesBefore_0 rfl (lv_at hl 0 rfl) ?_
  refine lv_iload_n hx hb dX1_bytesBefore_1 rfl (lv_at hl 1 rfl) ?_
  refine vp_callSi (W.runV (As := [.int (nI n)]) (rest := []) ⟨hx, hb, hml, hown, hts⟩ (c_X1_beginOf l dC dI a k u h n hn) (cwV 1 hts (wG_V wG_c q_191 q_192 q_193 q_4 q_194) rfl rfl rfl (by decide +kernel) ⟨Nat.le_of_ble_eq_true rfl, Nat.le_of_ble_eq_true rfl⟩) (w_roV hK hP (ci := 1) (q0 := 3) rfl (wC_g3 a k _) rfl) rfl rfl hl.1 rfl (lv_room (Nat.le_of_ble_eq_true rfl)) dX1_bytesBefore_2 ⟨Nat.le_of_ble_eq_true rfl, Nat.le_of_ble_eq_true rfl⟩) (fun r_1 hr_1 => ?_)
  subst hr_1
  refine lv_istore_n (lv' := [(3, .int (iI (c_beg u n))), (0, .ref (a 3)), (1, .int (nI n)), (2, .int t)]) hx hb dX1_bytesBefore_5 rfl hl (by decide) rfl (fun ls hl => ?_)
  refine lv_iload_n hx hb dX1_bytesBefore_6 rfl (lv_at hl 0 rfl) ?_
  refine lv_aload_n hx hb dX1_bytesBefore_7 rfl (lv_at hl 1 rfl) ?_
  refine va_get (D := (dC, dI)) (ci := 1) (v := .ref (a 1)) (C := RX1) (T := TX1) (N := 4) hx hb htg inX1 hown hK hP 3 (wC_g3 a k _) rfl 2 (by decide) (htg _ q_100) (fun _ h9 => h9) rfl dX1_bytesBefore_8 ?_
  refine va_get (D := (dC, dI)) (ci := 4) (v := .ref (a 9)) (C := RX4) (T := TX4) (N := 9) hx hb htg inX4 hown hK hP 1 (wC_g1 a k _) rfl 2 (by decide) (htg _ q_35) (fun _ h9 => h9) rfl dX1_bytesBefore_11 ?_
  refine lv_iload_n hx hb dX1_bytesBefore_14 rfl (lv_at hl 2 rfl) ?_
  refine va_iald hx hb hK hP 9 0 (wC_g9 a k _) rfl (vp_in_nI (n := n) (N := 200) (by omega) (by decide)) dX1_bytesBefore_15 ?_
  refine wtopi (nI (cu_F u 2 n)) (congrArg (fun j9 => nI (cu_F u 2 j9)) (nI_clamp (n := n) (Nat.lt_trans (m := 200) (by omega) (by decide)))) ?_
  refine lv_iadd hx hb dX1_bytesBefore_16 ?_
  refine wtopi (y := iI (c_beg u n + (cu_F u 2 n : Int))) (by rw [nI_iI, iI_add]) ?_
  refine lv_istore (lv' := [(4, .int (iI (c_beg u n + (cu_F u 2 n : Int)))), (3, .int (iI (c_beg u n))), (0, .ref (a 3)), (1, .int (nI n)), (2, .int t)]) hx hb dX1_bytesBefore_17 hl (by decide) rfl (fun ls hl => ?_)
  refine lv_iload_n hx hb dX1_bytesBefore_19 rfl (lv_at hl 1 rfl) ?_
  refine lv_iload_n hx hb dX1_bytesBefore_20 rfl (lv_at hl 4 rfl) ?_
  refine lv_iload hx hb dX1_bytesBefore_21 (lv_at hl 0 rfl) ?_
  refine va_mmin hx hb (hml.trans hl.1.symm) hown (htg _ q_199) (htg _ q_200) (htg _ q_14) (htg _ qm_min) (Nat.le_of_ble_eq_true rfl) (Nat.le_of_ble_eq_true rfl) (Nat.zero_le _) (Nat.zero_le _) dX1_bytesBefore_23 ?_
  refine va_mmax hx hb (hml.trans hl.1.symm) hown (htg _ q_202) (htg _ q_203) (htg _ q_14) (htg _ qm_max) (Nat.le_of_ble_eq_true rfl) (Nat.le_of_ble_eq_true rfl) (Nat.zero_le _) (Nat.zero_le _) dX1_bytesBefore_26 ?_
  refine lv_iload_n hx hb dX1_bytesBefore_29 rfl (lv_at hl 1 rfl) ?_
  refine lv_isub hx hb dX1_bytesBefore_30 ?_
  refine wtopi (y := nI (c_bb u n t)) (c_bb_eq hbb.1 hbb.2 hn2.2.2.2.1) ?_
  exact W.iret (v := nI (c_bb u n t)) hx hb hr (fun t9 ht9 hW9 => ⟨_, rfl, rfl, ht9⟩) (fun _ h => by cases h) dX1_bytesBefore_31
set_option maxHeartbeats 4000000 in
set_option maxRecDepth 100000 in
theorem c_X1_bytesWithin (l : Launch) (dC : Nat → ClassId) (dI : Nat → Nat → Nat) (a : Nat → Nat) (k : c_K) (u : c_St) (h : c_ok u) (n : Nat) (hn : n < cu_N u 0) (t1 t2 : Int32) : Met l yX1_bytesWithin wsX1_bytesWithin ({ frames := 3, cells := 0, slots := 0, locals := 67 }) (va_Pc [.ref (a 3), .int (nI n), .int t1, .int t2] (w_ro (dC, dI) vwCl (wC a k u) (tC k))) (vp_Si (fun r => r = nI (c_bb u n t2 - c_bb u n t1))) 0 0 (fun _ => False) := by
  have hn2 := h.2.2.1 n hn
  have h20 := h.1
  have h60 := h.2.1
  have hq1 := c_bb_le u n t1
  have hq2 := c_bb_le u n t2
  refine Met.ofW (cc := cX1_bytesWithin) (maxL := 4) (ret := (some .int)) (by decide) rfl ?_
  intro p e s m args below meth c s₁ B hml hv
  obtain ⟨rfl, hP, hK⟩ := hv
  have hx := B.exec
  have hb := B.bytes
  have hr := B.returns
  have hts := atoms_spec (ws := wsX1_bytesWithin) B.pre
  have htg : ∀ w ∈ wG, w.before _ s = true := fun w h => hts w (List.mem_cons_of_mem _ h)
  have hown : s.vm.findClass RX1 = some m.cls := findClass_of_methodNamed B.named
  have hlocks := B.notSynchronized
  have hl := lv_entry ([.ref (a 3), .int (nI n), .int t1, .int t2]) (n := 4) (Nat.le_of_ble_eq_true rfl)
  rw [lg_entry_eq]
  generalize (lg_sl ([.ref (a 3), .int (nI n), .int t1, .int t2]) ++ List.replicate (4 - (lg_sl ([.ref (a 3), .int (nI n), .int t1, .int t2])).length) Slot.unset).toArray = ls at hl ⊢
  have hl : lv_has ls 4 [(0, .ref (a 3)), (1, .int (nI n)), (2, .int t1), (3, .int t2)] := hl
  refine lv_iconst (v := 0) hx hb dX1_bytesWithin_0 (by decide) ?_
  refine lv_aload_n hx hb dX1_bytesWithin_1 rfl (lv_at hl 0 rfl) ?_
  refine lv_iload_n hx hb dX1_bytesWithin_2 rfl (lv_at hl 1 rfl) ?_
  refine lv_iload_n hx hb dX1_bytesWithin_3 rfl (lv_at hl 3 rfl) ?_
  refine vp_callSi (W.runV (As := [.int (nI n), .int t2]) (rest := [.int 0]) ⟨hx, hb, hml, hown, hts⟩ (c_X1_bytesBefore l dC dI a k u h n hn t2) (cwV 2 hts (wG_V wG_c q_187 q_189 p_0 q_4 q_190) rfl rfl rfl (by decide +kernel) ⟨Nat.le_of_ble_eq_true rfl, Nat.le_of_ble_eq_true rfl⟩) (w_roV hK hP (ci := 1) (q0 := 3) rfl (wC_g3 a k _) rfl) rfl rfl hl.1 rfl (lv_room (Nat.le_of_ble_eq_true rfl)) dX1_bytesWithin_4 ⟨Nat.le_of_ble_eq_true rfl, Nat.le_of_ble_eq_true rfl⟩) (fun r_1 hr_1 => ?_)
  subst hr_1
  refine lv_aload_n hx hb dX1_bytesWithin_7 rfl (lv_at hl 0 rfl) ?_
  refine lv_iload_n hx hb dX1_bytesWithin_8 rfl (lv_at hl 1 rfl) ?_
  refine lv_iload_n hx hb dX1_bytesWithin_9 rfl (lv_at hl 2 rfl) ?_
  refine vp_callSi (W.runV (As := [.int (nI n), .int t1]) (rest := [.int (nI (c_bb u n t2)), .int 0]) ⟨hx, hb, hml, hown, hts⟩ (c_X1_bytesBefore l dC dI a k u h n hn t1) (cwV 2 hts (wG_V wG_c q_187 q_189 p_0 q_4 q_190) rfl rfl rfl (by decide +kernel) ⟨Nat.le_of_ble_eq_true rfl, Nat.le_of_ble_eq_true rfl⟩) (w_roV hK hP (ci := 1) (q0 := 3) rfl (wC_g3 a k _) rfl) rfl rfl hl.1 rfl (lv_room (Nat.le_of_ble_eq_true rfl)) dX1_bytesWithin_10 ⟨Nat.le_of_ble_eq_true rfl, Nat.le_of_ble_eq_true rfl⟩) (fun r_2 hr_2 => ?_)
  subst hr_2
  refine lv_isub hx hb dX1_bytesWithin_13 ?_
  refine va_mmax hx hb (hml.trans hl.1.symm) hown (htg _ q_202) (htg _ q_203) (htg _ q_14) (htg _ qm_max) (Nat.le_of_ble_eq_true rfl) (Nat.le_of_ble_eq_true rfl) (Nat.zero_le _) (Nat.zero_le _) dX1_bytesWithin_14 ?_
  refine wtopi (nI (c_bb u n t2 - c_bb u n t1)) (c_wi_eq (by omega) (by omega)) ?_
  exact W.iret (v := nI (c_bb u n t2 - c_bb u n t1)) hx hb hr (fun t9 ht9 hW9 => ⟨_, rfl, rfl, ht9⟩) (fun _ h => by cases h) dX1_bytesWithin_17
set_option maxHeartbeats 4000000 in
set_option maxRecDepth 100000 in
theorem c_X1_sumWithin (l : Launch) (dC : Nat → ClassId) (dI : Nat → Nat → Nat) (a : Nat → Nat) (k : c_K) (u : c_St) (h : c_ok u) (s0 : Int32) (n : Nat) (hn : n < cu_N u 0) (t1 t2 : Int32) : Met l yX1_sumWithin wsX1_sumWithin ({ frames := 3, cells := 0, slots := 0, locals := 67 }) (va_Pc [.ref (a 3), .int s0, .int (nI n), .int t1, .int t2] (w_ro (dC, dI) vwCl (wC a k u) (tC k))) (vp_Si (fun r => r = c_sm (cu_L u n) (cu_F u 2 n) s0 (c_bb u n t1) (c_bb u n t2 - c_bb u n t1))) 0 0 (fun _ => False) := by
  have hn2 := h.2.2.1 n hn
  have h20 := h.1
  have h60 := h.2.1
  have hq1 := c_bb_le u n t1
  have hq2 := c_bb_le u n t2
  refine Met.ofW (cc := cX1_sumWithin) (maxL := 5) (ret := (some .int)) (by decide) rfl ?_
  intro p e s m args below meth c s₁ B hml hv
  obtain ⟨rfl, hP, hK⟩ := hv
  have hx := B.exec
  have hb := B.bytes
  have hr := B.returns
  have hts := atoms_spec (ws := wsX1_sumWithin) B.pre
  have htg : ∀ w ∈ wG, w.before _ s = true := fun w h => hts w (List.mem_cons_of_mem _ h)
  have hown : s.vm.findClass RX1 = some m.cls := findClass_of_methodNamed B.named
  have hlocks := B.notSynchronized
  have hl := lv_entry ([.ref (a 3), .int s0, .int (nI n), .int t1, .int t2]) (n := 5) (Nat.le_of_ble_eq_true rfl)
  rw [lg_entry_eq]
  generalize (lg_sl ([.ref (a 3), .int s0, .int (nI n), .int t1, .int t2]) ++ List.replicate (5 - (lg_sl ([.ref (a 3), .int s0, .int (nI n), .int t1, .int t2])).length) Slot.unset).toArray = ls at hl ⊢
  have hl : lv_has ls 5 [(0, .ref (a 3)), (1, .int s0), (2, .int (nI n)), (3, .int t1), (4, .int t2)] := hl
  refine lv_aload_n hx hb dX1_sumWithin_0 rfl (lv_at hl 0 rfl) ?_
  refine va_get (D := (dC, dI)) (ci := 1) (v := .ref (a 1)) (C := RX1) (T := TX1) (N := 4) hx hb htg inX1 hown hK hP 3 (wC_g3 a k _) rfl 2 (by decide) (htg _ q_100) (fun _ h9 => h9) rfl dX1_sumWithin_1 ?_
  refine lv_iload_n hx hb dX1_sumWithin_4 rfl (lv_at hl 1 rfl) ?_
  refine lv_iload_n hx hb dX1_sumWithin_5 rfl (lv_at hl 2 rfl) ?_
  refine lv_aload_n hx hb dX1_sumWithin_6 rfl (lv_at hl 0 rfl) ?_
  refine lv_iload_n hx hb dX1_sumWithin_7 rfl (lv_at hl 2 rfl) ?_
  refine lv_iload_n hx hb dX1_sumWithin_8 rfl (lv_at hl 3 rfl) ?_
  refine vp_callSi (W.runV (As := [.int (nI n), .int t1]) (rest := [.int (nI n), .int s0, .ref (a 1)]) ⟨hx, hb, hml, hown, hts⟩ (c_X1_bytesBefore l dC dI a k u h n hn t1) (cwV 2 hts (wG_V wG_c q_187 q_189 p_0 q_4 q_190) rfl rfl rfl (by decide +kernel) ⟨Nat.le_of_ble_eq_true rfl, Nat.le_of_ble_eq_true rfl⟩) (w_roV hK hP (ci := 1) (q0 := 3) rfl (wC_g3 a k _) rfl) rfl rfl hl.1 rfl (lv_room (Nat.le_of_ble_eq_true rfl)) dX1_sumWithin_9 ⟨Nat.le_of_ble_eq_true rfl, Nat.le_of_ble_eq_true rfl⟩) (fun r_1 hr_1 => ?_)
  subst hr_1
  refine lv_aload_n hx hb dX1_sumWithin_12 rfl (lv_at hl 0 rfl) ?_
  refine lv_iload_n hx hb dX1_sumWithin_13 rfl (lv_at hl 2 rfl) ?_
  refine lv_iload hx hb dX1_sumWithin_14 (lv_at hl 4 rfl) ?_
  refine vp_callSi (W.runV (As := [.int (nI n), .int t2]) (rest := [.int (nI (c_bb u n t1)), .int (nI n), .int s0, .ref (a 1)]) ⟨hx, hb, hml, hown, hts⟩ (c_X1_bytesBefore l dC dI a k u h n hn t2) (cwV 2 hts (wG_V wG_c q_187 q_189 p_0 q_4 q_190) rfl rfl rfl (by decide +kernel) ⟨Nat.le_of_ble_eq_true rfl, Nat.le_of_ble_eq_true rfl⟩) (w_roV hK hP (ci := 1) (q0 := 3) rfl (wC_g3 a k _) rfl) rfl rfl hl.1 rfl (lv_room (Nat.le_of_ble_eq_true rfl)) dX1_sumWithin_16 ⟨Nat.le_of_ble_eq_true rfl, Nat.le_of_ble_eq_true rfl⟩) (fun r_2 hr_2 => ?_)
  subst hr_2
  refine vp_callSi (W.runV (As := [.int s0, .int (nI n), .int (nI (c_bb u n t1)), .int (nI (c_bb u n t2))]) (rest := []) ⟨hx, hb, hml, hown, hts⟩ (c_X4_sumOn l dC dI a k u s0 n (c_bb u n t1) (c_bb u n t2) (by omega) (by omega) hq2 hn2.2.2.2.1) (cwV 4 hts (wG_V wG_c q_213 q_214 q_215 q_2 q_216) rfl rfl rfl (by decide +kernel) ⟨Nat.le_of_ble_eq_true rfl, Nat.le_of_ble_eq_true rfl⟩) (w_roV hK hP (ci := 4) (q0 := 1) rfl (wC_g1 a k _) rfl) rfl rfl hl.1 rfl (lv_room (Nat.le_of_ble_eq_true rfl)) dX1_sumWithin_19 ⟨Nat.le_of_ble_eq_true rfl, Nat.le_of_ble_eq_true rfl⟩) (fun r_3 hr_3 => ?_)
  subst hr_3
  exact W.iret (v := c_sm (cu_L u n) (cu_F u 2 n) s0 (c_bb u n t1) (c_bb u n t2 - c_bb u n t1)) hx hb hr (fun t9 ht9 hW9 => ⟨_, rfl, rfl, ht9⟩) (fun _ h => by cases h) dX1_sumWithin_22
set_option maxHeartbeats 4000000 in
set_option maxRecDepth 100000 in
theorem c_X1_isBefore (l : Launch) (dC : Nat → ClassId) (dI : Nat → Nat → Nat) (a : Nat → Nat) (k : c_K) (u : c_St) (h : c_ok u) (x y : Nat) (hx9 : x < cu_N u 0) (hy9 : y < cu_N u 0) : Met l yX1_isBefore wsX1_isBefore ({ frames := 2, cells := 0, slots := 0, locals := 43 }) (va_Pc [.ref (a 3), .int (nI x), .int (nI y)] (w_ro (dC, dI) vwCl (wC a k u) (tC k))) (vp_Si (fun r => r = bI (c_lt u x y))) 0 0 (fun _ => False) := by
  have h20 := h.1
  have hx2 := h.2.2.1 x hx9
  have hy2 := h.2.2.1 y hy9
  have hbx := c_beg_b h hx9
  have hby := c_beg_b h hy9
  refine Met.ofW (cc := cX1_isBefore) (maxL := 5) (ret := (some .boolean)) (by decide) rfl ?_
  intro p e s m args below meth c s₁ B hml hv
  obtain ⟨rfl, hP, hK⟩ := hv
  have hx := B.exec
  have hb := B.bytes
  have hr := B.returns
  have hts := atoms_spec (ws := wsX1_isBefore) B.pre
  have htg : ∀ w ∈ wG, w.before _ s = true := fun w h => hts w (List.mem_cons_of_mem _ h)
  have hown : s.vm.findClass RX1 = some m.cls := findClass_of_methodNamed B.named
  have hlocks := B.notSynchronized
  have hl := lv_entry ([.ref (a 3), .int (nI x), .int (nI y)]) (n := 5) (Nat.le_of_ble_eq_true rfl)
  rw [lg_entry_eq]
  generalize (lg_sl ([.ref (a 3), .int (nI x), .int (nI y)]) ++ List.replicate (5 - (lg_sl ([.ref (a 3), .int (nI x), .int (nI y)])).length) Slot.unset).toArray = ls at hl ⊢
  have hl : lv_has ls 5 [(0, .ref (a 3)), (1, .int (nI x)), (2, .int (nI y))] := hl
  refine lv_aload_n hx hb dX1_isBefore_0 rfl (lv_at hl 0 rfl) ?_
  refine lv_iload_n hx hb dX1_isBefore_1 rfl (lv_at hl 1 rfl) ?_
  refine vp_callSi (W.runV (As := [.int (nI x)]) (rest := []) ⟨hx, hb, hml, hown, hts⟩ (c_X1_beginOf l dC dI a k u h x hx9) (cwV 1 hts (wG_V wG_c q_191 q_192 q_193 q_4 q_194) rfl rfl rfl (by decide +kernel) ⟨Nat.le_of_ble_eq_true rfl, Nat.le_of_ble_eq_true rfl⟩) (w_roV hK hP (ci := 1) (q0 := 3) rfl (wC_g3 a k _) rfl) rfl rfl hl.1 rfl (lv_room (Nat.le_of_ble_eq_true rfl)) dX1_isBefore_2 ⟨Nat.le_of_ble_eq_true rfl, Nat.le_of_ble_eq_true rfl⟩) (fun r_1 hr_1 => ?_)
  subst hr_1
  refine lv_istore_n (lv' := [(3, .int (iI (c_beg u x))), (0, .ref (a 3)), (1, .int (nI x)), (2, .int (nI y))]) hx hb dX1_isBefore_5 rfl hl (by decide) rfl (fun ls hl => ?_)
  refine lv_aload_n hx hb dX1_isBefore_6 rfl (lv_at hl 1 rfl) ?_
  refine lv_iload_n hx hb dX1_isBefore_7 rfl (lv_at hl 3 rfl) ?_
  refine vp_callSi (W.runV (As := [.int (nI y)]) (rest := []) ⟨hx, hb, hml, hown, hts⟩ (c_X1_beginOf l dC dI a k u h y hy9) (cwV 1 hts (wG_V wG_c q_191 q_192 q_193 q_4 q_194) rfl rfl rfl (by decide +kernel) ⟨Nat.le_of_ble_eq_true rfl, Nat.le_of_ble_eq_true rfl⟩) (w_roV hK hP (ci := 1) (q0 := 3) rfl (wC_g3 a k _) rfl) rfl rfl hl.1 rfl (lv_room (Nat.le_of_ble_eq_true rfl)) dX1_isBefore_8 ⟨Nat.le_of_ble_eq_true rfl, Nat.le_of_ble_eq_true rfl⟩) (fun r_2 hr_2 => ?_)
  subst hr_2
  refine lv_istore (lv' := [(4, .int (iI (c_beg u y))), (3, .int (iI (c_beg u x))), (0, .ref (a 3)), (1, .int (nI x)), (2, .int (nI y))]) hx hb dX1_isBefore_11 hl (by decide) rfl (fun ls hl => ?_)
  refine lv_iload_n hx hb dX1_isBefore_13 rfl (lv_at hl 1 rfl) ?_
  refine lv_iload hx hb dX1_isBefore_14 (lv_at hl 0 rfl) ?_
  refine ib_eq (a := (c_beg u x)) (b := (c_beg u y)) (tgt := 31) hx hb (by omega) (by omega) (by omega) (by omega) rfl rfl dX1_isBefore_16 (by decide) (fun c_16 => ?_) (fun c_16 => ?_)
  · refine lv_aload_n hx hb dX1_isBefore_31 rfl (lv_at hl 2 rfl) ?_
    refine va_get (D := (dC, dI)) (ci := 1) (v := .ref (a 1)) (C := RX1) (T := TX1) (N := 4) hx hb htg inX1 hown hK hP 3 (wC_g3 a k _) rfl 2 (by decide) (htg _ q_100) (fun _ h9 => h9) rfl dX1_isBefore_32 ?_
    refine va_get (D := (dC, dI)) (ci := 4) (v := .ref (a 7)) (C := RX4) (T := TX4) (N := 9) hx hb htg inX4 hown hK hP 1 (wC_g1 a k _) rfl 0 (by decide) (htg _ q_31) (fun _ h9 => h9) rfl dX1_isBefore_35 ?_
    refine lv_iload_n hx hb dX1_isBefore_38 rfl (lv_at hl 3 rfl) ?_
    refine va_iald hx hb hK hP 7 0 (wC_g7 a k _) rfl (vp_in_nI (n := x) (N := 200) (by omega) (by decide)) dX1_isBefore_39 ?_
    refine wtopi (nI (cu_F u 0 x)) (congrArg (fun j9 => nI (cu_F u 0 j9)) (nI_clamp (n := x) (Nat.lt_trans (m := 200) (by omega) (by decide)))) ?_
    refine lv_aload_n hx hb dX1_isBefore_40 rfl (lv_at hl 2 rfl) ?_
    refine va_get (D := (dC, dI)) (ci := 1) (v := .ref (a 1)) (C := RX1) (T := TX1) (N := 4) hx hb htg inX1 hown hK hP 3 (wC_g3 a k _) rfl 2 (by decide) (htg _ q_100) (fun _ h9 => h9) rfl dX1_isBefore_41 ?_
    refine va_get (D := (dC, dI)) (ci := 4) (v := .ref (a 7)) (C := RX4) (T := TX4) (N := 9) hx hb htg inX4 hown hK hP 1 (wC_g1 a k _) rfl 0 (by decide) (htg _ q_31) (fun _ h9 => h9) rfl dX1_isBefore_44 ?_
    refine lv_iload_n hx hb dX1_isBefore_47 rfl (lv_at hl 4 rfl) ?_
    refine va_iald hx hb hK hP 7 0 (wC_g7 a k _) rfl (vp_in_nI (n := y) (N := 200) (by omega) (by decide)) dX1_isBefore_48 ?_
    refine wtopi (nI (cu_F u 0 y)) (congrArg (fun j9 => nI (cu_F u 0 j9)) (nI_clamp (n := y) (Nat.lt_trans (m := 200) (by omega) (by decide)))) ?_
    refine nb_eq (a := (cu_F u 0 x)) (b := (cu_F u 0 y)) (tgt := 79) hx hb (by omega) (by omega) rfl rfl dX1_isBefore_49 (by decide) (fun c_49 => ?_) (fun c_49 => ?_)
    · refine lv_iload_n hx hb dX1_isBefore_79 rfl (lv_at hl 3 rfl) ?_
      refine lv_iload_n hx hb dX1_isBefore_80 rfl (lv_at hl 4 rfl) ?_
      refine nb_ge (a := x) (b := y) (tgt := 88) hx hb (by omega) (by omega) rfl rfl dX1_isBefore_81 (by decide) (fun c_81 => ?_) (fun c_81 => ?_)
      · refine lv_iconst (v := 0) hx hb dX1_isBefore_88 (by decide) ?_
        exact W.zret (v := bI false) hx hb hr (bI_narw _) (fun t ht hW => ⟨_, rfl, (congrArg bI (by unfold c_lt; symm; simp only [decide_eq_true_eq, decide_eq_false_iff_not]; omega)), ht⟩) (fun _ h => by cases h) dX1_isBefore_89
      · refine lv_iconst (v := 1) hx hb dX1_isBefore_84 (by decide) ?_
        refine lv_goto (tgt := 89) hx hb dX1_isBefore_85 (by decide) ?_
        exact W.zret (v := bI true) hx hb hr (bI_narw _) (fun t ht hW => ⟨_, rfl, (congrArg bI (by unfold c_lt; symm; simp only [decide_eq_true_eq, decide_eq_false_iff_not]; omega)), ht⟩) (fun _ h => by cases h) dX1_isBefore_89
    · refine lv_aload_n hx hb dX1_isBefore_52 rfl (lv_at hl 2 rfl) ?_
      refine va_get (D := (dC, dI)) (ci := 1) (v := .ref (a 1)) (C := RX1) (T := TX1) (N := 4) hx hb htg inX1 hown hK hP 3 (wC_g3 a k _) rfl 2 (by decide) (htg _ q_100) (fun _ h9 => h9) rfl dX1_isBefore_53 ?_
      refine va_get (D := (dC, dI)) (ci := 4) (v := .ref (a 7)) (C := RX4) (T := TX4) (N := 9) hx hb htg inX4 hown hK hP 1 (wC_g1 a k _) rfl 0 (by decide) (htg _ q_31) (fun _ h9 => h9) rfl dX1_isBefore_56 ?_
      refine lv_iload_n hx hb dX1_isBefore_59 rfl (lv_at hl 3 rfl) ?_
      refine va_iald hx hb hK hP 7 0 (wC_g7 a k _) rfl (vp_in_nI (n := x) (N := 200) (by omega) (by decide)) dX1_isBefore_60 ?_
      refine wtopi (nI (cu_F u 0 x)) (congrArg (fun j9 => nI (cu_F u 0 j9)) (nI_clamp (n := x) (Nat.lt_trans (m := 200) (by omega) (by decide)))) ?_
      refine lv_aload_n hx hb dX1_isBefore_61 rfl (lv_at hl 2 rfl) ?_
      refine va_get (D := (dC, dI)) (ci := 1) (v := .ref (a 1)) (C := RX1) (T := TX1) (N := 4) hx hb htg inX1 hown hK hP 3 (wC_g3 a k _) rfl 2 (by decide) (htg _ q_100) (fun _ h9 => h9) rfl dX1_isBefore_62 ?_
      refine va_get (D := (dC, dI)) (ci := 4) (v := .ref (a 7)) (C := RX4) (T := TX4) (N := 9) hx hb htg inX4 hown hK hP 1 (wC_g1 a k _) rfl 0 (by decide) (htg _ q_31) (fun _ h9 => h9) rfl dX1_isBefore_65 ?_
      refine lv_iload_n hx hb dX1_isBefore_68 rfl (lv_at hl 4 rfl) ?_
      refine va_iald hx hb hK hP 7 0 (wC_g7 a k _) rfl (vp_in_nI (n := y) (N := 200) (by omega) (by decide)) dX1_isBefore_69 ?_
      refine wtopi (nI (cu_F u 0 y)) (congrArg (fun j9 => nI (cu_F u 0 j9)) (nI_clamp (n := y) (Nat.lt_trans (m := 200) (by omega) (by decide)))) ?_
      refine nb_ge (a := (cu_F u 0 x)) (b := (cu_F u 0 y)) (tgt := 77) hx hb (by omega) (by omega) rfl rfl dX1_isBefore_70 (by decide) (fun c_70 => ?_) (fun c_70 => ?_)
      · refine lv_iconst (v := 0) hx hb dX1_isBefore_77 (by decide) ?_
        exact W.zret (v := bI false) hx hb hr (bI_narw _) (fun t ht hW => ⟨_, rfl, (congrArg bI (by unfold c_lt; symm; simp only [decide_eq_true_eq, decide_eq_false_iff_not]; omega)), ht⟩) (fun _ h => by cases h) dX1_isBefore_78
      · refine lv_iconst (v := 1) hx hb dX1_isBefore_73 (by decide) ?_
        refine lv_goto (tgt := 78) hx hb dX1_isBefore_74 (by decide) ?_
        exact W.zret (v := bI true) hx hb hr (bI_narw _) (fun t ht hW => ⟨_, rfl, (congrArg bI (by unfold c_lt; symm; simp only [decide_eq_true_eq, decide_eq_false_iff_not]; omega)), ht⟩) (fun _ h => by cases h) dX1_isBefore_78
  · refine lv_iload_n hx hb dX1_isBefore_19 rfl (lv_at hl 1 rfl) ?_
    refine lv_iload hx hb dX1_isBefore_20 (lv_at hl 0 rfl) ?_
    refine ib_ge (a := (c_beg u x)) (b := (c_beg u y)) (tgt := 29) hx hb (by omega) (by omega) (by omega) (by omega) rfl rfl dX1_isBefore_22 (by decide) (fun c_22 => ?_) (fun c_22 => ?_)
    · refine lv_iconst (v := 0) hx hb dX1_isBefore_29 (by decide) ?_
      exact W.zret (v := bI false) hx hb hr (bI_narw _) (fun t ht hW => ⟨_, rfl, (congrArg bI (by unfold c_lt; symm; simp only [decide_eq_true_eq, decide_eq_false_iff_not]; omega)), ht⟩) (fun _ h => by cases h) dX1_isBefore_30
    · refine lv_iconst (v := 1) hx hb dX1_isBefore_25 (by decide) ?_
      refine lv_goto (tgt := 30) hx hb dX1_isBefore_26 (by decide) ?_
      exact W.zret (v := bI true) hx hb hr (bI_narw _) (fun t ht hW => ⟨_, rfl, (congrArg bI (by unfold c_lt; symm; simp only [decide_eq_true_eq, decide_eq_false_iff_not]; omega)), ht⟩) (fun _ h => by cases h) dX1_isBefore_30
set_option maxHeartbeats 4000000 in
set_option maxRecDepth 100000 in
theorem c_X4_isOf (l : Launch) (dC : Nat → ClassId) (dI : Nat → Nat → Nat) (a : Nat → Nat) (k : c_K) (u : c_St) (n : Nat) (hn : n < 200) (au ai : Int32) : Met l yX4_isOf wsX4_isOf ({ frames := 0, cells := 0, slots := 0, locals := 0 }) (va_Pc [.ref (a 1), .int (nI n), .int au, .int ai] (w_ro (dC, dI) vwCl (wC a k u) (tC k))) (vp_Si (fun r => r = bI (c_of u n au ai))) 0 0 (fun _ => False) := by
  refine Met.ofW (cc := cX4_isOf) (maxL := 4) (ret := (some .boolean)) (by decide) rfl ?_
  intro p e s m args below meth c s₁ B hml hv
  obtain ⟨rfl, hP, hK⟩ := hv
  have hx := B.exec
  have hb := B.bytes
  have hr := B.returns
  have hts := atoms_spec (ws := wsX4_isOf) B.pre
  have htg : ∀ w ∈ wG, w.before _ s = true := fun w h => hts w (List.mem_cons_of_mem _ h)
  have hown : s.vm.findClass RX4 = some m.cls := findClass_of_methodNamed B.named
  have hlocks := B.notSynchronized
  have hl := lv_entry ([.ref (a 1), .int (nI n), .int au, .int ai]) (n := 4) (Nat.le_of_ble_eq_true rfl)
  rw [lg_entry_eq]
  generalize (lg_sl ([.ref (a 1), .int (nI n), .int au, .int ai]) ++ List.replicate (4 - (lg_sl ([.ref (a 1), .int (nI n), .int au, .int ai])).length) Slot.unset).toArray = ls at hl ⊢
  have hl : lv_has ls 4 [(0, .ref (a 1)), (1, .int (nI n)), (2, .int au), (3, .int ai)] := hl
  refine lv_iload_n hx hb dX4_isOf_0 rfl (lv_at hl 2 rfl) ?_
  refine lv_iconst (v := (-1)) hx hb dX4_isOf_1 (by decide) ?_
  refine lv_icmp_eq (tgt := 15) hx hb dX4_isOf_2 (by decide) (fun c_2 => ?_) (fun c_2 => ?_)
  · refine lv_iload_n hx hb dX4_isOf_15 rfl (lv_at hl 3 rfl) ?_
    refine lv_iconst (v := (-1)) hx hb dX4_isOf_16 (by decide) ?_
    refine lv_icmp_eq (tgt := 30) hx hb dX4_isOf_17 (by decide) (fun c_17 => ?_) (fun c_17 => ?_)
    · refine lv_iconst (v := 1) hx hb dX4_isOf_30 (by decide) ?_
      refine lv_goto (tgt := 35) hx hb dX4_isOf_31 (by decide) ?_
      exact W.zret (v := bI true) hx hb hr (bI_narw _) (fun t ht hW => ⟨_, rfl, (congrArg bI (by unfold c_of; symm; simp_all)), ht⟩) (fun _ h => by cases h) dX4_isOf_35
    · refine lv_iload_n hx hb dX4_isOf_20 rfl (lv_at hl 3 rfl) ?_
      refine lv_aload_n hx hb dX4_isOf_21 rfl (lv_at hl 0 rfl) ?_
      refine va_get (D := (dC, dI)) (ci := 4) (v := .ref (a 12)) (C := RX4) (T := TX4) (N := 9) hx hb htg inX4 hown hK hP 1 (wC_g1 a k _) rfl 5 (by decide) (htg _ q_39) (fun _ h9 => h9) rfl dX4_isOf_22 ?_
      refine lv_iload_n hx hb dX4_isOf_25 rfl (lv_at hl 1 rfl) ?_
      refine va_iald hx hb hK hP 12 0 (wC_g12 a k _) rfl (vp_in_nI (n := n) (N := 200) (by omega) (by decide)) dX4_isOf_26 ?_
      refine wtopi (nI (cu_F u 4 n)) (congrArg (fun j9 => nI (cu_F u 4 j9)) (nI_clamp (n := n) (Nat.lt_trans (m := 200) (by omega) (by decide)))) ?_
      refine lv_icmp_ne (tgt := 34) hx hb dX4_isOf_27 (by decide) (fun c_27 => ?_) (fun c_27 => ?_)
      · refine lv_iconst (v := 0) hx hb dX4_isOf_34 (by decide) ?_
        exact W.zret (v := bI false) hx hb hr (bI_narw _) (fun t ht hW => ⟨_, rfl, (congrArg bI (by unfold c_of; symm; simp_all)), ht⟩) (fun _ h => by cases h) dX4_isOf_35
      · refine lv_iconst (v := 1) hx hb dX4_isOf_30 (by decide) ?_
        refine lv_goto (tgt := 35) hx hb dX4_isOf_31 (by decide) ?_
        exact W.zret (v := bI true) hx hb hr (bI_narw _) (fun t ht hW => ⟨_, rfl, (congrArg bI (by unfold c_of; symm; simp_all)), ht⟩) (fun _ h => by cases h) dX4_isOf_35
  · refine lv_iload_n hx hb dX4_isOf_5 rfl (lv_at hl 2 rfl) ?_
    refine lv_aload_n hx hb dX4_isOf_6 rfl (lv_at hl 0 rfl) ?_
    refine va_get (D := (dC, dI)) (ci := 4) (v := .ref (a 11)) (C := RX4) (T := TX4) (N := 9) hx hb htg inX4 hown hK hP 1 (wC_g1 a k _) rfl 4 (by decide) (htg _ q_38) (fun _ h9 => h9) rfl dX4_isOf_7 ?_
    refine lv_iload_n hx hb dX4_isOf_10 rfl (lv_at hl 1 rfl) ?_
    refine va_iald hx hb hK hP 11 0 (wC_g11 a k _) rfl (vp_in_nI (n := n) (N := 200) (by omega) (by decide)) dX4_isOf_11 ?_
    refine wtopi (nI (cu_F u 3 n)) (congrArg (fun j9 => nI (cu_F u 3 j9)) (nI_clamp (n := n) (Nat.lt_trans (m := 200) (by omega) (by decide)))) ?_
    refine lv_icmp_ne (tgt := 34) hx hb dX4_isOf_12 (by decide) (fun c_12 => ?_) (fun c_12 => ?_)
    · refine lv_iconst (v := 0) hx hb dX4_isOf_34 (by decide) ?_
      exact W.zret (v := bI false) hx hb hr (bI_narw _) (fun t ht hW => ⟨_, rfl, (congrArg bI (by unfold c_of; symm; simp_all)), ht⟩) (fun _ h => by cases h) dX4_isOf_35
    · refine lv_iload_n hx hb dX4_isOf_15 rfl (lv_at hl 3 rfl) ?_
      refine lv_iconst (v := (-1)) hx hb dX4_isOf_16 (by decide) ?_
      refine lv_icmp_eq (tgt := 30) hx hb dX4_isOf_17 (by decide) (fun c_17 => ?_) (fun c_17 => ?_)
      · refine lv_iconst (v := 1) hx hb dX4_isOf_30 (by decide) ?_
        refine lv_goto (tgt := 35) hx hb dX4_isOf_31 (by decide) ?_
        exact W.zret (v := bI true) hx hb hr (bI_narw _) (fun t ht hW => ⟨_, rfl, (congrArg bI (by unfold c_of; symm; simp_all)), ht⟩) (fun _ h => by cases h) dX4_isOf_35
      · refine lv_iload_n hx hb dX4_isOf_20 rfl (lv_at hl 3 rfl) ?_
        refine lv_aload_n hx hb dX4_isOf_21 rfl (lv_at hl 0 rfl) ?_
        refine va_get (D := (dC, dI)) (ci := 4) (v := .ref (a 12)) (C := RX4) (T := TX4) (N := 9) hx hb htg inX4 hown hK hP 1 (wC_g1 a k _) rfl 5 (by decide) (htg _ q_39) (fun _ h9 => h9) rfl dX4_isOf_22 ?_
        refine lv_iload_n hx hb dX4_isOf_25 rfl (lv_at hl 1 rfl) ?_
        refine va_iald hx hb hK hP 12 0 (wC_g12 a k _) rfl (vp_in_nI (n := n) (N := 200) (by omega) (by decide)) dX4_isOf_26 ?_
        refine wtopi (nI (cu_F u 4 n)) (congrArg (fun j9 => nI (cu_F u 4 j9)) (nI_clamp (n := n) (Nat.lt_trans (m := 200) (by omega) (by decide)))) ?_
        refine lv_icmp_ne (tgt := 34) hx hb dX4_isOf_27 (by decide) (fun c_27 => ?_) (fun c_27 => ?_)
        · refine lv_iconst (v := 0) hx hb dX4_isOf_34 (by decide) ?_
          exact W.zret (v := bI false) hx hb hr (bI_narw _) (fun t ht hW => ⟨_, rfl, (congrArg bI (by unfold c_of; symm; simp_all)), ht⟩) (fun _ h => by cases h) dX4_isOf_35
        · refine lv_iconst (v := 1) hx hb dX4_isOf_30 (by decide) ?_
          refine lv_goto (tgt := 35) hx hb dX4_isOf_31 (by decide) ?_
          exact W.zret (v := bI true) hx hb hr (bI_narw _) (fun t ht hW => ⟨_, rfl, (congrArg bI (by unfold c_of; symm; simp_all)), ht⟩) (fun _ h => by cases h) dX4_isOf_35
end
section
/-! the class's writing helpers in numbers -/
/-- a new slot -/
def c_add (u : c_St) (sc tm n : Nat) (bt : Int64) (un ic : Nat) : c_St := cs_N (cs_G (cs_B (cs_F (cs_F (cs_L (cs_F (cs_F (cs_F u 0 (cu_N u 0) sc) 1 (cu_N u 0) tm) 2 (cu_N u 0) n) (cu_N u 0) bt) 3 (cu_N u 0) un) 4 (cu_N u 0) ic) 0 (cu_N u 0) true) 0 (cu_N u 0) (c_sm bt n 0 0 n)) 0 (cu_N u 0 + 1)
/-- the line's order as a whole -/
def cs_O (u : c_St) (f : Nat → Nat) : c_St := (u.1, fun k i => if k = 6 then f i else u.2.1 k i, u.2.2.1, u.2.2.2.1, u.2.2.2.2.1, u.2.2.2.2.2)
theorem cx_O6 (u : c_St) (f : Nat → Nat) (i : Nat) : cu_F (cs_O u f) 6 i = f i := rfl
theorem c_ext {u v : c_St} (h1 : ∀ k, cu_N u k = cu_N v k) (h2 : ∀ k i, cu_F u k i = cu_F v k i) (h3 : ∀ k i, cu_B u k i = cu_B v k i) (h4 : ∀ k i, cu_G u k i = cu_G v k i) (h5 : ∀ k i, cu_D u k i = cu_D v k i) (h6 : ∀ i, cu_L u i = cu_L v i) : u = v := by
  obtain ⟨a1, a2, a3, a4, a5, a6⟩ := u
  obtain ⟨b1, b2, b3, b4, b5, b6⟩ := v
  have e1 : a1 = b1 := funext h1
  have e2 : a2 = b2 := funext fun k => funext (h2 k)
  have e3 : a3 = b3 := funext fun k => funext (h3 k)
  have e4 : a4 = b4 := funext fun k => funext (h4 k)
  have e5 : a5 = b5 := funext fun k => funext (h5 k)
  have e6 : a6 = b6 := funext h6
  subst e1 e2 e3 e4 e5 e6
  rfl
/-- the line while a place is looked for: what stood from t on stands one further, up to pl -/
def c_shift (u : c_St) (t pl : Nat) : c_St := cs_O u (fun j => if t < j ∧ j ≤ pl then cu_F u 6 (j - 1) else cu_F u 6 j)
theorem c_shift_0 (u : c_St) (pl : Nat) : c_shift u pl pl = u := by
  refine c_ext (fun _ => rfl) (fun k i => ?_) (fun _ _ => rfl) (fun _ _ => rfl) (fun _ _ => rfl) (fun _ => rfl)
  show (if k = 6 then (if pl < i ∧ i ≤ pl then cu_F u 6 (i - 1) else cu_F u 6 i) else cu_F u k i) = cu_F u k i
  split
  · rename_i h; rw [if_neg (by omega), h]
  · rfl
theorem c_shift_s (u : c_St) {t pl : Nat} (h0 : 0 < t) (h1 : t ≤ pl) : cs_F (c_shift u t pl) 6 t (cu_F u 6 (t - 1)) = c_shift u (t - 1) pl := by
  refine c_ext (fun _ => rfl) (fun k i => ?_) (fun _ _ => rfl) (fun _ _ => rfl) (fun _ _ => rfl) (fun _ => rfl)
  show (if k = 6 then (if i = t then cu_F u 6 (t - 1) else (if k = 6 then (if t < i ∧ i ≤ pl then cu_F u 6 (i - 1) else cu_F u 6 i) else cu_F u k i)) else (if k = 6 then (if t < i ∧ i ≤ pl then cu_F u 6 (i - 1) else cu_F u 6 i) else cu_F u k i)) = (if k = 6 then (if t - 1 < i ∧ i ≤ pl then cu_F u 6 (i - 1) else cu_F u 6 i) else cu_F u k i)
  by_cases hk : k = 6
  · rw [if_pos hk, if_pos hk, if_pos hk]
    by_cases hi : i = t
    · rw [if_pos hi, if_pos (by omega), hi]
    · rw [if_neg hi]
      by_cases h3 : t < i ∧ i ≤ pl
      · rw [if_pos h3, if_pos (by omega)]
      · rw [if_neg h3, if_neg (by omega)]
  · rw [if_neg hk, if_neg hk, if_neg hk]
/-- the line without its place t, as far as k places are looked at -/
def c_cut (u : c_St) (t k : Nat) : c_St := cs_O u (fun j => if t ≤ j ∧ j + 1 < k then cu_F u 6 (j + 1) else cu_F u 6 j)
theorem c_cut_0 (u : c_St) {t k : Nat} (h : k ≤ t + 1) : c_cut u t k = u := by
  refine c_ext (fun _ => rfl) (fun q i => ?_) (fun _ _ => rfl) (fun _ _ => rfl) (fun _ _ => rfl) (fun _ => rfl)
  show (if q = 6 then (if t ≤ i ∧ i + 1 < k then cu_F u 6 (i + 1) else cu_F u 6 i) else cu_F u q i) = cu_F u q i
  split
  · rename_i h; rw [if_neg (by omega), h]
  · rfl
theorem c_cut_same (u : c_St) {t k : Nat} (h : k < t) : cs_F (c_cut u t k) 6 k (cu_F u 6 k) = c_cut u t (k + 1) := by
  rw [c_cut_0 u (by omega), c_cut_0 u (by omega)]
  refine c_ext (fun _ => rfl) (fun q i => ?_) (fun _ _ => rfl) (fun _ _ => rfl) (fun _ _ => rfl) (fun _ => rfl)
  rw [cx_FF]
  split
  · rename_i h; subst h
    split
    · rename_i h; rw [h]
    · rfl
  · rfl
theorem c_cut_s (u : c_St) {t k : Nat} (h : t < k) : cs_F (c_cut u t k) 6 (k - 1) (cu_F u 6 k) = c_cut u t (k + 1) := by
  refine c_ext (fun _ => rfl) (fun q i => ?_) (fun _ _ => rfl) (fun _ _ => rfl) (fun _ _ => rfl) (fun _ => rfl)
  rw [cx_FF]
  show (if q = 6 then (if i = k - 1 then cu_F u 6 k else (if q = 6 then (if t ≤ i ∧ i + 1 < k then cu_F u 6 (i + 1) else cu_F u 6 i) else cu_F u q i)) else (if q = 6 then (if t ≤ i ∧ i + 1 < k then cu_F u 6 (i + 1) else cu_F u 6 i) else cu_F u q i)) = (if q = 6 then (if t ≤ i ∧ i + 1 < k + 1 then cu_F u 6 (i + 1) else cu_F u 6 i) else cu_F u q i)
  by_cases hq : q = 6
  · rw [if_pos hq, if_pos hq, if_pos hq]
    by_cases hi : i = k - 1
    · rw [if_pos hi, if_pos (by omega), show i + 1 = k by omega]
    · rw [if_neg hi]
      by_cases h3 : t ≤ i ∧ i + 1 < k
      · rw [if_pos h3, if_pos (by omega)]
      · rw [if_neg h3, if_neg (by omega)]
  · rw [if_neg hq, if_neg hq, if_neg hq]

set_option maxHeartbeats 4000000 in
set_option maxRecDepth 100000 in
theorem c_X4_add (l : Launch) (dC : Nat → ClassId) (dI : Nat → Nat → Nat) (a : Nat → Nat) (k : c_K) (u : c_St) (sz : Nat) (sc tm n : Nat) (bt : Int64) (un ic : Nat) (hN : cu_N u 0 < 200) (hn : n ≤ 8) : Met l yX4_add wsX4_add ({ frames := 3, cells := 0, slots := 0, locals := 71 }) (va_Pc [.ref (a 1), .int (nI sc), .int (nI tm), .int (nI n), .long bt, .int (nI un), .int (nI ic)] (w_mu (dC, dI) vwCl (wC a k u) (tC k) sz)) (va_Qi (fun (r : Int32) (u1 : c_St) => r = nI (cu_N u 0) ∧ u1 = c_add u sc tm n bt un ic) (w_at (dC, dI) vwCl (wC a k) (tC k) (va_A (wC a k u) sz)) (va_A (wC a k u) sz)) 0 0 (va_A (wC a k u) sz) := by
  refine Met.ofW (cc := cX4_add) (maxL := 9) (ret := (some .int)) (by decide) rfl ?_
  intro p e s m args below meth c s₁ B hml hv
  obtain ⟨rfl, hsz, hP, hK, hD0⟩ := hv
  have hx := B.exec
  have hb := B.bytes
  have hr := B.returns
  have hts := atoms_spec (ws := wsX4_add) B.pre
  have htg : ∀ w ∈ wG, w.before _ s = true := fun w h => hts w (List.mem_cons_of_mem _ h)
  have hown : s.vm.findClass RX4 = some m.cls := findClass_of_methodNamed B.named
  have hlocks := B.notSynchronized
  subst hsz
  have hD := hD0.self (sz := s.heap.size)
  generalize hAe : va_A (wC a k u) s.heap.size = A at hD ⊢
  have hA : ∀ q : Nat, s.heap.size ≤ q → A q := fun q h => by rw [← hAe]; exact Or.inr h
  have hS : va_S A s.heap s.heap [] := va_S.rf
  have hl := lv_entry ([.ref (a 1), .int (nI sc), .int (nI tm), .int (nI n), .long bt, .int (nI un), .int (nI ic)]) (n := 9) (Nat.le_of_ble_eq_true rfl)
  rw [lg_entry_eq]
  generalize (lg_sl ([.ref (a 1), .int (nI sc), .int (nI tm), .int (nI n), .long bt, .int (nI un), .int (nI ic)]) ++ List.replicate (9 - (lg_sl ([.ref (a 1), .int (nI sc), .int (nI tm), .int (nI n), .long bt, .int (nI un), .int (nI ic)])).length) Slot.unset).toArray = ls at hl ⊢
  have hl : lv_has ls 9 [(0, .ref (a 1)), (1, .int (nI sc)), (2, .int (nI tm)), (3, .int (nI n)), (4, .long bt), (6, .int (nI un)), (7, .int (nI ic))] := hl
  refine lv_aload_n hx hb dX4_add_0 rfl (lv_at hl 0 rfl) ?_
  refine va_get (D := (dC, dI)) (ci := 4) (v := .int (nI (cu_N u 0))) (C := RX4) (T := TX4) (N := 9) hx hb htg inX4 hown hK hP 1 (wC_g1 a k _) rfl 8 (by decide) (htg _ q_45) (fun _ h9 => h9) rfl dX4_add_1 ?_
  refine lv_istore (lv' := [(8, .int (nI (cu_N u 0))), (0, .ref (a 1)), (1, .int (nI sc)), (2, .int (nI tm)), (3, .int (nI n)), (4, .long bt), (6, .int (nI un)), (7, .int (nI ic))]) hx hb dX4_add_4 hl (by decide) rfl (fun ls hl => ?_)
  refine lv_aload_n hx hb dX4_add_6 rfl (lv_at hl 1 rfl) ?_
  refine va_get (D := (dC, dI)) (ci := 4) (v := .ref (a 7)) (C := RX4) (T := TX4) (N := 9) hx hb htg inX4 hown hK hP 1 (wC_g1 a k _) rfl 0 (by decide) (htg _ q_30) (fun _ h9 => h9) rfl dX4_add_7 ?_
  refine lv_iload hx hb dX4_add_10 (lv_at hl 0 rfl) ?_
  refine lv_iload_n hx hb dX4_add_12 rfl (lv_at hl 2 rfl) ?_
  refine va_iast hx hb hK hP hD hS 7 0 (wC_g7 a k _) rfl (vp_in_nI (n := (cu_N u 0)) (N := 200) hN (by decide)) dX4_add_13 (fun H locs hP hD hS => ?_)
  have hP := w_pE (wC_s7 a k _ (cu_N u 0) sc (Nat.lt_trans (m := 200) hN (by decide))) hP
  have hD := w_dE (wC_s7 a k _ (cu_N u 0) sc (Nat.lt_trans (m := 200) hN (by decide))) hD
  refine lv_aload_n hx hb dX4_add_14 rfl (lv_at hl 1 rfl) ?_
  refine va_get (D := (dC, dI)) (ci := 4) (v := .ref (a 8)) (C := RX4) (T := TX4) (N := 9) hx hb htg inX4 hown hK hP 1 (wC_g1 a k _) rfl 1 (by decide) (htg _ q_32) (fun _ h9 => h9) rfl dX4_add_15 ?_
  refine lv_iload hx hb dX4_add_18 (lv_at hl 0 rfl) ?_
  refine lv_iload_n hx hb dX4_add_20 rfl (lv_at hl 3 rfl) ?_
  refine va_iast hx hb hK hP hD hS 8 0 (wC_g8 a k _) rfl (vp_in_nI (n := (cu_N u 0)) (N := 200) hN (by decide)) dX4_add_21 (fun H locs hP hD hS => ?_)
  have hP := w_pE (wC_s8 a k _ (cu_N u 0) tm (Nat.lt_trans (m := 200) hN (by decide))) hP
  have hD := w_dE (wC_s8 a k _ (cu_N u 0) tm (Nat.lt_trans (m := 200) hN (by decide))) hD
  refine lv_aload_n hx hb dX4_add_22 rfl (lv_at hl 1 rfl) ?_
  refine va_get (D := (dC, dI)) (ci := 4) (v := .ref (a 9)) (C := RX4) (T := TX4) (N := 9) hx hb htg inX4 hown hK hP 1 (wC_g1 a k _) rfl 2 (by decide) (htg _ q_34) (fun _ h9 => h9) rfl dX4_add_23 ?_
  refine lv_iload hx hb dX4_add_26 (lv_at hl 0 rfl) ?_
  refine lv_iload_n hx hb dX4_add_28 rfl (lv_at hl 4 rfl) ?_
  refine va_iast hx hb hK hP hD hS 9 0 (wC_g9 a k _) rfl (vp_in_nI (n := (cu_N u 0)) (N := 200) hN (by decide)) dX4_add_29 (fun H locs hP hD hS => ?_)
  have hP := w_pE (wC_s9 a k _ (cu_N u 0) n (Nat.lt_trans (m := 200) hN (by decide))) hP
  have hD := w_dE (wC_s9 a k _ (cu_N u 0) n (Nat.lt_trans (m := 200) hN (by decide))) hD
  refine lv_aload_n hx hb dX4_add_30 rfl (lv_at hl 1 rfl) ?_
  refine va_get (D := (dC, dI)) (ci := 4) (v := .ref (a 10)) (C := RX4) (T := TX4) (N := 9) hx hb htg inX4 hown hK hP 1 (wC_g1 a k _) rfl 3 (by decide) (htg _ q_37) (fun _ h9 => h9) rfl dX4_add_31 ?_
  refine lv_iload hx hb dX4_add_34 (lv_at hl 0 rfl) ?_
  refine lv_lload hx hb dX4_add_36 (lv_at hl 5 rfl) ?_
  refine va_last hx hb hK hP hD hS 10 1 (wC_g10 a k _) rfl (vp_in_nI (n := (cu_N u 0)) (N := 200) hN (by decide)) dX4_add_38 (fun H locs hP hD hS => ?_)
  have hP := w_pE (wC_s10 a k _ (cu_N u 0) bt (Nat.lt_trans (m := 200) hN (by decide))) hP
  have hD := w_dE (wC_s10 a k _ (cu_N u 0) bt (Nat.lt_trans (m := 200) hN (by decide))) hD
  refine lv_aload_n hx hb dX4_add_39 rfl (lv_at hl 1 rfl) ?_
  refine va_get (D := (dC, dI)) (ci := 4) (v := .ref (a 11)) (C := RX4) (T := TX4) (N := 9) hx hb htg inX4 hown hK hP 1 (wC_g1 a k _) rfl 4 (by decide) (htg _ q_38) (fun _ h9 => h9) rfl dX4_add_40 ?_
  refine lv_iload hx hb dX4_add_43 (lv_at hl 0 rfl) ?_
  refine lv_iload hx hb dX4_add_45 (lv_at hl 6 rfl) ?_
  refine va_iast hx hb hK hP hD hS 11 0 (wC_g11 a k _) rfl (vp_in_nI (n := (cu_N u 0)) (N := 200) hN (by decide)) dX4_add_47 (fun H locs hP hD hS => ?_)
  have hP := w_pE (wC_s11 a k _ (cu_N u 0) un (Nat.lt_trans (m := 200) hN (by decide))) hP
  have hD := w_dE (wC_s11 a k _ (cu_N u 0) un (Nat.lt_trans (m := 200) hN (by decide))) hD
  refine lv_aload_n hx hb dX4_add_48 rfl (lv_at hl 1 rfl) ?_
  refine va_get (D := (dC, dI)) (ci := 4) (v := .ref (a 12)) (C := RX4) (T := TX4) (N := 9) hx hb htg inX4 hown hK hP 1 (wC_g1 a k _) rfl 5 (by decide) (htg _ q_39) (fun _ h9 => h9) rfl dX4_add_49 ?_
  refine lv_iload hx hb dX4_add_52 (lv_at hl 0 rfl) ?_
  refine lv_iload hx hb dX4_add_54 (lv_at hl 7 rfl) ?_
  refine va_iast hx hb hK hP hD hS 12 0 (wC_g12 a k _) rfl (vp_in_nI (n := (cu_N u 0)) (N := 200) hN (by decide)) dX4_add_56 (fun H locs hP hD hS => ?_)
  have hP := w_pE (wC_s12 a k _ (cu_N u 0) ic (Nat.lt_trans (m := 200) hN (by decide))) hP
  have hD := w_dE (wC_s12 a k _ (cu_N u 0) ic (Nat.lt_trans (m := 200) hN (by decide))) hD
  refine lv_aload_n hx hb dX4_add_57 rfl (lv_at hl 1 rfl) ?_
  refine va_get (D := (dC, dI)) (ci := 4) (v := .ref (a 14)) (C := RX4) (T := TX4) (N := 9) hx hb htg inX4 hown hK hP 1 (wC_g1 a k _) rfl 7 (by decide) (htg _ q_43) (fun _ h9 => h9) rfl dX4_add_58 ?_
  refine lv_iload hx hb dX4_add_61 (lv_at hl 0 rfl) ?_
  refine lv_iconst (v := 1) hx hb dX4_add_63 (by decide) ?_
  refine va_zast hx hb hK hP hD hS 14 2 (wC_g14 a k _) rfl (vp_in_nI (n := (cu_N u 0)) (N := 200) hN (by decide)) dX4_add_64 (fun H locs hP hD hS => ?_)
  have hP := w_pE (wC_s14 a k _ (cu_N u 0) true (Nat.lt_trans (m := 200) hN (by decide))) hP
  have hD := w_dE (wC_s14 a k _ (cu_N u 0) true (Nat.lt_trans (m := 200) hN (by decide))) hD
  refine lv_aload_n hx hb dX4_add_65 rfl (lv_at hl 1 rfl) ?_
  refine va_get (D := (dC, dI)) (ci := 4) (v := .ref (a 13)) (C := RX4) (T := TX4) (N := 9) hx hb htg inX4 hown hK hP 1 (wC_g1 a k _) rfl 6 (by decide) (htg _ q_41) (fun _ h9 => h9) rfl dX4_add_66 ?_
  refine lv_iload hx hb dX4_add_69 (lv_at hl 0 rfl) ?_
  refine lv_aload_n hx hb dX4_add_71 rfl (lv_at hl 1 rfl) ?_
  refine lv_iload hx hb dX4_add_72 (lv_at hl 0 rfl) ?_
  refine vp_callSi (W.runV (As := [.int (nI (cu_N u 0))]) (rest := [.int (nI (cu_N u 0)), .ref (a 13)]) ⟨hx, hb, hml, hown, hts⟩ (c_X4_sumNow l dC dI a k (cs_B (cs_F (cs_F (cs_L (cs_F (cs_F (cs_F u 0 (cu_N u 0) sc) 1 (cu_N u 0) tm) 2 (cu_N u 0) n) (cu_N u 0) bt) 3 (cu_N u 0) un) 4 (cu_N u 0) ic) 0 (cu_N u 0) true) (cu_N u 0) hN (by simp [cx_NN, cx_NF, cx_NB, cx_NG, cx_ND, cx_NL, cx_FN, cx_FF, cx_FB, cx_FG, cx_FD, cx_FL, cx_BN, cx_BF, cx_BB, cx_BG, cx_BD, cx_BL, cx_GN, cx_GF, cx_GB, cx_GG, cx_GD, cx_GL, cx_DN, cx_DF, cx_DB, cx_DG, cx_DD, cx_DL, cx_LN, cx_LF, cx_LB, cx_LG, cx_LD, cx_LL]; omega)) (cwV 1 hts (wG_V wG_c q_362 q_227 q_228 q_2 q_229) rfl rfl rfl (by decide +kernel) ⟨Nat.le_of_ble_eq_true rfl, Nat.le_of_ble_eq_true rfl⟩) (w_roV hK hP (ci := 4) (q0 := 1) rfl (wC_g1 a k _) rfl) rfl rfl hl.1 rfl (lv_room (Nat.le_of_ble_eq_true rfl)) dX4_add_74 ⟨Nat.le_of_ble_eq_true rfl, Nat.le_of_ble_eq_true rfl⟩) (fun r_1 hr_1 => ?_)
  subst hr_1
  refine wtopi (c_sm bt n 0 0 n) (by simp [cx_NN, cx_NF, cx_NB, cx_NG, cx_ND, cx_NL, cx_FN, cx_FF, cx_FB, cx_FG, cx_FD, cx_FL, cx_BN, cx_BF, cx_BB, cx_BG, cx_BD, cx_BL, cx_GN, cx_GF, cx_GB, cx_GG, cx_GD, cx_GL, cx_DN, cx_DF, cx_DB, cx_DG, cx_DD, cx_DL, cx_LN, cx_LF, cx_LB, cx_LG, cx_LD, cx_LL]) ?_
  refine va_iast hx hb hK hP hD hS 13 0 (wC_g13 a k _) rfl (vp_in_nI (n := (cu_N u 0)) (N := 200) hN (by decide)) dX4_add_77 (fun H locs hP hD hS => ?_)
  have hP := w_pE (wC_s13 a k _ (cu_N u 0) (c_sm bt n 0 0 n) (Nat.lt_trans (m := 200) hN (by decide))) hP
  have hD := w_dE (wC_s13 a k _ (cu_N u 0) (c_sm bt n 0 0 n) (Nat.lt_trans (m := 200) hN (by decide))) hD
  refine lv_aload_n hx hb dX4_add_78 rfl (lv_at hl 1 rfl) ?_
  refine lv_dup hx hb dX4_add_79 rfl ?_
  refine va_get (D := (dC, dI)) (ci := 4) (v := .int (nI (cu_N (cs_G (cs_B (cs_F (cs_F (cs_L (cs_F (cs_F (cs_F u 0 (cu_N u 0) sc) 1 (cu_N u 0) tm) 2 (cu_N u 0) n) (cu_N u 0) bt) 3 (cu_N u 0) un) 4 (cu_N u 0) ic) 0 (cu_N u 0) true) 0 (cu_N u 0) (c_sm bt n 0 0 n)) 0))) (C := RX4) (T := TX4) (N := 9) hx hb htg inX4 hown hK hP 1 (wC_g1 a k _) rfl 8 (by decide) (htg _ q_45) (fun _ h9 => h9) rfl dX4_add_80 ?_
  refine lv_iconst (v := 1) hx hb dX4_add_83 (by decide) ?_
  refine lv_iadd hx hb dX4_add_84 ?_
  refine wtopi (y := nI (cu_N u 0 + 1)) (nI_1 (cu_N u 0)) ?_
  refine va_put (D := (dC, dI)) (ci := 4) (v := .int (nI (cu_N u 0 + 1))) (ty := .int) (C := RX4) (T := TX4) (N := 9) hx hb htg inX4 tyX4 tyX4_ok nmX4 hown hK hP hD hS 1 (wC_g1 a k _) rfl 8 (by decide) (htg _ q_45) (fun _ h9 => h9) rfl (by decide +kernel) rfl rfl (Nat.le_of_ble_eq_true rfl) dX4_add_85 (fun H locs hP hD hS => ?_)
  have hP := w_pE (wC_n0 a k _ (cu_N u 0 + 1)) hP
  have hD := w_dE (wC_n0 a k _ (cu_N u 0 + 1)) hD
  refine lv_iload hx hb dX4_add_88 (lv_at hl 0 rfl) ?_
  exact W.iret (v := nI (cu_N u 0)) hx hb hr (fun t9 ht9 hW9 => ⟨⟨_, cs_N (cs_G (cs_B (cs_F (cs_F (cs_L (cs_F (cs_F (cs_F u 0 (cu_N u 0) sc) 1 (cu_N u 0) tm) 2 (cu_N u 0) n) (cu_N u 0) bt) 3 (cu_N u 0) un) 4 (cu_N u 0) ic) 0 (cu_N u 0) true) 0 (cu_N u 0) (c_sm bt n 0 0 n)) 0 (cu_N u 0 + 1), rfl, ⟨rfl, rfl⟩, by rw [ht9]; exact hP, va_K.moved hW9.alike hK, hD⟩, hS.F ht9⟩) hS.2.2 dX4_add_90
set_option maxHeartbeats 4000000 in
set_option maxRecDepth 100000 in
theorem c_X4_alter (l : Launch) (dC : Nat → ClassId) (dI : Nat → Nat → Nat) (a : Nat → Nat) (k : c_K) (u : c_St) (sz : Nat) (n i : Nat) (mk9 : Int32) (hn : n < 200) (hi : i < cu_F u 2 n) : Met l yX4_alter wsX4_alter ({ frames := 1, cells := 0, slots := 0, locals := 22 }) (va_Pc [.ref (a 1), .int (nI n), .int (nI i), .int mk9] (w_mu (dC, dI) vwCl (wC a k u) (tC k) sz)) (va_Qv (fun (u1 : c_St) => u1 = cs_L u n (cu_L u n ^^^ (mk9.toInt64 <<< ((nI (8 * (cu_F u 2 n - 1 - i))).toInt64 &&& 63)))) (w_at (dC, dI) vwCl (wC a k) (tC k) (va_A (wC a k u) sz)) (va_A (wC a k u) sz)) 0 0 (va_A (wC a k u) sz) := by
  refine Met.ofW (cc := cX4_alter) (maxL := 4) (ret := none) (by decide) rfl ?_
  intro p e s m args below meth c s₁ B hml hv
  obtain ⟨rfl, hsz, hP, hK, hD0⟩ := hv
  have hx := B.exec
  have hb := B.bytes
  have hr := B.returns
  have hts := atoms_spec (ws := wsX4_alter) B.pre
  have htg : ∀ w ∈ wG, w.before _ s = true := fun w h => hts w (List.mem_cons_of_mem _ h)
  have hown : s.vm.findClass RX4 = some m.cls := findClass_of_methodNamed B.named
  have hlocks := B.notSynchronized
  subst hsz
  have hD := hD0.self (sz := s.heap.size)
  generalize hAe : va_A (wC a k u) s.heap.size = A at hD ⊢
  have hA : ∀ q : Nat, s.heap.size ≤ q → A q := fun q h => by rw [← hAe]; exact Or.inr h
  have hS : va_S A s.heap s.heap [] := va_S.rf
  have hl := lv_entry ([.ref (a 1), .int (nI n), .int (nI i), .int mk9]) (n := 4) (Nat.le_of_ble_eq_true rfl)
  rw [lg_entry_eq]
  generalize (lg_sl ([.ref (a 1), .int (nI n), .int (nI i), .int mk9]) ++ List.replicate (4 - (lg_sl ([.ref (a 1), .int (nI n), .int (nI i), .int mk9])).length) Slot.unset).toArray = ls at hl ⊢
  have hl : lv_has ls 4 [(0, .ref (a 1)), (1, .int (nI n)), (2, .int (nI i)), (3, .int mk9)] := hl
  refine lv_aload_n hx hb dX4_alter_0 rfl (lv_at hl 0 rfl) ?_
  refine va_get (D := (dC, dI)) (ci := 4) (v := .ref (a 10)) (C := RX4) (T := TX4) (N := 9) hx hb htg inX4 hown hK hP 1 (wC_g1 a k _) rfl 3 (by decide) (htg _ q_37) (fun _ h9 => h9) rfl dX4_alter_1 ?_
  refine lv_iload_n hx hb dX4_alter_4 rfl (lv_at hl 1 rfl) ?_
  refine lv_dup2_11 hx hb dX4_alter_5 rfl rfl ?_
  refine va_lald hx hb hK hP 10 1 (wC_g10 a k _) rfl (vp_in_nI (n := n) (N := 200) hn (by decide)) dX4_alter_6 ?_
  refine wtopl (cu_L u n) (congrArg (fun j9 => cu_L u j9) (nI_clamp (n := n) (Nat.lt_trans (m := 200) hn (by decide)))) ?_
  refine lv_iload_n hx hb dX4_alter_7 rfl (lv_at hl 3 rfl) ?_
  refine lv_i2l hx hb dX4_alter_8 rfl ?_
  refine lv_aload_n hx hb dX4_alter_9 rfl (lv_at hl 0 rfl) ?_
  refine lv_iload_n hx hb dX4_alter_10 rfl (lv_at hl 1 rfl) ?_
  refine lv_iload_n hx hb dX4_alter_11 rfl (lv_at hl 2 rfl) ?_
  refine vp_callSi (W.runV (As := [.int (nI n), .int (nI i)]) (rest := [.long mk9.toInt64, .long (cu_L u n), .int (nI n), .ref (a 10)]) ⟨hx, hb, hml, hown, hts⟩ (c_X4_shiftOf l dC dI a k u n i hn hi) (cwV 2 hts (wG_V wG_c q_217 q_219 p_1 q_2 q_220) rfl rfl rfl (by decide +kernel) ⟨Nat.le_of_ble_eq_true rfl, Nat.le_of_ble_eq_true rfl⟩) (w_roV hK hP (ci := 4) (q0 := 1) rfl (wC_g1 a k _) rfl) rfl rfl hl.1 rfl (lv_room (Nat.le_of_ble_eq_true rfl)) dX4_alter_12 ⟨Nat.le_of_ble_eq_true rfl, Nat.le_of_ble_eq_true rfl⟩) (fun r_1 hr_1 => ?_)
  subst hr_1
  refine lv_lshl hx hb dX4_alter_15 rfl ?_
  refine lv_lxor hx hb dX4_alter_16 ?_
  refine va_last hx hb hK hP hD hS 10 1 (wC_g10 a k _) rfl (vp_in_nI (n := n) (N := 200) hn (by decide)) dX4_alter_17 (fun H locs hP hD hS => ?_)
  have hP := w_pE (wC_s10 a k _ n ((cu_L u n) ^^^ (mk9.toInt64 <<< ((nI (8 * (cu_F u 2 n - 1 - i))).toInt64 &&& 63))) (Nat.lt_trans (m := 200) hn (by decide))) hP
  have hD := w_dE (wC_s10 a k _ n ((cu_L u n) ^^^ (mk9.toInt64 <<< ((nI (8 * (cu_F u 2 n - 1 - i))).toInt64 &&& 63))) (Nat.lt_trans (m := 200) hn (by decide))) hD
  exact W.vret hx hb hr (fun t9 ht9 hW9 => ⟨⟨cs_L u n ((cu_L u n) ^^^ (mk9.toInt64 <<< ((nI (8 * (cu_F u 2 n - 1 - i))).toInt64 &&& 63))), rfl, rfl, by rw [ht9]; exact hP, va_K.moved hW9.alike hK, hD⟩, hS.F ht9⟩) hS.2.2 dX4_alter_18
set_option maxHeartbeats 4000000 in
set_option maxRecDepth 100000 in
theorem c_X3_add (l : Launch) (dC : Nat → ClassId) (dI : Nat → Nat → Nat) (a : Nat → Nat) (k : c_K) (u : c_St) (sz : Nat) (sc : Nat) (df : Int) (hN : cu_N u 1 < 60) (hs : sc < 10) (hd : cu_D u 1 sc = -1 ∨ ∃ j : Nat, j < 60 ∧ cu_D u 1 sc = (j : Int)) : Met l yX3_add wsX3_add ({ frames := 0, cells := 0, slots := 0, locals := 0 }) (va_Pc [.ref (a 2), .int (nI sc), .int (iI df)] (w_mu (dC, dI) vwCl (wC a k u) (tC k) sz)) (va_Qi (fun (r : Int32) (u1 : c_St) => r = nI (cu_N u 1) ∧ ((cu_D u 1 sc = -1 ∧ u1 = cs_N (cs_D (cs_D (cs_F u 5 (cu_N u 1) sc) 0 (cu_N u 1) df) 1 sc (cu_N u 1 : Int)) 1 (cu_N u 1 + 1)) ∨ (cu_D u 1 sc ≠ -1 ∧ u1 = cs_N (cs_D (cs_F u 5 (cu_N u 1) sc) 0 (cu_N u 1) df) 1 (cu_N u 1 + 1)))) (w_at (dC, dI) vwCl (wC a k) (tC k) (va_A (wC a k u) sz)) (va_A (wC a k u) sz)) 0 0 (va_A (wC a k u) sz) := by
  refine Met.ofW (cc := cX3_add) (maxL := 4) (ret := (some .int)) (by decide) rfl ?_
  intro p e s m args below meth c s₁ B hml hv
  obtain ⟨rfl, hsz, hP, hK, hD0⟩ := hv
  have hx := B.exec
  have hb := B.bytes
  have hr := B.returns
  have hts := atoms_spec (ws := wsX3_add) B.pre
  have htg : ∀ w ∈ wG, w.before _ s = true := fun w h => hts w (List.mem_cons_of_mem _ h)
  have hown : s.vm.findClass RX3 = some m.cls := findClass_of_methodNamed B.named
  have hlocks := B.notSynchronized
  subst hsz
  have hD := hD0.self (sz := s.heap.size)
  generalize hAe : va_A (wC a k u) s.heap.size = A at hD ⊢
  have hA : ∀ q : Nat, s.heap.size ≤ q → A q := fun q h => by rw [← hAe]; exact Or.inr h
  have hS : va_S A s.heap s.heap [] := va_S.rf
  have hl := lv_entry ([.ref (a 2), .int (nI sc), .int (iI df)]) (n := 4) (Nat.le_of_ble_eq_true rfl)
  rw [lg_entry_eq]
  generalize (lg_sl ([.ref (a 2), .int (nI sc), .int (iI df)]) ++ List.replicate (4 - (lg_sl ([.ref (a 2), .int (nI sc), .int (iI df)])).length) Slot.unset).toArray = ls at hl ⊢
  have hl : lv_has ls 4 [(0, .ref (a 2)), (1, .int (nI sc)), (2, .int (iI df))] := hl
  rcases hd with hd | ⟨j, hj, hd⟩
  · refine lv_aload_n hx hb dX3_add_0 rfl (lv_at hl 0 rfl) ?_
    refine va_get (D := (dC, dI)) (ci := 3) (v := .int (nI (cu_N u 1))) (C := RX3) (T := TX3) (N := 4) hx hb htg inX3 hown hK hP 2 (wC_g2 a k _) rfl 3 (by decide) (htg _ q_79) (fun _ h9 => h9) rfl dX3_add_1 ?_
    refine lv_istore_n (lv' := [(3, .int (nI (cu_N u 1))), (0, .ref (a 2)), (1, .int (nI sc)), (2, .int (iI df))]) hx hb dX3_add_4 rfl hl (by decide) rfl (fun ls hl => ?_)
    refine lv_aload_n hx hb dX3_add_5 rfl (lv_at hl 1 rfl) ?_
    refine va_get (D := (dC, dI)) (ci := 3) (v := .ref (a 15)) (C := RX3) (T := TX3) (N := 4) hx hb htg inX3 hown hK hP 2 (wC_g2 a k _) rfl 0 (by decide) (htg _ q_75) (fun _ h9 => h9) rfl dX3_add_6 ?_
    refine lv_iload_n hx hb dX3_add_9 rfl (lv_at hl 0 rfl) ?_
    refine lv_iload_n hx hb dX3_add_10 rfl (lv_at hl 2 rfl) ?_
    refine va_iast hx hb hK hP hD hS 15 0 (wC_g15 a k _) rfl (vp_in_nI (n := (cu_N u 1)) (N := 60) hN (by decide)) dX3_add_11 (fun H locs hP hD hS => ?_)
    have hP := w_pE (wC_s15 a k _ (cu_N u 1) sc (Nat.lt_trans (m := 60) hN (by decide))) hP
    have hD := w_dE (wC_s15 a k _ (cu_N u 1) sc (Nat.lt_trans (m := 60) hN (by decide))) hD
    refine lv_aload_n hx hb dX3_add_12 rfl (lv_at hl 1 rfl) ?_
    refine va_get (D := (dC, dI)) (ci := 3) (v := .ref (a 16)) (C := RX3) (T := TX3) (N := 4) hx hb htg inX3 hown hK hP 2 (wC_g2 a k _) rfl 1 (by decide) (htg _ q_76) (fun _ h9 => h9) rfl dX3_add_13 ?_
    refine lv_iload_n hx hb dX3_add_16 rfl (lv_at hl 0 rfl) ?_
    refine lv_iload_n hx hb dX3_add_17 rfl (lv_at hl 3 rfl) ?_
    refine va_iast hx hb hK hP hD hS 16 0 (wC_g16 a k _) rfl (vp_in_nI (n := (cu_N u 1)) (N := 60) hN (by decide)) dX3_add_18 (fun H locs hP hD hS => ?_)
    have hP := w_pE (wC_s16 a k _ (cu_N u 1) df (Nat.lt_trans (m := 60) hN (by decide))) hP
    have hD := w_dE (wC_s16 a k _ (cu_N u 1) df (Nat.lt_trans (m := 60) hN (by decide))) hD
    refine lv_aload_n hx hb dX3_add_19 rfl (lv_at hl 1 rfl) ?_
    refine va_get (D := (dC, dI)) (ci := 3) (v := .ref (a 17)) (C := RX3) (T := TX3) (N := 4) hx hb htg inX3 hown hK hP 2 (wC_g2 a k _) rfl 2 (by decide) (htg _ q_77) (fun _ h9 => h9) rfl dX3_add_20 ?_
    refine lv_iload_n hx hb dX3_add_23 rfl (lv_at hl 2 rfl) ?_
    refine va_iald hx hb hK hP 17 0 (wC_g17 a k _) rfl (vp_in_nI (n := sc) (N := 10) hs (by decide)) dX3_add_24 ?_
    refine wtopi (iI (cu_D (cs_D (cs_F u 5 (cu_N u 1) sc) 0 (cu_N u 1) df) 1 sc)) (congrArg (fun j9 => iI (cu_D (cs_D (cs_F u 5 (cu_N u 1) sc) 0 (cu_N u 1) df) 1 j9)) (nI_clamp (n := sc) (Nat.lt_trans (m := 10) hs (by decide)))) ?_
    refine wtopi (y := -1) (show iI (cu_D u 1 sc) = -1 by rw [hd]; rfl) ?_
    refine lv_iconst (v := (-1)) hx hb dX3_add_25 (by decide) ?_
    refine lv_icmp_ne (tgt := 36) hx hb dX3_add_26 (by decide) (fun c_26 => ?_) (fun c_26 => ?_)
    · exact absurd rfl c_26
    · refine lv_aload_n hx hb dX3_add_29 rfl (lv_at hl 1 rfl) ?_
      refine va_get (D := (dC, dI)) (ci := 3) (v := .ref (a 17)) (C := RX3) (T := TX3) (N := 4) hx hb htg inX3 hown hK hP 2 (wC_g2 a k _) rfl 2 (by decide) (htg _ q_77) (fun _ h9 => h9) rfl dX3_add_30 ?_
      refine lv_iload_n hx hb dX3_add_33 rfl (lv_at hl 2 rfl) ?_
      refine lv_iload_n hx hb dX3_add_34 rfl (lv_at hl 0 rfl) ?_
      refine wtopi (y := iI (cu_N u 1 : Int)) (nI_iI _) ?_
      refine va_iast hx hb hK hP hD hS 17 0 (wC_g17 a k _) rfl (vp_in_nI (n := sc) (N := 10) hs (by decide)) dX3_add_35 (fun H locs hP hD hS => ?_)
      have hP := w_pE (wC_s17 a k _ sc (cu_N u 1 : Int) (Nat.lt_trans (m := 10) hs (by decide))) hP
      have hD := w_dE (wC_s17 a k _ sc (cu_N u 1 : Int) (Nat.lt_trans (m := 10) hs (by decide))) hD
      refine lv_aload_n hx hb dX3_add_36 rfl (lv_at hl 1 rfl) ?_
      refine lv_dup hx hb dX3_add_37 rfl ?_
      refine va_get (D := (dC, dI)) (ci := 3) (v := .int (nI (cu_N (cs_D (cs_D (cs_F u 5 (cu_N u 1) sc) 0 (cu_N u 1) df) 1 sc (cu_N u 1 : Int)) 1))) (C := RX3) (T := TX3) (N := 4) hx hb htg inX3 hown hK hP 2 (wC_g2 a k _) rfl 3 (by decide) (htg _ q_79) (fun _ h9 => h9) rfl dX3_add_38 ?_
      refine lv_iconst (v := 1) hx hb dX3_add_41 (by decide) ?_
      refine lv_iadd hx hb dX3_add_42 ?_
      refine wtopi (y := nI (cu_N u 1 + 1)) (nI_1 (cu_N u 1)) ?_
      refine va_put (D := (dC, dI)) (ci := 3) (v := .int (nI (cu_N u 1 + 1))) (ty := .int) (C := RX3) (T := TX3) (N := 4) hx hb htg inX3 tyX3 tyX3_ok nmX3 hown hK hP hD hS 2 (wC_g2 a k _) rfl 3 (by decide) (htg _ q_79) (fun _ h9 => h9) rfl (by decide +kernel) rfl rfl (Nat.le_of_ble_eq_true rfl) dX3_add_43 (fun H locs hP hD hS => ?_)
      have hP := w_pE (wC_n1 a k _ (cu_N u 1 + 1)) hP
      have hD := w_dE (wC_n1 a k _ (cu_N u 1 + 1)) hD
      refine lv_iload_n hx hb dX3_add_46 rfl (lv_at hl 0 rfl) ?_
      exact W.iret (v := nI (cu_N u 1)) hx hb hr (fun t9 ht9 hW9 => ⟨⟨_, cs_N (cs_D (cs_D (cs_F u 5 (cu_N u 1) sc) 0 (cu_N u 1) df) 1 sc (cu_N u 1 : Int)) 1 (cu_N u 1 + 1), rfl, ⟨rfl, Or.inl ⟨hd, rfl⟩⟩, by rw [ht9]; exact hP, va_K.moved hW9.alike hK, hD⟩, hS.F ht9⟩) hS.2.2 dX3_add_47
  · refine lv_aload_n hx hb dX3_add_0 rfl (lv_at hl 0 rfl) ?_
    refine va_get (D := (dC, dI)) (ci := 3) (v := .int (nI (cu_N u 1))) (C := RX3) (T := TX3) (N := 4) hx hb htg inX3 hown hK hP 2 (wC_g2 a k _) rfl 3 (by decide) (htg _ q_79) (fun _ h9 => h9) rfl dX3_add_1 ?_
    refine lv_istore_n (lv' := [(3, .int (nI (cu_N u 1))), (0, .ref (a 2)), (1, .int (nI sc)), (2, .int (iI df))]) hx hb dX3_add_4 rfl hl (by decide) rfl (fun ls hl => ?_)
    refine lv_aload_n hx hb dX3_add_5 rfl (lv_at hl 1 rfl) ?_
    refine va_get (D := (dC, dI)) (ci := 3) (v := .ref (a 15)) (C := RX3) (T := TX3) (N := 4) hx hb htg inX3 hown hK hP 2 (wC_g2 a k _) rfl 0 (by decide) (htg _ q_75) (fun _ h9 => h9) rfl dX3_add_6 ?_
    refine lv_iload_n hx hb dX3_add_9 rfl (lv_at hl 0 rfl) ?_
    refine lv_iload_n hx hb dX3_add_10 rfl (lv_at hl 2 rfl) ?_
    refine va_iast hx hb hK hP hD hS 15 0 (wC_g15 a k _) rfl (vp_in_nI (n := (cu_N u 1)) (N := 60) hN (by decide)) dX3_add_11 (fun H locs hP hD hS => ?_)
    have hP := w_pE (wC_s15 a k _ (cu_N u 1) sc (Nat.lt_trans (m := 60) hN (by decide))) hP
    have hD := w_dE (wC_s15 a k _ (cu_N u 1) sc (Nat.lt_trans (m := 60) hN (by decide))) hD
    refine lv_aload_n hx hb dX3_add_12 rfl (lv_at hl 1 rfl) ?_
    refine va_get (D := (dC, dI)) (ci := 3) (v := .ref (a 16)) (C := RX3) (T := TX3) (N := 4) hx hb htg inX3 hown hK hP 2 (wC_g2 a k _) rfl 1 (by decide) (htg _ q_76) (fun _ h9 => h9) rfl dX3_add_13 ?_
    refine lv_iload_n hx hb dX3_add_16 rfl (lv_at hl 0 rfl) ?_
    refine lv_iload_n hx hb dX3_add_17 rfl (lv_at hl 3 rfl) ?_
    refine va_iast hx hb hK hP hD hS 16 0 (wC_g16 a k _) rfl (vp_in_nI (n := (cu_N u 1)) (N := 60) hN (by decide)) dX3_add_18 (fun H locs hP hD hS => ?_)
    have hP := w_pE (wC_s16 a k _ (cu_N u 1) df (Nat.lt_trans (m := 60) hN (by decide))) hP
    have hD := w_dE (wC_s16 a k _ (cu_N u 1) df (Nat.lt_trans (m := 60) hN (by decide))) hD
    refine lv_aload_n hx hb dX3_add_19 rfl (lv_at hl 1 rfl) ?_
    refine va_get (D := (dC, dI)) (ci := 3) (v := .ref (a 17)) (C := RX3) (T := TX3) (N := 4) hx hb htg inX3 hown hK hP 2 (wC_g2 a k _) rfl 2 (by decide) (htg _ q_77) (fun _ h9 => h9) rfl dX3_add_20 ?_
    refine lv_iload_n hx hb dX3_add_23 rfl (lv_at hl 2 rfl) ?_
    refine va_iald hx hb hK hP 17 0 (wC_g17 a k _) rfl (vp_in_nI (n := sc) (N := 10) hs (by decide)) dX3_add_24 ?_
    refine wtopi (iI (cu_D (cs_D (cs_F u 5 (cu_N u 1) sc) 0 (cu_N u 1) df) 1 sc)) (congrArg (fun j9 => iI (cu_D (cs_D (cs_F u 5 (cu_N u 1) sc) 0 (cu_N u 1) df) 1 j9)) (nI_clamp (n := sc) (Nat.lt_trans (m := 10) hs (by decide)))) ?_
    refine wtopi (y := nI j) (show iI (cu_D u 1 sc) = nI j by rw [hd, nI_iI]) ?_
    refine lv_iconst (v := (-1)) hx hb dX3_add_25 (by decide) ?_
    refine lv_icmp_ne (tgt := 36) hx hb dX3_add_26 (by decide) (fun c_26 => ?_) (fun c_26 => ?_)
    · refine lv_aload_n hx hb dX3_add_36 rfl (lv_at hl 1 rfl) ?_
      refine lv_dup hx hb dX3_add_37 rfl ?_
      refine va_get (D := (dC, dI)) (ci := 3) (v := .int (nI (cu_N (cs_D (cs_F u 5 (cu_N u 1) sc) 0 (cu_N u 1) df) 1))) (C := RX3) (T := TX3) (N := 4) hx hb htg inX3 hown hK hP 2 (wC_g2 a k _) rfl 3 (by decide) (htg _ q_79) (fun _ h9 => h9) rfl dX3_add_38 ?_
      refine lv_iconst (v := 1) hx hb dX3_add_41 (by decide) ?_
      refine lv_iadd hx hb dX3_add_42 ?_
      refine wtopi (y := nI (cu_N u 1 + 1)) (nI_1 (cu_N u 1)) ?_
      refine va_put (D := (dC, dI)) (ci := 3) (v := .int (nI (cu_N u 1 + 1))) (ty := .int) (C := RX3) (T := TX3) (N := 4) hx hb htg inX3 tyX3 tyX3_ok nmX3 hown hK hP hD hS 2 (wC_g2 a k _) rfl 3 (by decide) (htg _ q_79) (fun _ h9 => h9) rfl (by decide +kernel) rfl rfl (Nat.le_of_ble_eq_true rfl) dX3_add_43 (fun H locs hP hD hS => ?_)
      have hP := w_pE (wC_n1 a k _ (cu_N u 1 + 1)) hP
      have hD := w_dE (wC_n1 a k _ (cu_N u 1 + 1)) hD
      refine lv_iload_n hx hb dX3_add_46 rfl (lv_at hl 0 rfl) ?_
      exact W.iret (v := nI (cu_N u 1)) hx hb hr (fun t9 ht9 hW9 => ⟨⟨_, cs_N (cs_D (cs_F u 5 (cu_N u 1) sc) 0 (cu_N u 1) df) 1 (cu_N u 1 + 1), rfl, ⟨rfl, Or.inr ⟨by omega, rfl⟩⟩, by rw [ht9]; exact hP, va_K.moved hW9.alike hK, hD⟩, hS.F ht9⟩) hS.2.2 dX3_add_47
    · exact absurd c_26 (nI_m1 (by omega))
set_option maxHeartbeats 4000000 in
set_option maxRecDepth 100000 in
theorem c_X1_settle (l : Launch) (dC : Nat → ClassId) (dI : Nat → Nat → Nat) (a : Nat → Nat) (k : c_K) (u : c_St) (sz : Nat) (h : c_ok u) (pl : Nat) (hp : pl < 200) (ho : ∀ j, j ≤ pl → cu_F u 6 j < cu_N u 0) : Met l yX1_settle wsX1_settle ({ frames := 3, cells := 0, slots := 0, locals := 67 }) (va_Pc [.ref (a 3), .int (nI pl)] (w_mu (dC, dI) vwCl (wC a k u) (tC k) sz)) (va_Qv (fun (u1 : c_St) => ∃ t : Nat, t ≤ pl ∧ u1 = cs_F (c_shift u t pl) 6 t (cu_F u 6 pl) ∧ (t = 0 ∨ c_lt u (cu_F u 6 pl) (cu_F u 6 (t - 1)) = false) ∧ ∀ j, t ≤ j → j < pl → c_lt u (cu_F u 6 pl) (cu_F u 6 j) = true) (w_at (dC, dI) vwCl (wC a k) (tC k) (va_A (wC a k u) sz)) (va_A (wC a k u) sz)) 0 0 (va_A (wC a k u) sz) := by
  refine Met.ofW (cc := cX1_settle) (maxL := 4) (ret := none) (by decide) rfl ?_
  intro p e s m args below meth c s₁ B hml hv
  obtain ⟨rfl, hsz, hP, hK, hD0⟩ := hv
  have hx := B.exec
  have hb := B.bytes
  have hr := B.returns
  have hts := atoms_spec (ws := wsX1_settle) B.pre
  have htg : ∀ w ∈ wG, w.before _ s = true := fun w h => hts w (List.mem_cons_of_mem _ h)
  have hown : s.vm.findClass RX1 = some m.cls := findClass_of_methodNamed B.named
  have hlocks := B.notSynchronized
  subst hsz
  have hD := hD0.self (sz := s.heap.size)
  generalize hAe : va_A (wC a k u) s.heap.size = A at hD ⊢
  have hA : ∀ q : Nat, s.heap.size ≤ q → A q := fun q h => by rw [← hAe]; exact Or.inr h
  have hS : va_S A s.heap s.heap [] := va_S.rf
  have hl := lv_entry ([.ref (a 3), .int (nI pl)]) (n := 4) (Nat.le_of_ble_eq_true rfl)
  rw [lg_entry_eq]
  generalize (lg_sl ([.ref (a 3), .int (nI pl)]) ++ List.replicate (4 - (lg_sl ([.ref (a 3), .int (nI pl)])).length) Slot.unset).toArray = ls at hl ⊢
  have hl : lv_has ls 4 [(0, .ref (a 3)), (1, .int (nI pl))] := hl
  refine lv_aload_n hx hb dX1_settle_0 rfl (lv_at hl 0 rfl) ?_
  refine va_get (D := (dC, dI)) (ci := 1) (v := .ref (a 18)) (C := RX1) (T := TX1) (N := 4) hx hb htg inX1 hown hK hP 3 (wC_g3 a k _) rfl 0 (by decide) (htg _ q_96) (fun _ h9 => h9) rfl dX1_settle_1 ?_
  refine lv_iload_n hx hb dX1_settle_4 rfl (lv_at hl 1 rfl) ?_
  refine va_iald hx hb hK hP 18 0 (wC_g18 a k _) rfl (vp_in_nI (n := pl) (N := 200) hp (by decide)) dX1_settle_5 ?_
  refine wtopi (nI (cu_F u 6 pl)) (congrArg (fun j9 => nI (cu_F u 6 j9)) (nI_clamp (n := pl) (Nat.lt_trans (m := 200) hp (by decide)))) ?_
  refine lv_istore_n (lv' := [(2, .int (nI (cu_F u 6 pl))), (0, .ref (a 3)), (1, .int (nI pl))]) hx hb dX1_settle_6 rfl hl (by decide) rfl (fun ls hl => ?_)
  refine lv_iload_n hx hb dX1_settle_7 rfl (lv_at hl 2 rfl) ?_
  refine lv_istore_n (lv' := [(3, .int (nI pl)), (2, .int (nI (cu_F u 6 pl))), (0, .ref (a 3)), (1, .int (nI pl))]) hx hb dX1_settle_8 rfl hl (by decide) rfl (fun ls hl => ?_)
  have hP := w_pE (congrArg (wC a k) (c_shift_0 u pl).symm) hP
  have hD := w_dE (congrArg (wC a k) (c_shift_0 u pl).symm) hD
  refine w_loopH (fun t : Nat => t) (fun t H locs ls => t ≤ pl ∧ (∀ j, t ≤ j → j < pl → c_lt u (cu_F u 6 pl) (cu_F u 6 j) = true) ∧ va_P (dC, dI) vwCl (wC a k (c_shift u t pl)) H ∧ va_D A (wC a k (c_shift u t pl)) ∧ va_S A s.heap H locs ∧ lv_has ls 4 [(0, .ref (a 3)), (2, .int (nI (cu_F u 6 pl))), (3, .int (nI t))]) ?_ pl _ _ ls ⟨Nat.le_refl _, fun j h1 h2 => absurd h2 (by omega), hP, hD, hS, lv_sub hl [2, 1, 0] rfl⟩
  clear hP hD hS hl
  intro t H locs ls hI ih
  obtain ⟨ht, hlt, hP, hD, hS, hl⟩ := hI
  refine lv_iload_n hx hb dX1_settle_9 rfl (lv_at hl 2 rfl) ?_
  refine iz_le (a := ((t : Nat) : Int)) (tgt := 49) hx hb (by omega) (by omega) (nI_iI _) dX1_settle_10 (by decide) (fun c_10 => ?_) (fun c_10 => ?_)
  · have c_10 : t = 0 := by omega
    refine lv_aload_n hx hb dX1_settle_49 rfl (lv_at hl 0 rfl) ?_
    refine va_get (D := (dC, dI)) (ci := 1) (v := .ref (a 18)) (C := RX1) (T := TX1) (N := 4) hx hb htg inX1 hown hK hP 3 (wC_g3 a k _) rfl 0 (by decide) (htg _ q_96) (fun _ h9 => h9) rfl dX1_settle_50 ?_
    refine lv_iload_n hx hb dX1_settle_53 rfl (lv_at hl 2 rfl) ?_
    refine lv_iload_n hx hb dX1_settle_54 rfl (lv_at hl 1 rfl) ?_
    refine va_iast hx hb hK hP hD hS 18 0 (wC_g18 a k _) rfl (vp_in_nI (n := t) (N := 200) (by omega) (by decide)) dX1_settle_55 (fun H locs hP hD hS => ?_)
    have hP := w_pE (wC_s18 a k _ t (cu_F u 6 pl) (Nat.lt_trans (m := 200) (by omega) (by decide))) hP
    have hD := w_dE (wC_s18 a k _ t (cu_F u 6 pl) (Nat.lt_trans (m := 200) (by omega) (by decide))) hD
    exact W.vret hx hb hr (fun t9 ht9 hW9 => ⟨⟨cs_F (c_shift u t pl) 6 t (cu_F u 6 pl), rfl, ⟨t, ht, rfl, Or.inl c_10, hlt⟩, by rw [ht9]; exact hP, va_K.moved hW9.alike hK, hD⟩, hS.F ht9⟩) hS.2.2 dX1_settle_56
  · have c_10 : 0 < t := by omega
    have e21 : nI t - 1 = nI (t - 1) := pk_sub (a := t) (b := 1) (by omega)
    have e22 : cu_F (c_shift u t pl) 6 (t - 1) = cu_F u 6 (t - 1) := by
      show (if t < t - 1 ∧ t - 1 ≤ pl then _ else _) = _
      rw [if_neg (by omega)]
    refine lv_aload_n hx hb dX1_settle_13 rfl (lv_at hl 0 rfl) ?_
    refine lv_iload_n hx hb dX1_settle_14 rfl (lv_at hl 1 rfl) ?_
    refine lv_aload_n hx hb dX1_settle_15 rfl (lv_at hl 0 rfl) ?_
    refine va_get (D := (dC, dI)) (ci := 1) (v := .ref (a 18)) (C := RX1) (T := TX1) (N := 4) hx hb htg inX1 hown hK hP 3 (wC_g3 a k _) rfl 0 (by decide) (htg _ q_96) (fun _ h9 => h9) rfl dX1_settle_16 ?_
    refine lv_iload_n hx hb dX1_settle_19 rfl (lv_at hl 2 rfl) ?_
    refine lv_iconst (v := 1) hx hb dX1_settle_20 (by decide) ?_
    refine lv_isub hx hb dX1_settle_21 ?_
    refine wtopi (y := nI (t - 1)) e21 ?_
    refine va_iald hx hb hK hP 18 0 (wC_g18 a k _) rfl (vp_in_nI (n := (t - 1)) (N := 200) (by omega) (by decide)) dX1_settle_22 ?_
    refine wtopi (nI (cu_F (c_shift u t pl) 6 (t - 1))) (congrArg (fun j9 => nI (cu_F (c_shift u t pl) 6 j9)) (nI_clamp (n := (t - 1)) (Nat.lt_trans (m := 200) (by omega) (by decide)))) ?_
    refine wtopi (y := nI (cu_F u 6 (t - 1))) (congrArg nI e22) ?_
    refine vp_callSi (W.runV (As := [.int (nI (cu_F u 6 pl)), .int (nI (cu_F u 6 (t - 1)))]) (rest := []) ⟨hx, hb, hml, hown, hts⟩ (c_X1_isBefore l dC dI a k (c_shift u t pl) h (cu_F u 6 pl) (cu_F u 6 (t - 1)) (ho pl (Nat.le_refl _)) (ho (t - 1) (by omega))) (cwV 2 hts (wG_V wG_c q_371 q_373 p_4 q_4 q_374) rfl rfl rfl (by decide +kernel) ⟨Nat.le_of_ble_eq_true rfl, Nat.le_of_ble_eq_true rfl⟩) (w_roV hK hP (ci := 1) (q0 := 3) rfl (wC_g3 a k _) rfl) rfl rfl hl.1 rfl (lv_room (Nat.le_of_ble_eq_true rfl)) dX1_settle_23 ⟨Nat.le_of_ble_eq_true rfl, Nat.le_of_ble_eq_true rfl⟩) (fun r_1 hr_1 => ?_)
    subst hr_1
    refine bz_eq (a := (c_lt u (cu_F u 6 pl) (cu_F u 6 (t - 1)))) (tgt := 49) hx hb dX1_settle_26 (by decide) (fun c_26 => ?_) (fun c_26 => ?_)
    · refine lv_aload_n hx hb dX1_settle_49 rfl (lv_at hl 0 rfl) ?_
      refine va_get (D := (dC, dI)) (ci := 1) (v := .ref (a 18)) (C := RX1) (T := TX1) (N := 4) hx hb htg inX1 hown hK hP 3 (wC_g3 a k _) rfl 0 (by decide) (htg _ q_96) (fun _ h9 => h9) rfl dX1_settle_50 ?_
      refine lv_iload_n hx hb dX1_settle_53 rfl (lv_at hl 2 rfl) ?_
      refine lv_iload_n hx hb dX1_settle_54 rfl (lv_at hl 1 rfl) ?_
      refine va_iast hx hb hK hP hD hS 18 0 (wC_g18 a k _) rfl (vp_in_nI (n := t) (N := 200) (by omega) (by decide)) dX1_settle_55 (fun H locs hP hD hS => ?_)
      have hP := w_pE (wC_s18 a k _ t (cu_F u 6 pl) (Nat.lt_trans (m := 200) (by omega) (by decide))) hP
      have hD := w_dE (wC_s18 a k _ t (cu_F u 6 pl) (Nat.lt_trans (m := 200) (by omega) (by decide))) hD
      exact W.vret hx hb hr (fun t9 ht9 hW9 => ⟨⟨cs_F (c_shift u t pl) 6 t (cu_F u 6 pl), rfl, ⟨t, ht, rfl, Or.inr c_26, hlt⟩, by rw [ht9]; exact hP, va_K.moved hW9.alike hK, hD⟩, hS.F ht9⟩) hS.2.2 dX1_settle_56
    · refine lv_aload_n hx hb dX1_settle_29 rfl (lv_at hl 0 rfl) ?_
      refine va_get (D := (dC, dI)) (ci := 1) (v := .ref (a 18)) (C := RX1) (T := TX1) (N := 4) hx hb htg inX1 hown hK hP 3 (wC_g3 a k _) rfl 0 (by decide) (htg _ q_96) (fun _ h9 => h9) rfl dX1_settle_30 ?_
      refine lv_iload_n hx hb dX1_settle_33 rfl (lv_at hl 2 rfl) ?_
      refine lv_aload_n hx hb dX1_settle_34 rfl (lv_at hl 0 rfl) ?_
      refine va_get (D := (dC, dI)) (ci := 1) (v := .ref (a 18)) (C := RX1) (T := TX1) (N := 4) hx hb htg inX1 hown hK hP 3 (wC_g3 a k _) rfl 0 (by decide) (htg _ q_96) (fun _ h9 => h9) rfl dX1_settle_35 ?_
      refine lv_iload_n hx hb dX1_settle_38 rfl (lv_at hl 2 rfl) ?_
      refine lv_iconst (v := 1) hx hb dX1_settle_39 (by decide) ?_
      refine lv_isub hx hb dX1_settle_40 ?_
      refine wtopi (y := nI (t - 1)) e21 ?_
      refine va_iald hx hb hK hP 18 0 (wC_g18 a k _) rfl (vp_in_nI (n := (t - 1)) (N := 200) (by omega) (by decide)) dX1_settle_41 ?_
      refine wtopi (nI (cu_F (c_shift u t pl) 6 (t - 1))) (congrArg (fun j9 => nI (cu_F (c_shift u t pl) 6 j9)) (nI_clamp (n := (t - 1)) (Nat.lt_trans (m := 200) (by omega) (by decide)))) ?_
      refine wtopi (y := nI (cu_F u 6 (t - 1))) (congrArg nI e22) ?_
      refine va_iast hx hb hK hP hD hS 18 0 (wC_g18 a k _) rfl (vp_in_nI (n := t) (N := 200) (by omega) (by decide)) dX1_settle_42 (fun H locs hP hD hS => ?_)
      have hP := w_pE (wC_s18 a k _ t (cu_F u 6 (t - 1)) (Nat.lt_trans (m := 200) (by omega) (by decide))) hP
      have hD := w_dE (wC_s18 a k _ t (cu_F u 6 (t - 1)) (Nat.lt_trans (m := 200) (by omega) (by decide))) hD
      refine lv_iinc (v := nI (t - 1)) (lv' := [(3, .int (nI (t - 1))), (0, .ref (a 3)), (2, .int (nI (cu_F u 6 pl)))]) hx hb dX1_settle_43 hl (k := 2) rfl (show nI t + (-1) = nI (t - 1) from by rw [show t = t - 1 + 1 by omega]; exact pk_m1 (t - 1)) (by decide) rfl (fun ls hl => ?_)
      refine lv_goto (tgt := 9) hx hb dX1_settle_46 (by decide) ?_
      have hP := w_pE (congrArg (wC a k) (c_shift_s u (t := t) (pl := pl) c_10 ht)) hP
      have hD := w_dE (congrArg (wC a k) (c_shift_s u (t := t) (pl := pl) c_10 ht)) hD
      refine ih (t - 1) H locs ls (by omega) ⟨by omega, fun j h1 h2 => ?_, hP, hD, hS, lv_sub hl [1, 2, 0] rfl⟩
      by_cases h3 : j = t - 1
      · rw [h3]; exact c_26
      · exact hlt j (by omega) h2
set_option maxHeartbeats 4000000 in
set_option maxRecDepth 100000 in
theorem c_X1_insert (l : Launch) (dC : Nat → ClassId) (dI : Nat → Nat → Nat) (a : Nat → Nat) (k : c_K) (u : c_St) (sz : Nat) (h : c_ok u) (n : Nat) (hn : n < cu_N u 0) (hp : cu_N u 2 < 200) (ho : ∀ j, j < cu_N u 2 → cu_F u 6 j < cu_N u 0) : Met l yX1_insert wsX1_insert ({ frames := 4, cells := 0, slots := 0, locals := 90 }) (va_Pc [.ref (a 3), .int (nI n)] (w_mu (dC, dI) vwCl (wC a k u) (tC k) sz)) (va_Qv (fun (u1 : c_St) => ∃ t : Nat, t ≤ cu_N u 2 ∧ u1 = cs_N (cs_F (c_shift (cs_F u 6 (cu_N u 2) n) t (cu_N u 2)) 6 t n) 2 (cu_N u 2 + 1) ∧ (t = 0 ∨ c_lt u n (cu_F u 6 (t - 1)) = false) ∧ ∀ j, t ≤ j → j < cu_N u 2 → c_lt u n (cu_F u 6 j) = true) (w_at (dC, dI) vwCl (wC a k) (tC k) (va_A (wC a k u) sz)) (va_A (wC a k u) sz)) 0 0 (va_A (wC a k u) sz) := by
  refine Met.ofW (cc := cX1_insert) (maxL := 2) (ret := none) (by decide) rfl ?_
  intro p e s m args below meth c s₁ B hml hv
  obtain ⟨rfl, hsz, hP, hK, hD0⟩ := hv
  have hx := B.exec
  have hb := B.bytes
  have hr := B.returns
  have hts := atoms_spec (ws := wsX1_insert) B.pre
  have htg : ∀ w ∈ wG, w.before _ s = true := fun w h => hts w (List.mem_cons_of_mem _ h)
  have hown : s.vm.findClass RX1 = some m.cls := findClass_of_methodNamed B.named
  have hlocks := B.notSynchronized
  subst hsz
  have hD := hD0.self (sz := s.heap.size)
  generalize hAe : va_A (wC a k u) s.heap.size = A at hD ⊢
  have hA : ∀ q : Nat, s.heap.size ≤ q → A q := fun q h => by rw [← hAe]; exact Or.inr h
  have hS : va_S A s.heap s.heap [] := va_S.rf
  have hl := lv_entry ([.ref (a 3), .int (nI n)]) (n := 2) (Nat.le_of_ble_eq_true rfl)
  rw [lg_entry_eq]
  generalize (lg_sl ([.ref (a 3), .int (nI n)]) ++ List.replicate (2 - (lg_sl ([.ref (a 3), .int (nI n)])).length) Slot.unset).toArray = ls at hl ⊢
  have hl : lv_has ls 2 [(0, .ref (a 3)), (1, .int (nI n))] := hl
  refine lv_aload_n hx hb dX1_insert_0 rfl (lv_at hl 0 rfl) ?_
  refine va_get (D := (dC, dI)) (ci := 1) (v := .ref (a 18)) (C := RX1) (T := TX1) (N := 4) hx hb htg inX1 hown hK hP 3 (wC_g3 a k _) rfl 0 (by decide) (htg _ q_96) (fun _ h9 => h9) rfl dX1_insert_1 ?_
  refine lv_aload_n hx hb dX1_insert_4 rfl (lv_at hl 0 rfl) ?_
  refine va_get (D := (dC, dI)) (ci := 1) (v := .int (nI (cu_N u 2))) (C := RX1) (T := TX1) (N := 4) hx hb htg inX1 hown hK hP 3 (wC_g3 a k _) rfl 1 (by decide) (htg _ q_98) (fun _ h9 => h9) rfl dX1_insert_5 ?_
  refine lv_iload_n hx hb dX1_insert_8 rfl (lv_at hl 1 rfl) ?_
  refine va_iast hx hb hK hP hD hS 18 0 (wC_g18 a k _) rfl (vp_in_nI (n := (cu_N u 2)) (N := 200) hp (by decide)) dX1_insert_9 (fun H locs hP hD hS => ?_)
  have hP := w_pE (wC_s18 a k _ (cu_N u 2) n (Nat.lt_trans (m := 200) hp (by decide))) hP
  have hD := w_dE (wC_s18 a k _ (cu_N u 2) n (Nat.lt_trans (m := 200) hp (by decide))) hD
  refine lv_aload_n hx hb dX1_insert_10 rfl (lv_at hl 0 rfl) ?_
  refine lv_aload_n hx hb dX1_insert_11 rfl (lv_at hl 0 rfl) ?_
  refine va_get (D := (dC, dI)) (ci := 1) (v := .int (nI (cu_N (cs_F u 6 (cu_N u 2) n) 2))) (C := RX1) (T := TX1) (N := 4) hx hb htg inX1 hown hK hP 3 (wC_g3 a k _) rfl 1 (by decide) (htg _ q_98) (fun _ h9 => h9) rfl dX1_insert_12 ?_
  have e6 : cu_F (cs_F u 6 (cu_N u 2) n) 6 (cu_N u 2) = n := by rw [cx_FF, if_pos rfl, if_pos rfl]
  have e7 : ∀ j, j ≠ cu_N u 2 → cu_F (cs_F u 6 (cu_N u 2) n) 6 j = cu_F u 6 j := fun j hj => by rw [cx_FF, if_pos rfl, if_neg hj]
  have ho6 : ∀ j, j ≤ cu_N u 2 → cu_F (cs_F u 6 (cu_N u 2) n) 6 j < cu_N u 0 := by
    intro j hj
    by_cases q : j = cu_N u 2
    · rw [q, e6]; exact hn
    · rw [e7 j q]; exact ho j (by omega)
  refine w_calv (w := wC a k) (va_runV (As := [.int (nI (cu_N (cs_F u 6 (cu_N u 2) n) 2))]) (rest := []) ⟨hx, hb, hml, hown, hts⟩ (c_X1_settle l dC dI a k (cs_F u 6 (cu_N u 2) n) _ h (cu_N u 2) hp ho6) (cwV 1 hts (wG_V wG_c q_367 q_369 p_3 q_4 q_370) rfl rfl rfl (by decide +kernel) ⟨Nat.le_of_ble_eq_true rfl, Nat.le_of_ble_eq_true rfl⟩) (w_muV hK hP hD (ci := 1) (q0 := 3) rfl (wC_g3 a k _) rfl) rfl rfl hl.1 rfl (lv_room (Nat.le_of_ble_eq_true rfl)) dX1_insert_15 ⟨Nat.le_of_ble_eq_true rfl, Nat.le_of_ble_eq_true rfl⟩) hD hS hA (fun u_1 H locs hq_1 hP hD hS => ?_)
  obtain ⟨t, ht, eu, h1, h2⟩ := hq_1
  rw [e6] at eu h1 h2
  have h3 : t = 0 ∨ c_lt u n (cu_F u 6 (t - 1)) = false := by
    by_cases z : t = 0
    · exact Or.inl z
    · rcases h1 with q | q
      · exact absurd q z
      · rw [e7 (t - 1) (by omega)] at q
        exact Or.inr q
  have h4 : ∀ j, t ≤ j → j < cu_N u 2 → c_lt u n (cu_F u 6 j) = true := by
    intro j q1 q2
    have q3 := h2 j q1 q2
    rw [e7 j (by omega)] at q3
    exact q3
  subst eu
  refine lv_aload_n hx hb dX1_insert_18 rfl (lv_at hl 0 rfl) ?_
  refine lv_dup hx hb dX1_insert_19 rfl ?_
  refine va_get (D := (dC, dI)) (ci := 1) (v := .int (nI (cu_N (cs_F (c_shift (cs_F u 6 (cu_N u 2) n) t (cu_N u 2)) 6 t n) 2))) (C := RX1) (T := TX1) (N := 4) hx hb htg inX1 hown hK hP 3 (wC_g3 a k _) rfl 1 (by decide) (htg _ q_98) (fun _ h9 => h9) rfl dX1_insert_20 ?_
  refine lv_iconst (v := 1) hx hb dX1_insert_23 (by decide) ?_
  refine lv_iadd hx hb dX1_insert_24 ?_
  refine wtopi (y := nI (cu_N u 2 + 1)) (nI_1 (cu_N u 2)) ?_
  refine va_put (D := (dC, dI)) (ci := 1) (v := .int (nI (cu_N u 2 + 1))) (ty := .int) (C := RX1) (T := TX1) (N := 4) hx hb htg inX1 tyX1 tyX1_ok nmX1 hown hK hP hD hS 3 (wC_g3 a k _) rfl 1 (by decide) (htg _ q_98) (fun _ h9 => h9) rfl (by decide +kernel) rfl rfl (Nat.le_of_ble_eq_true rfl) dX1_insert_25 (fun H locs hP hD hS => ?_)
  have hP := w_pE (wC_n2 a k _ (cu_N u 2 + 1)) hP
  have hD := w_dE (wC_n2 a k _ (cu_N u 2 + 1)) hD
  exact W.vret hx hb hr (fun t9 ht9 hW9 => ⟨⟨cs_N (cs_F (c_shift (cs_F u 6 (cu_N u 2) n) t (cu_N u 2)) 6 t n) 2 (cu_N u 2 + 1), rfl, ⟨t, ht, rfl, h3, h4⟩, by rw [ht9]; exact hP, va_K.moved hW9.alike hK, hD⟩, hS.F ht9⟩) hS.2.2 dX1_insert_28
set_option maxHeartbeats 4000000 in
set_option maxRecDepth 100000 in
theorem c_X1_remove (l : Launch) (dC : Nat → ClassId) (dI : Nat → Nat → Nat) (a : Nat → Nat) (k : c_K) (u : c_St) (sz : Nat) (n t : Nat) (hN : n < 200) (hp : cu_N u 2 ≤ 200) (ho : ∀ j, j < cu_N u 2 → cu_F u 6 j < 200) (ht : t < cu_N u 2) (he : cu_F u 6 t = n) (hu : ∀ j, j < cu_N u 2 → j ≠ t → cu_F u 6 j ≠ n) : Met l yX1_remove wsX1_remove ({ frames := 0, cells := 0, slots := 0, locals := 0 }) (va_Pc [.ref (a 3), .int (nI n)] (w_mu (dC, dI) vwCl (wC a k u) (tC k) sz)) (va_Qv (fun (u1 : c_St) => u1 = cs_N (c_cut u t (cu_N u 2)) 2 (cu_N u 2 - 1)) (w_at (dC, dI) vwCl (wC a k) (tC k) (va_A (wC a k u) sz)) (va_A (wC a k u) sz)) 0 0 (va_A (wC a k u) sz) := by
  refine Met.ofW (cc := cX1_remove) (maxL := 4) (ret := none) (by decide) rfl ?_
  intro p e s m args below meth c s₁ B hml hv
  obtain ⟨rfl, hsz, hP, hK, hD0⟩ := hv
  have hx := B.exec
  have hb := B.bytes
  have hr := B.returns
  have hts := atoms_spec (ws := wsX1_remove) B.pre
  have htg : ∀ w ∈ wG, w.before _ s = true := fun w h => hts w (List.mem_cons_of_mem _ h)
  have hown : s.vm.findClass RX1 = some m.cls := findClass_of_methodNamed B.named
  have hlocks := B.notSynchronized
  subst hsz
  have hD := hD0.self (sz := s.heap.size)
  generalize hAe : va_A (wC a k u) s.heap.size = A at hD ⊢
  have hA : ∀ q : Nat, s.heap.size ≤ q → A q := fun q h => by rw [← hAe]; exact Or.inr h
  have hS : va_S A s.heap s.heap [] := va_S.rf
  have hl := lv_entry ([.ref (a 3), .int (nI n)]) (n := 4) (Nat.le_of_ble_eq_true rfl)
  rw [lg_entry_eq]
  generalize (lg_sl ([.ref (a 3), .int (nI n)]) ++ List.replicate (4 - (lg_sl ([.ref (a 3), .int (nI n)])).length) Slot.unset).toArray = ls at hl ⊢
  have hl : lv_has ls 4 [(0, .ref (a 3)), (1, .int (nI n))] := hl
  refine lv_iconst (v := 0) hx hb dX1_remove_0 (by decide) ?_
  refine lv_istore_n (lv' := [(2, .int 0), (0, .ref (a 3)), (1, .int (nI n))]) hx hb dX1_remove_1 rfl hl (by decide) rfl (fun ls hl => ?_)
  refine lv_iconst (v := 0) hx hb dX1_remove_2 (by decide) ?_
  refine lv_istore_n (lv' := [(3, .int 0), (2, .int 0), (0, .ref (a 3)), (1, .int (nI n))]) hx hb dX1_remove_3 rfl hl (by decide) rfl (fun ls hl => ?_)
  have hP := w_pE (congrArg (wC a k) (c_cut_0 u (t := t) (k := 0) (by omega)).symm) hP
  have hD := w_dE (congrArg (wC a k) (c_cut_0 u (t := t) (k := 0) (by omega)).symm) hD
  refine w_loopH (fun j : Nat => cu_N u 2 - j) (fun j H locs ls => j ≤ cu_N u 2 ∧ va_P (dC, dI) vwCl (wC a k (c_cut u t j)) H ∧ va_D A (wC a k (c_cut u t j)) ∧ va_S A s.heap H locs ∧ lv_has ls 4 [(0, .ref (a 3)), (1, .int (nI n)), (2, .int (nI (if j ≤ t then j else j - 1))), (3, .int (nI j))]) ?_ 0 _ _ ls ⟨Nat.zero_le _, hP, hD, hS, lv_sub hl [2, 3, 1, 0] (by rw [if_pos (Nat.zero_le _)]; rfl)⟩
  clear hP hD hS hl
  intro j H locs ls hI ih
  obtain ⟨hj, hP, hD, hS, hl⟩ := hI
  refine lv_iload_n hx hb dX1_remove_4 rfl (lv_at hl 3 rfl) ?_
  refine lv_aload_n hx hb dX1_remove_5 rfl (lv_at hl 0 rfl) ?_
  refine va_get (D := (dC, dI)) (ci := 1) (v := .int (nI (cu_N (c_cut u t j) 2))) (C := RX1) (T := TX1) (N := 4) hx hb htg inX1 hown hK hP 3 (wC_g3 a k _) rfl 1 (by decide) (htg _ q_98) (fun _ h9 => h9) rfl dX1_remove_6 ?_
  refine wtopi (y := nI (cu_N u 2)) rfl ?_
  refine nb_ge (a := j) (b := (cu_N u 2)) (tgt := 43) hx hb (by omega) (by omega) rfl rfl dX1_remove_9 (by decide) (fun c_9 => ?_) (fun c_9 => ?_)
  · have ej : j = cu_N u 2 := by have : cu_N u 2 ≤ j := c_9; omega
    have el : (if j ≤ t then j else j - 1) = cu_N u 2 - 1 := by rw [if_neg (by omega)]; omega
    refine lv_aload_n hx hb dX1_remove_43 rfl (lv_at hl 0 rfl) ?_
    refine lv_iload_n hx hb dX1_remove_44 rfl (lv_at hl 2 rfl) ?_
    refine wtopi (y := nI (cu_N u 2 - 1)) (congrArg nI el) ?_
    refine va_put (D := (dC, dI)) (ci := 1) (v := .int (nI (cu_N u 2 - 1))) (ty := .int) (C := RX1) (T := TX1) (N := 4) hx hb htg inX1 tyX1 tyX1_ok nmX1 hown hK hP hD hS 3 (wC_g3 a k _) rfl 1 (by decide) (htg _ q_98) (fun _ h9 => h9) rfl (by decide +kernel) rfl rfl (Nat.le_of_ble_eq_true rfl) dX1_remove_45 (fun H locs hP hD hS => ?_)
    have hP := w_pE (wC_n2 a k _ (cu_N u 2 - 1)) hP
    have hD := w_dE (wC_n2 a k _ (cu_N u 2 - 1)) hD
    exact W.vret hx hb hr (fun t9 ht9 hW9 => ⟨⟨cs_N (c_cut u t j) 2 (cu_N u 2 - 1), rfl, (by rw [ej]), by rw [ht9]; exact hP, va_K.moved hW9.alike hK, hD⟩, hS.F ht9⟩) hS.2.2 dX1_remove_48
  · have hjl : j < cu_N u 2 := c_9
    have e17 : cu_F (c_cut u t j) 6 j = cu_F u 6 j := by
      show (if t ≤ j ∧ j + 1 < j then _ else _) = _
      rw [if_neg (by omega)]
    have hoj := ho j hjl
    refine lv_aload_n hx hb dX1_remove_12 rfl (lv_at hl 0 rfl) ?_
    refine va_get (D := (dC, dI)) (ci := 1) (v := .ref (a 18)) (C := RX1) (T := TX1) (N := 4) hx hb htg inX1 hown hK hP 3 (wC_g3 a k _) rfl 0 (by decide) (htg _ q_96) (fun _ h9 => h9) rfl dX1_remove_13 ?_
    refine lv_iload_n hx hb dX1_remove_16 rfl (lv_at hl 3 rfl) ?_
    refine va_iald hx hb hK hP 18 0 (wC_g18 a k _) rfl (vp_in_nI (n := j) (N := 200) (by omega) (by decide)) dX1_remove_17 ?_
    refine wtopi (nI (cu_F (c_cut u t j) 6 j)) (congrArg (fun j9 => nI (cu_F (c_cut u t j) 6 j9)) (nI_clamp (n := j) (Nat.lt_trans (m := 200) (by omega) (by decide)))) ?_
    refine wtopi (y := nI (cu_F u 6 j)) (congrArg nI e17) ?_
    refine lv_iload_n hx hb dX1_remove_18 rfl (lv_at hl 1 rfl) ?_
    refine nb_eq (a := (cu_F u 6 j)) (b := n) (tgt := 37) hx hb (by omega) (by omega) rfl rfl dX1_remove_19 (by decide) (fun c_19 => ?_) (fun c_19 => ?_)
    · have ejt : j = t := Classical.byContradiction (fun q => hu j hjl q c_19)
      refine lv_iinc (v := nI (j + 1)) (lv' := [(3, .int (nI (j + 1))), (0, .ref (a 3)), (1, .int (nI n)), (2, .int (nI (if j ≤ t then j else j - 1)))]) hx hb dX1_remove_37 hl (k := 3) rfl (nI_1 j) (by decide) rfl (fun ls hl => ?_)
      refine lv_goto (tgt := 4) hx hb dX1_remove_40 (by decide) ?_
      have hP := w_pE (congrArg (wC a k) (show c_cut u t j = c_cut u t (j + 1) from by rw [c_cut_0 u (by omega), c_cut_0 u (by omega)])) hP
      have hD := w_dE (congrArg (wC a k) (show c_cut u t j = c_cut u t (j + 1) from by rw [c_cut_0 u (by omega), c_cut_0 u (by omega)])) hD
      exact ih (j + 1) H locs ls (by omega) ⟨by omega, hP, hD, hS, lv_sub (l := _) hl [1, 2, 3, 0] (by rw [show (if j + 1 ≤ t then j + 1 else j + 1 - 1) = (if j ≤ t then j else j - 1) by split <;> split <;> omega]; rfl)⟩
    · have ejt : j ≠ t := fun q => c_19 (by rw [q]; exact he)
      have hlf : (if j ≤ t then j else j - 1) < 200 := by split <;> omega
      refine lv_aload_n hx hb dX1_remove_22 rfl (lv_at hl 0 rfl) ?_
      refine va_get (D := (dC, dI)) (ci := 1) (v := .ref (a 18)) (C := RX1) (T := TX1) (N := 4) hx hb htg inX1 hown hK hP 3 (wC_g3 a k _) rfl 0 (by decide) (htg _ q_96) (fun _ h9 => h9) rfl dX1_remove_23 ?_
      refine lv_iload_n hx hb dX1_remove_26 rfl (lv_at hl 2 rfl) ?_
      refine lv_aload_n hx hb dX1_remove_27 rfl (lv_at hl 0 rfl) ?_
      refine va_get (D := (dC, dI)) (ci := 1) (v := .ref (a 18)) (C := RX1) (T := TX1) (N := 4) hx hb htg inX1 hown hK hP 3 (wC_g3 a k _) rfl 0 (by decide) (htg _ q_96) (fun _ h9 => h9) rfl dX1_remove_28 ?_
      refine lv_iload_n hx hb dX1_remove_31 rfl (lv_at hl 3 rfl) ?_
      refine va_iald hx hb hK hP 18 0 (wC_g18 a k _) rfl (vp_in_nI (n := j) (N := 200) (by omega) (by decide)) dX1_remove_32 ?_
      refine wtopi (nI (cu_F (c_cut u t j) 6 j)) (congrArg (fun j9 => nI (cu_F (c_cut u t j) 6 j9)) (nI_clamp (n := j) (Nat.lt_trans (m := 200) (by omega) (by decide)))) ?_
      refine wtopi (y := nI (cu_F u 6 j)) (congrArg nI e17) ?_
      refine va_iast hx hb hK hP hD hS 18 0 (wC_g18 a k _) rfl (vp_in_nI (n := (if j ≤ t then j else j - 1)) (N := 200) hlf (by decide)) dX1_remove_33 (fun H locs hP hD hS => ?_)
      have hP := w_pE (wC_s18 a k _ (if j ≤ t then j else j - 1) (cu_F u 6 j) (Nat.lt_trans (m := 200) hlf (by decide))) hP
      have hD := w_dE (wC_s18 a k _ (if j ≤ t then j else j - 1) (cu_F u 6 j) (Nat.lt_trans (m := 200) hlf (by decide))) hD
      have es : cs_F (c_cut u t j) 6 (if j ≤ t then j else j - 1) (cu_F u 6 j) = c_cut u t (j + 1) := by
        by_cases q : j ≤ t
        · rw [if_pos q]; exact c_cut_same u (by omega)
        · rw [if_neg q]; exact c_cut_s u (by omega)
      have hP := w_pE (congrArg (wC a k) es) hP
      have hD := w_dE (congrArg (wC a k) es) hD
      refine lv_iinc (v := nI ((if j ≤ t then j else j - 1) + 1)) (lv' := [(2, .int (nI ((if j ≤ t then j else j - 1) + 1))), (0, .ref (a 3)), (1, .int (nI n)), (3, .int (nI j))]) hx hb dX1_remove_34 hl (k := 2) rfl (nI_1 (if j ≤ t then j else j - 1)) (by decide) rfl (fun ls hl => ?_)
      refine lv_iinc (v := nI (j + 1)) (lv' := [(3, .int (nI (j + 1))), (2, .int (nI ((if j ≤ t then j else j - 1) + 1))), (0, .ref (a 3)), (1, .int (nI n))]) hx hb dX1_remove_37 hl (k := 3) rfl (nI_1 j) (by decide) rfl (fun ls hl => ?_)
      refine lv_goto (tgt := 4) hx hb dX1_remove_40 (by decide) ?_
      exact ih (j + 1) H locs ls (by omega) ⟨by omega, hP, hD, hS, lv_sub (l := _) hl [2, 3, 1, 0] (by rw [show (if j + 1 ≤ t then j + 1 else j + 1 - 1) = (if j ≤ t then j else j - 1) + 1 by split <;> split <;> omega]; rfl)⟩
set_option maxHeartbeats 4000000 in
set_option maxRecDepth 100000 in
theorem c_X0_add (l : Launch) (dC : Nat → ClassId) (dI : Nat → Nat → Nat) (a : Nat → Nat) (k : c_K) (u : c_St) (sz : Nat) (n : Nat) (x1 x2 : Int32) (hN : cu_N u 3 < 200) : Met l yX0_add wsX0_add ({ frames := 0, cells := 0, slots := 0, locals := 0 }) (va_Pc [.ref (a 4), .int (nI n), .int x1, .int x2] (w_mu (dC, dI) vwCl (wC a k u) (tC k) sz)) (va_Qi (fun (r : Int32) (u1 : c_St) => r = nI (cu_N u 3) ∧ u1 = cs_N (cs_G (cs_G (cs_F u 7 (cu_N u 3) n) 1 (cu_N u 3) x1) 2 (cu_N u 3) x2) 3 (cu_N u 3 + 1)) (w_at (dC, dI) vwCl (wC a k) (tC k) (va_A (wC a k u) sz)) (va_A (wC a k u) sz)) 0 0 (va_A (wC a k u) sz) := by
  refine Met.ofW (cc := cX0_add) (maxL := 5) (ret := (some .int)) (by decide) rfl ?_
  intro p e s m args below meth c s₁ B hml hv
  obtain ⟨rfl, hsz, hP, hK, hD0⟩ := hv
  have hx := B.exec
  have hb := B.bytes
  have hr := B.returns
  have hts := atoms_spec (ws := wsX0_add) B.pre
  have htg : ∀ w ∈ wG, w.before _ s = true := fun w h => hts w (List.mem_cons_of_mem _ h)
  have hown : s.vm.findClass RX0 = some m.cls := findClass_of_methodNamed B.named
  have hlocks := B.notSynchronized
  subst hsz
  have hD := hD0.self (sz := s.heap.size)
  generalize hAe : va_A (wC a k u) s.heap.size = A at hD ⊢
  have hA : ∀ q : Nat, s.heap.size ≤ q → A q := fun q h => by rw [← hAe]; exact Or.inr h
  have hS : va_S A s.heap s.heap [] := va_S.rf
  have hl := lv_entry ([.ref (a 4), .int (nI n), .int x1, .int x2]) (n := 5) (Nat.le_of_ble_eq_true rfl)
  rw [lg_entry_eq]
  generalize (lg_sl ([.ref (a 4), .int (nI n), .int x1, .int x2]) ++ List.replicate (5 - (lg_sl ([.ref (a 4), .int (nI n), .int x1, .int x2])).length) Slot.unset).toArray = ls at hl ⊢
  have hl : lv_has ls 5 [(0, .ref (a 4)), (1, .int (nI n)), (2, .int x1), (3, .int x2)] := hl
  refine lv_aload_n hx hb dX0_add_0 rfl (lv_at hl 0 rfl) ?_
  refine va_get (D := (dC, dI)) (ci := 0) (v := .int (nI (cu_N u 3))) (C := RX0) (T := TX0) (N := 4) hx hb htg inX0 hown hK hP 4 (wC_g4 a k _) rfl 3 (by decide) (htg _ q_123) (fun _ h9 => h9) rfl dX0_add_1 ?_
  refine lv_istore (lv' := [(4, .int (nI (cu_N u 3))), (0, .ref (a 4)), (1, .int (nI n)), (2, .int x1), (3, .int x2)]) hx hb dX0_add_4 hl (by decide) rfl (fun ls hl => ?_)
  refine lv_aload_n hx hb dX0_add_6 rfl (lv_at hl 1 rfl) ?_
  refine va_get (D := (dC, dI)) (ci := 0) (v := .ref (a 19)) (C := RX0) (T := TX0) (N := 4) hx hb htg inX0 hown hK hP 4 (wC_g4 a k _) rfl 0 (by decide) (htg _ q_117) (fun _ h9 => h9) rfl dX0_add_7 ?_
  refine lv_iload hx hb dX0_add_10 (lv_at hl 0 rfl) ?_
  refine lv_iload_n hx hb dX0_add_12 rfl (lv_at hl 2 rfl) ?_
  refine va_iast hx hb hK hP hD hS 19 0 (wC_g19 a k _) rfl (vp_in_nI (n := (cu_N u 3)) (N := 200) hN (by decide)) dX0_add_13 (fun H locs hP hD hS => ?_)
  have hP := w_pE (wC_s19 a k _ (cu_N u 3) n (Nat.lt_trans (m := 200) hN (by decide))) hP
  have hD := w_dE (wC_s19 a k _ (cu_N u 3) n (Nat.lt_trans (m := 200) hN (by decide))) hD
  refine lv_aload_n hx hb dX0_add_14 rfl (lv_at hl 1 rfl) ?_
  refine va_get (D := (dC, dI)) (ci := 0) (v := .ref (a 20)) (C := RX0) (T := TX0) (N := 4) hx hb htg inX0 hown hK hP 4 (wC_g4 a k _) rfl 1 (by decide) (htg _ q_119) (fun _ h9 => h9) rfl dX0_add_15 ?_
  refine lv_iload hx hb dX0_add_18 (lv_at hl 0 rfl) ?_
  refine lv_iload_n hx hb dX0_add_20 rfl (lv_at hl 3 rfl) ?_
  refine va_iast hx hb hK hP hD hS 20 0 (wC_g20 a k _) rfl (vp_in_nI (n := (cu_N u 3)) (N := 200) hN (by decide)) dX0_add_21 (fun H locs hP hD hS => ?_)
  have hP := w_pE (wC_s20 a k _ (cu_N u 3) x1 (Nat.lt_trans (m := 200) hN (by decide))) hP
  have hD := w_dE (wC_s20 a k _ (cu_N u 3) x1 (Nat.lt_trans (m := 200) hN (by decide))) hD
  refine lv_aload_n hx hb dX0_add_22 rfl (lv_at hl 1 rfl) ?_
  refine va_get (D := (dC, dI)) (ci := 0) (v := .ref (a 21)) (C := RX0) (T := TX0) (N := 4) hx hb htg inX0 hown hK hP 4 (wC_g4 a k _) rfl 2 (by decide) (htg _ q_121) (fun _ h9 => h9) rfl dX0_add_23 ?_
  refine lv_iload hx hb dX0_add_26 (lv_at hl 0 rfl) ?_
  refine lv_iload_n hx hb dX0_add_28 rfl (lv_at hl 4 rfl) ?_
  refine va_iast hx hb hK hP hD hS 21 0 (wC_g21 a k _) rfl (vp_in_nI (n := (cu_N u 3)) (N := 200) hN (by decide)) dX0_add_29 (fun H locs hP hD hS => ?_)
  have hP := w_pE (wC_s21 a k _ (cu_N u 3) x2 (Nat.lt_trans (m := 200) hN (by decide))) hP
  have hD := w_dE (wC_s21 a k _ (cu_N u 3) x2 (Nat.lt_trans (m := 200) hN (by decide))) hD
  refine lv_aload_n hx hb dX0_add_30 rfl (lv_at hl 1 rfl) ?_
  refine lv_dup hx hb dX0_add_31 rfl ?_
  refine va_get (D := (dC, dI)) (ci := 0) (v := .int (nI (cu_N (cs_G (cs_G (cs_F u 7 (cu_N u 3) n) 1 (cu_N u 3) x1) 2 (cu_N u 3) x2) 3))) (C := RX0) (T := TX0) (N := 4) hx hb htg inX0 hown hK hP 4 (wC_g4 a k _) rfl 3 (by decide) (htg _ q_123) (fun _ h9 => h9) rfl dX0_add_32 ?_
  refine lv_iconst (v := 1) hx hb dX0_add_35 (by decide) ?_
  refine lv_iadd hx hb dX0_add_36 ?_
  refine wtopi (y := nI (cu_N u 3 + 1)) (nI_1 (cu_N u 3)) ?_
  refine va_put (D := (dC, dI)) (ci := 0) (v := .int (nI (cu_N u 3 + 1))) (ty := .int) (C := RX0) (T := TX0) (N := 4) hx hb htg inX0 tyX0 tyX0_ok nmX0 hown hK hP hD hS 4 (wC_g4 a k _) rfl 3 (by decide) (htg _ q_123) (fun _ h9 => h9) rfl (by decide +kernel) rfl rfl (Nat.le_of_ble_eq_true rfl) dX0_add_37 (fun H locs hP hD hS => ?_)
  have hP := w_pE (wC_n3 a k _ (cu_N u 3 + 1)) hP
  have hD := w_dE (wC_n3 a k _ (cu_N u 3 + 1)) hD
  refine lv_iload hx hb dX0_add_40 (lv_at hl 0 rfl) ?_
  exact W.iret (v := nI (cu_N u 3)) hx hb hr (fun t9 ht9 hW9 => ⟨⟨_, cs_N (cs_G (cs_G (cs_F u 7 (cu_N u 3) n) 1 (cu_N u 3) x1) 2 (cu_N u 3) x2) 3 (cu_N u 3 + 1), rfl, ⟨rfl, rfl⟩, by rw [ht9]; exact hP, va_K.moved hW9.alike hK, hD⟩, hS.F ht9⟩) hS.2.2 dX0_add_42
set_option maxHeartbeats 4000000 in
set_option maxRecDepth 100000 in
theorem c_X2_allow (l : Launch) (dC : Nat → ClassId) (dI : Nat → Nat → Nat) (a : Nat → Nat) (k : c_K) (u : c_St) (sz : Nat) (ps ic : Nat) (on : Bool) (hp : ps < 20) (hi : ic < 50) : Met l yX2_allow wsX2_allow ({ frames := 0, cells := 0, slots := 0, locals := 0 }) (va_Pc [.ref (a 5), .int (nI ps), .int (nI ic), .int (bI on)] (w_mu (dC, dI) vwCl (wC a k u) (tC k) sz)) (va_Qv (fun (u1 : c_St) => u1 = cs_B u 2 (ps * 50 + ic) on) (w_at (dC, dI) vwCl (wC a k) (tC k) (va_A (wC a k u) sz)) (va_A (wC a k u) sz)) 0 0 (va_A (wC a k u) sz) := by
  refine Met.ofW (cc := cX2_allow) (maxL := 4) (ret := none) (by decide) rfl ?_
  intro p e s m args below meth c s₁ B hml hv
  obtain ⟨rfl, hsz, hP, hK, hD0⟩ := hv
  have hx := B.exec
  have hb := B.bytes
  have hr := B.returns
  have hts := atoms_spec (ws := wsX2_allow) B.pre
  have htg : ∀ w ∈ wG, w.before _ s = true := fun w h => hts w (List.mem_cons_of_mem _ h)
  have hown : s.vm.findClass RX2 = some m.cls := findClass_of_methodNamed B.named
  have hlocks := B.notSynchronized
  subst hsz
  have hD := hD0.self (sz := s.heap.size)
  generalize hAe : va_A (wC a k u) s.heap.size = A at hD ⊢
  have hA : ∀ q : Nat, s.heap.size ≤ q → A q := fun q h => by rw [← hAe]; exact Or.inr h
  have hS : va_S A s.heap s.heap [] := va_S.rf
  have hl := lv_entry ([.ref (a 5), .int (nI ps), .int (nI ic), .int (bI on)]) (n := 4) (Nat.le_of_ble_eq_true rfl)
  rw [lg_entry_eq]
  generalize (lg_sl ([.ref (a 5), .int (nI ps), .int (nI ic), .int (bI on)]) ++ List.replicate (4 - (lg_sl ([.ref (a 5), .int (nI ps), .int (nI ic), .int (bI on)])).length) Slot.unset).toArray = ls at hl ⊢
  have hl : lv_has ls 4 [(0, .ref (a 5)), (1, .int (nI ps)), (2, .int (nI ic)), (3, .int (bI on))] := hl
  refine lv_aload_n hx hb dX2_allow_0 rfl (lv_at hl 0 rfl) ?_
  refine va_get (D := (dC, dI)) (ci := 2) (v := .ref (a 25)) (C := RX2) (T := TX2) (N := 5) hx hb htg inX2 hown hK hP 5 (wC_g5 a k _) rfl 4 (by decide) (htg _ q_148) (fun _ h9 => h9) rfl dX2_allow_1 ?_
  refine lv_iload_n hx hb dX2_allow_4 rfl (lv_at hl 1 rfl) ?_
  refine lv_bipush (v := 50) hx hb dX2_allow_5 (by decide) ?_
  refine lv_imul hx hb dX2_allow_7 ?_
  refine wtopi (y := nI (ps * 50)) (pk_mul ps 50) ?_
  refine lv_iload_n hx hb dX2_allow_8 rfl (lv_at hl 2 rfl) ?_
  refine lv_iadd hx hb dX2_allow_9 ?_
  refine wtopi (y := nI (ps * 50 + ic)) (nI_add _ _) ?_
  refine lv_iload_n hx hb dX2_allow_10 rfl (lv_at hl 3 rfl) ?_
  refine va_zast hx hb hK hP hD hS 25 2 (wC_g25 a k _) rfl (vp_in_nI (n := (ps * 50 + ic)) (N := 1000) (show ps * 50 + ic < 1000 by omega) (by decide)) dX2_allow_11 (fun H locs hP hD hS => ?_)
  have hP := w_pE (wC_s25 a k _ (ps * 50 + ic) on (Nat.lt_trans (m := 1000) (show ps * 50 + ic < 1000 by omega) (by decide))) hP
  have hD := w_dE (wC_s25 a k _ (ps * 50 + ic) on (Nat.lt_trans (m := 1000) (show ps * 50 + ic < 1000 by omega) (by decide))) hD
  exact W.vret hx hb hr (fun t9 ht9 hW9 => ⟨⟨cs_B u 2 (ps * 50 + ic) on, rfl, rfl, by rw [ht9]; exact hP, va_K.moved hW9.alike hK, hD⟩, hS.F ht9⟩) hS.2.2 dX2_allow_12
set_option maxHeartbeats 4000000 in
set_option maxRecDepth 100000 in
theorem c_X2_mayHear (l : Launch) (dC : Nat → ClassId) (dI : Nat → Nat → Nat) (a : Nat → Nat) (k : c_K) (u : c_St) (ps ic : Nat) (hp : ps < 20) (hi : ic < 50) : Met l yX2_mayHear wsX2_mayHear ({ frames := 0, cells := 0, slots := 0, locals := 0 }) (va_Pc [.ref (a 5), .int (nI ps), .int (nI ic)] (w_ro (dC, dI) vwCl (wC a k u) (tC k))) (vp_Si (fun r => r = bI (cu_B u 2 (ps * 50 + ic)))) 0 0 (fun _ => False) := by
  refine Met.ofW (cc := cX2_mayHear) (maxL := 3) (ret := (some .boolean)) (by decide) rfl ?_
  intro p e s m args below meth c s₁ B hml hv
  obtain ⟨rfl, hP, hK⟩ := hv
  have hx := B.exec
  have hb := B.bytes
  have hr := B.returns
  have hts := atoms_spec (ws := wsX2_mayHear) B.pre
  have htg : ∀ w ∈ wG, w.before _ s = true := fun w h => hts w (List.mem_cons_of_mem _ h)
  have hown : s.vm.findClass RX2 = some m.cls := findClass_of_methodNamed B.named
  have hlocks := B.notSynchronized
  have hl := lv_entry ([.ref (a 5), .int (nI ps), .int (nI ic)]) (n := 3) (Nat.le_of_ble_eq_true rfl)
  rw [lg_entry_eq]
  generalize (lg_sl ([.ref (a 5), .int (nI ps), .int (nI ic)]) ++ List.replicate (3 - (lg_sl ([.ref (a 5), .int (nI ps), .int (nI ic)])).length) Slot.unset).toArray = ls at hl ⊢
  have hl : lv_has ls 3 [(0, .ref (a 5)), (1, .int (nI ps)), (2, .int (nI ic))] := hl
  refine lv_aload_n hx hb dX2_mayHear_0 rfl (lv_at hl 0 rfl) ?_
  refine va_get (D := (dC, dI)) (ci := 2) (v := .ref (a 25)) (C := RX2) (T := TX2) (N := 5) hx hb htg inX2 hown hK hP 5 (wC_g5 a k _) rfl 4 (by decide) (htg _ q_148) (fun _ h9 => h9) rfl dX2_mayHear_1 ?_
  refine lv_iload_n hx hb dX2_mayHear_4 rfl (lv_at hl 1 rfl) ?_
  refine lv_bipush (v := 50) hx hb dX2_mayHear_5 (by decide) ?_
  refine lv_imul hx hb dX2_mayHear_7 ?_
  refine wtopi (y := nI (ps * 50)) (pk_mul ps 50) ?_
  refine lv_iload_n hx hb dX2_mayHear_8 rfl (lv_at hl 2 rfl) ?_
  refine lv_iadd hx hb dX2_mayHear_9 ?_
  refine wtopi (y := nI (ps * 50 + ic)) (nI_add _ _) ?_
  refine va_zald hx hb hK hP 25 2 (wC_g25 a k _) rfl (vp_in_nI (n := (ps * 50 + ic)) (N := 1000) (show ps * 50 + ic < 1000 by omega) (by decide)) dX2_mayHear_10 ?_
  refine wtopi (bI (cu_B u 2 (ps * 50 + ic))) (congrArg (fun j9 => bI (cu_B u 2 j9)) (nI_clamp (n := (ps * 50 + ic)) (Nat.lt_trans (m := 1000) (show ps * 50 + ic < 1000 by omega) (by decide)))) ?_
  exact W.zret (v := bI (cu_B u 2 (ps * 50 + ic))) hx hb hr (bI_narw _) (fun t9 ht9 hW9 => ⟨_, rfl, rfl, ht9⟩) (fun _ h => by cases h) dX2_mayHear_11
/-! the line: its order, and what a place found does to it -/
theorem c_lt_iff {u : c_St} {x y : Nat} : c_lt u x y = true ↔ (c_beg u x < c_beg u y ∨ (c_beg u x = c_beg u y ∧ (cu_F u 0 x < cu_F u 0 y ∨ (cu_F u 0 x = cu_F u 0 y ∧ x < y)))) := by
  unfold c_lt
  exact decide_eq_true_iff
theorem c_lt_f {u : c_St} {x y : Nat} : c_lt u x y = false ↔ ¬ (c_beg u x < c_beg u y ∨ (c_beg u x = c_beg u y ∧ (cu_F u 0 x < cu_F u 0 y ∨ (cu_F u 0 x = cu_F u 0 y ∧ x < y)))) := by
  unfold c_lt
  exact decide_eq_false_iff_not
theorem c_lt_tr {u : c_St} {x y z : Nat} (h1 : c_lt u x y = true) (h2 : c_lt u y z = true) : c_lt u x z = true := by
  rw [c_lt_iff] at h1 h2 ⊢
  omega
theorem c_lt_ne {u : c_St} {x y : Nat} (h1 : c_lt u x y = true) : x ≠ y := by
  rw [c_lt_iff] at h1
  intro h
  subst h
  omega
theorem c_lt_as {u : c_St} {x y : Nat} (h1 : c_lt u x y = true) : c_lt u y x = false := by
  rw [c_lt_iff] at h1
  rw [c_lt_f]
  omega
theorem c_lt_to {u : c_St} {x y : Nat} (h : x ≠ y) (h1 : c_lt u x y = false) : c_lt u y x = true := by
  rw [c_lt_f] at h1
  rw [c_lt_iff]
  omega
def c_srt (u : c_St) (f : Nat → Nat) (n : Nat) : Prop := ∀ i j, i < j → j < n → c_lt u (f i) (f j) = true
def c_put (f : Nat → Nat) (t pl num : Nat) : Nat → Nat := fun j => if j = t then num else if t < j ∧ j ≤ pl then f (j - 1) else f j
theorem c_put_lo {f : Nat → Nat} {t pl num j : Nat} (h : j < t) : c_put f t pl num j = f j := by
  unfold c_put
  rw [if_neg (by omega), if_neg (by omega)]
theorem c_put_at {f : Nat → Nat} {t pl num : Nat} : c_put f t pl num t = num := by
  unfold c_put
  rw [if_pos rfl]
theorem c_put_mi {f : Nat → Nat} {t pl num j : Nat} (h : t < j) (h2 : j ≤ pl) : c_put f t pl num j = f (j - 1) := by
  unfold c_put
  rw [if_neg (by omega), if_pos ⟨h, h2⟩]
theorem c_put_hi {f : Nat → Nat} {t pl num j : Nat} (h : t ≤ pl) (h2 : pl < j) : c_put f t pl num j = f j := by
  unfold c_put
  rw [if_neg (by omega), if_neg (by omega)]
theorem c_put_srt {u : c_St} {f : Nat → Nat} {t pl num : Nat} (hs : c_srt u f pl) (ht : t ≤ pl) (hne : ∀ j, j < pl → f j ≠ num) (h1 : t = 0 ∨ c_lt u num (f (t - 1)) = false) (h2 : ∀ j, t ≤ j → j < pl → c_lt u num (f j) = true) : c_srt u (c_put f t pl num) (pl + 1) := by
  have lo : ∀ i, i < t → c_lt u (f i) num = true := by
    intro i hi
    have h3 : c_lt u (f (t - 1)) num = true := by
      rcases h1 with h1 | h1
      · omega
      · exact c_lt_to (fun q => hne (t - 1) (by omega) q.symm) h1
    by_cases h4 : i = t - 1
    · rw [h4]; exact h3
    · exact c_lt_tr (hs i (t - 1) (by omega) (by omega)) h3
  intro i j hij hj
  rcases Nat.lt_trichotomy i t with a | a | a
  · rw [c_put_lo a]
    rcases Nat.lt_trichotomy j t with b | b | b
    · rw [c_put_lo b]; exact hs i j hij (by omega)
    · subst b; rw [c_put_at]; exact lo i a
    · rw [c_put_mi b (by omega)]
      exact hs i (j - 1) (by omega) (by omega)
  · subst a
    rw [c_put_at, c_put_mi hij (by omega)]
    exact h2 (j - 1) (by omega) (by omega)
  · rw [c_put_mi a (by omega), c_put_mi (by omega) (by omega)]
    exact hs (i - 1) (j - 1) (by omega) (by omega)
/-- where the numbers of the places come from -/
theorem c_put_from {f : Nat → Nat} {t pl num : Nat} (ht : t ≤ pl) {j : Nat} (hj : j < pl + 1) : c_put f t pl num j = num ∨ ∃ i, i < pl ∧ c_put f t pl num j = f i := by
  rcases Nat.lt_trichotomy j t with b | b | b
  · exact Or.inr ⟨j, by omega, c_put_lo b⟩
  · subst b; exact Or.inl c_put_at
  · exact Or.inr ⟨j - 1, by omega, c_put_mi b (by omega)⟩
theorem c_put_old {f : Nat → Nat} {t pl num : Nat} (ht : t ≤ pl) {i : Nat} (hi : i < pl) : ∃ j, j < pl + 1 ∧ c_put f t pl num j = f i := by
  by_cases h : i < t
  · exact ⟨i, by omega, c_put_lo h⟩
  · exact ⟨i + 1, by omega, by rw [c_put_mi (by omega) (by omega)]; rfl⟩
theorem c_set_F (u : c_St) (t pl num j : Nat) : cu_F (cs_F (c_shift u t pl) 6 t num) 6 j = c_put (cu_F u 6) t pl num j := rfl
def c_del (f : Nat → Nat) (t n : Nat) : Nat → Nat := fun j => if t ≤ j ∧ j + 1 < n then f (j + 1) else f j
theorem c_del_F (u : c_St) (t n j : Nat) : cu_F (c_cut u t n) 6 j = c_del (cu_F u 6) t n j := rfl
theorem c_del_lo {f : Nat → Nat} {t n j : Nat} (h : j < t) : c_del f t n j = f j := by
  unfold c_del
  rw [if_neg (by omega)]
theorem c_del_hi {f : Nat → Nat} {t n j : Nat} (h : t ≤ j) (h2 : j + 1 < n) : c_del f t n j = f (j + 1) := by
  unfold c_del
  rw [if_pos ⟨h, h2⟩]
theorem c_del_srt {u : c_St} {f : Nat → Nat} {t n : Nat} (hs : c_srt u f n) : c_srt u (c_del f t n) (n - 1) := by
  intro i j hij hj
  by_cases a : i < t
  · rw [c_del_lo a]
    by_cases b : j < t
    · rw [c_del_lo b]; exact hs i j hij (by omega)
    · rw [c_del_hi (by omega) (by omega)]; exact hs i (j + 1) (by omega) (by omega)
  · rw [c_del_hi (by omega) (by omega), c_del_hi (by omega) (by omega)]
    exact hs (i + 1) (j + 1) (by omega) (by omega)
/-- what always holds of the line -/
def c_line (u : c_St) : Prop := cu_N u 2 ≤ cu_N u 0 ∧ (∀ j, j < cu_N u 2 → cu_F u 6 j < cu_N u 0 ∧ cu_B u 0 (cu_F u 6 j) = true) ∧ (∀ n, n < cu_N u 0 → cu_B u 0 n = true → ∃ j, j < cu_N u 2 ∧ cu_F u 6 j = n) ∧ c_srt u (cu_F u 6) (cu_N u 2)
theorem c_srt_inj {u : c_St} {f : Nat → Nat} {n i j : Nat} (hs : c_srt u f n) (hi : i < n) (hj : j < n) (h : f i = f j) : i = j := by
  rcases Nat.lt_trichotomy i j with a | a | a
  · exact absurd h (c_lt_ne (hs i j a hj))
  · exact a
  · exact absurd h.symm (c_lt_ne (hs j i a hi))

theorem c_O_put (u : c_St) (f : Nat → Nat) {t pl num : Nat} : cs_F (c_shift (cs_O u f) t pl) 6 t num = cs_O u (c_put f t pl num) := by
  refine c_ext (fun _ => rfl) (fun q i => ?_) (fun _ _ => rfl) (fun _ _ => rfl) (fun _ _ => rfl) (fun _ => rfl)
  by_cases hq : q = 6
  · subst hq; rfl
  · show (if q = 6 then _ else (if q = 6 then _ else (if q = 6 then _ else cu_F u q i))) = (if q = 6 then _ else cu_F u q i)
    rw [if_neg hq, if_neg hq, if_neg hq, if_neg hq]
theorem c_O_self (u : c_St) : cs_O u (cu_F u 6) = u := by
  refine c_ext (fun _ => rfl) (fun q i => ?_) (fun _ _ => rfl) (fun _ _ => rfl) (fun _ _ => rfl) (fun _ => rfl)
  show (if q = 6 then cu_F u 6 i else cu_F u q i) = cu_F u q i
  split
  · rename_i h; rw [h]
  · rfl
/-- the line after some of its places have been found again -/
def c_mix (u : c_St) (f : Nat → Nat) (n k : Nat) : Prop := c_srt u f k ∧ (∀ j, j < n → ∃ i, i < n ∧ f j = cu_F u 6 i) ∧ (∀ i, i < n → ∃ j, j < n ∧ f j = cu_F u 6 i) ∧ (∀ i j, i < n → j < n → f i = f j → i = j)
theorem c_mix_s {u : c_St} {f : Nat → Nat} {n k t : Nat} (h : c_mix u f n k) (hk : k < n) (ht : t ≤ k) (h1 : t = 0 ∨ c_lt u (f k) (f (t - 1)) = false) (h2 : ∀ j, t ≤ j → j < k → c_lt u (f k) (f j) = true) : c_mix u (c_put f t k (f k)) n (k + 1) := by
  obtain ⟨a1, a2, a3, a4⟩ := h
  have inv : ∀ j, j < n → ∃ i, i < n ∧ c_put f t k (f k) j = f i ∧ (j < t → i = j) ∧ (j = t → i = k) ∧ (t < j → j ≤ k → i = j - 1) ∧ (k < j → i = j) := by
    intro j hj
    rcases Nat.lt_trichotomy j t with b | b | b
    · exact ⟨j, hj, c_put_lo b, fun _ => rfl, fun q => by omega, fun q => by omega, fun _ => rfl⟩
    · subst b; exact ⟨k, hk, c_put_at, fun q => by omega, fun _ => rfl, fun q => by omega, fun q => by omega⟩
    · by_cases b2 : j ≤ k
      · exact ⟨j - 1, by omega, c_put_mi b b2, fun q => by omega, fun q => by omega, fun _ _ => rfl, fun q => by omega⟩
      · exact ⟨j, hj, c_put_hi ht (by omega), fun _ => rfl, fun q => by omega, fun _ q => by omega, fun _ => rfl⟩
  refine ⟨c_put_srt a1 ht (fun j hj q => by have := a4 j k (by omega) hk q; omega) h1 h2, fun j hj => ?_, fun i hi => ?_, fun i j hi hj q => ?_⟩
  · obtain ⟨i, hi, e, -⟩ := inv j hj
    rw [e]; exact a2 i hi
  · obtain ⟨j, hj, e⟩ := a3 i hi
    by_cases b : j < t
    · exact ⟨j, hj, by rw [c_put_lo b]; exact e⟩
    · by_cases b2 : j < k
      · exact ⟨j + 1, by omega, by rw [c_put_mi (by omega) (by omega)]; exact e⟩
      · by_cases b3 : j = k
        · exact ⟨t, by omega, by rw [c_put_at, ← b3]; exact e⟩
        · exact ⟨j, hj, by rw [c_put_hi ht (by omega)]; exact e⟩
  · obtain ⟨x, hx, ex, x1, x2, x3, x4⟩ := inv i hi
    obtain ⟨y, hy, ey, y1, y2, y3, y4⟩ := inv j hj
    have := a4 x y hx hy (by rw [← ex, ← ey]; exact q)
    omega
set_option maxHeartbeats 4000000 in
set_option maxRecDepth 100000 in
theorem c_X1_sortAgain (l : Launch) (dC : Nat → ClassId) (dI : Nat → Nat → Nat) (a : Nat → Nat) (k : c_K) (u : c_St) (sz : Nat) (h : c_ok u) (hp : cu_N u 2 ≤ 200) (ho : ∀ j, j < cu_N u 2 → cu_F u 6 j < cu_N u 0) (hi : ∀ i j, i < cu_N u 2 → j < cu_N u 2 → cu_F u 6 i = cu_F u 6 j → i = j) : Met l yX1_sortAgain wsX1_sortAgain ({ frames := 4, cells := 0, slots := 0, locals := 90 }) (va_Pc [.ref (a 3)] (w_mu (dC, dI) vwCl (wC a k u) (tC k) sz)) (va_Qv (fun (u1 : c_St) => ∃ f : Nat → Nat, u1 = cs_O u f ∧ c_mix u f (cu_N u 2) (cu_N u 2)) (w_at (dC, dI) vwCl (wC a k) (tC k) (va_A (wC a k u) sz)) (va_A (wC a k u) sz)) 0 0 (va_A (wC a k u) sz) := by
  refine Met.ofW (cc := cX1_sortAgain) (maxL := 2) (ret := none) (by decide) rfl ?_
  intro p e s m args below meth c s₁ B hml hv
  obtain ⟨rfl, hsz, hP, hK, hD0⟩ := hv
  have hx := B.exec
  have hb := B.bytes
  have hr := B.returns
  have hts := atoms_spec (ws := wsX1_sortAgain) B.pre
  have htg : ∀ w ∈ wG, w.before _ s = true := fun w h => hts w (List.mem_cons_of_mem _ h)
  have hown : s.vm.findClass RX1 = some m.cls := findClass_of_methodNamed B.named
  have hlocks := B.notSynchronized
  subst hsz
  have hD := hD0.self (sz := s.heap.size)
  generalize hAe : va_A (wC a k u) s.heap.size = A at hD ⊢
  have hA : ∀ q : Nat, s.heap.size ≤ q → A q := fun q h => by rw [← hAe]; exact Or.inr h
  have hS : va_S A s.heap s.heap [] := va_S.rf
  have hl := lv_entry ([.ref (a 3)]) (n := 2) (Nat.le_of_ble_eq_true rfl)
  rw [lg_entry_eq]
  generalize (lg_sl ([.ref (a 3)]) ++ List.replicate (2 - (lg_sl ([.ref (a 3)])).length) Slot.unset).toArray = ls at hl ⊢
  have hl : lv_has ls 2 [(0, .ref (a 3))] := hl
  refine lv_iconst (v := 1) hx hb dX1_sortAgain_0 (by decide) ?_
  refine lv_istore_n (lv' := [(1, .int 1), (0, .ref (a 3))]) hx hb dX1_sortAgain_1 rfl hl (by decide) rfl (fun ls hl => ?_)
  have hP := w_pE (congrArg (wC a k) (c_O_self u).symm) hP
  have hD := w_dE (congrArg (wC a k) (c_O_self u).symm) hD
  refine w_loopH (σ := Nat × (Nat → Nat)) (fun x => cu_N u 2 - x.1) (fun x H locs ls => 1 ≤ x.1 ∧ c_mix u x.2 (cu_N u 2) x.1 ∧ va_P (dC, dI) vwCl (wC a k (cs_O u x.2)) H ∧ va_D A (wC a k (cs_O u x.2)) ∧ va_S A s.heap H locs ∧ lv_has ls 2 [(0, .ref (a 3)), (1, .int (nI x.1))] ∧ (x.1 ≤ cu_N u 2 ∨ x.1 = 1)) ?_ (1, cu_F u 6) _ _ ls ⟨Nat.le_refl _, ⟨fun i j q1 q2 => absurd q2 (by show ¬ j < 1; omega), fun j hj => ⟨j, hj, rfl⟩, fun j hj => ⟨j, hj, rfl⟩, hi⟩, hP, hD, hS, lv_sub hl [1, 0] rfl, Or.inr rfl⟩
  clear hP hD hS hl
  intro x H locs ls hI ih
  obtain ⟨hx1, hmx, hP, hD, hS, hl, hx3⟩ := hI
  refine lv_iload_n hx hb dX1_sortAgain_2 rfl (lv_at hl 1 rfl) ?_
  refine lv_aload_n hx hb dX1_sortAgain_3 rfl (lv_at hl 0 rfl) ?_
  refine va_get (D := (dC, dI)) (ci := 1) (v := .int (nI (cu_N (cs_O u x.2) 2))) (C := RX1) (T := TX1) (N := 4) hx hb htg inX1 hown hK hP 3 (wC_g3 a k _) rfl 1 (by decide) (htg _ q_98) (fun _ h9 => h9) rfl dX1_sortAgain_4 ?_
  refine wtopi (y := nI (cu_N u 2)) rfl ?_
  refine nb_ge (a := x.1) (b := (cu_N u 2)) (tgt := 21) hx hb (by omega) (by omega) rfl rfl dX1_sortAgain_7 (by decide) (fun c_7 => ?_) (fun c_7 => ?_)
  · have c_7 : cu_N u 2 ≤ x.1 := c_7
    have hfin : c_mix u x.2 (cu_N u 2) (cu_N u 2) := ⟨fun i j q1 q2 => hmx.1 i j q1 (by omega), hmx.2⟩
    exact W.vret hx hb hr (fun t9 ht9 hW9 => ⟨⟨cs_O u x.2, rfl, ⟨x.2, rfl, hfin⟩, by rw [ht9]; exact hP, va_K.moved hW9.alike hK, hD⟩, hS.F ht9⟩) hS.2.2 dX1_sortAgain_21
  · have c_7 : x.1 < cu_N u 2 := c_7
    have hom : ∀ j, j ≤ x.1 → x.2 j < cu_N u 0 := fun j hj => by
      obtain ⟨i, hi, e⟩ := hmx.2.1 j (by omega)
      rw [e]; exact ho i hi
    refine lv_aload_n hx hb dX1_sortAgain_10 rfl (lv_at hl 0 rfl) ?_
    refine lv_iload_n hx hb dX1_sortAgain_11 rfl (lv_at hl 1 rfl) ?_
    refine w_calv (w := wC a k) (va_runV (As := [.int (nI x.1)]) (rest := []) ⟨hx, hb, hml, hown, hts⟩ (c_X1_settle l dC dI a k (cs_O u x.2) _ h x.1 (by omega) hom) (cwV 1 hts (wG_V wG_c q_367 q_369 p_3 q_4 q_370) rfl rfl rfl (by decide +kernel) ⟨Nat.le_of_ble_eq_true rfl, Nat.le_of_ble_eq_true rfl⟩) (w_muV hK hP hD (ci := 1) (q0 := 3) rfl (wC_g3 a k _) rfl) rfl rfl hl.1 rfl (lv_room (Nat.le_of_ble_eq_true rfl)) dX1_sortAgain_12 ⟨Nat.le_of_ble_eq_true rfl, Nat.le_of_ble_eq_true rfl⟩) hD hS hA (fun u_1 H locs hq_1 hP hD hS => ?_)
    obtain ⟨t, ht, eu, h1, h2⟩ := hq_1
    have hmx := c_mix_s (t := t) hmx c_7 ht h1 h2
    have eu := eu.trans (c_O_put u x.2)
    subst eu
    refine lv_iinc (v := nI (x.1 + 1)) (lv' := [(1, .int (nI (x.1 + 1))), (0, .ref (a 3))]) hx hb dX1_sortAgain_15 hl (k := 1) rfl (nI_1 x.1) (by decide) rfl (fun ls hl => ?_)
    refine lv_goto (tgt := 2) hx hb dX1_sortAgain_18 (by decide) ?_
    exact ih (x.1 + 1, c_put x.2 t x.1 (x.2 x.1)) H locs ls (by show cu_N u 2 - (x.1 + 1) < cu_N u 2 - x.1; omega) ⟨by show 1 ≤ x.1 + 1; omega, hmx, hP, hD, hS, lv_sub hl [1, 0] rfl, Or.inl (by show x.1 + 1 ≤ cu_N u 2; omega)⟩
end
section
theorem dX6_init_0 : decode cX6_init 0 = .ok (.aload_n 0, 1) := by decide +kernel
theorem dX6_init_1 : decode cX6_init 1 = .ok (.invokespecial 1, 3) := by decide +kernel
theorem dX6_init_4 : decode cX6_init 4 = .ok (.aload_n 0, 1) := by decide +kernel
theorem dX6_init_5 : decode cX6_init 5 = .ok (.sipush 200, 3) := by decide +kernel
theorem dX6_init_8 : decode cX6_init 8 = .ok (.newarray .int, 2) := by decide +kernel
theorem dX6_init_10 : decode cX6_init 10 = .ok (.putfield 7, 3) := by decide +kernel
theorem dX6_init_13 : decode cX6_init 13 = .ok (.aload_n 0, 1) := by decide +kernel
theorem dX6_init_14 : decode cX6_init 14 = .ok (.sipush 200, 3) := by decide +kernel
theorem dX6_init_17 : decode cX6_init 17 = .ok (.newarray .int, 2) := by decide +kernel
theorem dX6_init_19 : decode cX6_init 19 = .ok (.putfield 13, 3) := by decide +kernel
theorem dX6_init_22 : decode cX6_init 22 = .ok (.aload_n 0, 1) := by decide +kernel
theorem dX6_init_23 : decode cX6_init 23 = .ok (.sipush 200, 3) := by decide +kernel
theorem dX6_init_26 : decode cX6_init 26 = .ok (.newarray .int, 2) := by decide +kernel
theorem dX6_init_28 : decode cX6_init 28 = .ok (.putfield 16, 3) := by decide +kernel
theorem dX6_init_31 : decode cX6_init 31 = .ok (.aload_n 0, 1) := by decide +kernel
theorem dX6_init_32 : decode cX6_init 32 = .ok (.sipush 1600, 3) := by decide +kernel
theorem dX6_init_35 : decode cX6_init 35 = .ok (.newarray .int, 2) := by decide +kernel
theorem dX6_init_37 : decode cX6_init 37 = .ok (.putfield 19, 3) := by decide +kernel
theorem dX6_init_40 : decode cX6_init 40 = .ok (.aload_n 0, 1) := by decide +kernel
theorem dX6_init_41 : decode cX6_init 41 = .ok (.sipush 200, 3) := by decide +kernel
theorem dX6_init_44 : decode cX6_init 44 = .ok (.newarray .int, 2) := by decide +kernel
theorem dX6_init_46 : decode cX6_init 46 = .ok (.putfield 22, 3) := by decide +kernel
theorem dX6_init_49 : decode cX6_init 49 = .ok (.aload_n 0, 1) := by decide +kernel
theorem dX6_init_50 : decode cX6_init 50 = .ok (.sipush 200, 3) := by decide +kernel
theorem dX6_init_53 : decode cX6_init 53 = .ok (.newarray .int, 2) := by decide +kernel
theorem dX6_init_55 : decode cX6_init 55 = .ok (.putfield 25, 3) := by decide +kernel
theorem dX6_init_58 : decode cX6_init 58 = .ok (.aload_n 0, 1) := by decide +kernel
theorem dX6_init_59 : decode cX6_init 59 = .ok (.sipush 200, 3) := by decide +kernel
theorem dX6_init_62 : decode cX6_init 62 = .ok (.newarray .int, 2) := by decide +kernel
theorem dX6_init_64 : decode cX6_init 64 = .ok (.putfield 28, 3) := by decide +kernel
theorem dX6_init_67 : decode cX6_init 67 = .ok (.aload_n 0, 1) := by decide +kernel
theorem dX6_init_68 : decode cX6_init 68 = .ok (.sipush 200, 3) := by decide +kernel
theorem dX6_init_71 : decode cX6_init 71 = .ok (.newarray .boolean, 2) := by decide +kernel
theorem dX6_init_73 : decode cX6_init 73 = .ok (.putfield 31, 3) := by decide +kernel
theorem dX6_init_76 : decode cX6_init 76 = .ok (.aload_n 0, 1) := by decide +kernel
theorem dX6_init_77 : decode cX6_init 77 = .ok (.bipush 60, 2) := by decide +kernel
theorem dX6_init_79 : decode cX6_init 79 = .ok (.newarray .int, 2) := by decide +kernel
theorem dX6_init_81 : decode cX6_init 81 = .ok (.putfield 35, 3) := by decide +kernel
theorem dX6_init_84 : decode cX6_init 84 = .ok (.aload_n 0, 1) := by decide +kernel
theorem dX6_init_85 : decode cX6_init 85 = .ok (.bipush 60, 2) := by decide +kernel
theorem dX6_init_87 : decode cX6_init 87 = .ok (.newarray .int, 2) := by decide +kernel
theorem dX6_init_89 : decode cX6_init 89 = .ok (.putfield 38, 3) := by decide +kernel
theorem dX6_init_92 : decode cX6_init 92 = .ok (.aload_n 0, 1) := by decide +kernel
theorem dX6_init_93 : decode cX6_init 93 = .ok (.bipush 50, 2) := by decide +kernel
theorem dX6_init_95 : decode cX6_init 95 = .ok (.newarray .boolean, 2) := by decide +kernel
theorem dX6_init_97 : decode cX6_init 97 = .ok (.putfield 41, 3) := by decide +kernel
theorem dX6_init_100 : decode cX6_init 100 = .ok (.aload_n 0, 1) := by decide +kernel
theorem dX6_init_101 : decode cX6_init 101 = .ok (.sipush 1000, 3) := by decide +kernel
theorem dX6_init_104 : decode cX6_init 104 = .ok (.newarray .boolean, 2) := by decide +kernel
theorem dX6_init_106 : decode cX6_init 106 = .ok (.putfield 44, 3) := by decide +kernel
theorem dX6_init_109 : decode cX6_init 109 = .ok (.aload_n 0, 1) := by decide +kernel
theorem dX6_init_110 : decode cX6_init 110 = .ok (.sipush 200, 3) := by decide +kernel
theorem dX6_init_113 : decode cX6_init 113 = .ok (.newarray .int, 2) := by decide +kernel
theorem dX6_init_115 : decode cX6_init 115 = .ok (.putfield 47, 3) := by decide +kernel
theorem dX6_init_118 : decode cX6_init 118 = .ok (.aload_n 0, 1) := by decide +kernel
theorem dX6_init_119 : decode cX6_init 119 = .ok (.sipush 200, 3) := by decide +kernel
theorem dX6_init_122 : decode cX6_init 122 = .ok (.newarray .int, 2) := by decide +kernel
theorem dX6_init_124 : decode cX6_init 124 = .ok (.putfield 50, 3) := by decide +kernel
theorem dX6_init_127 : decode cX6_init 127 = .ok (.aload_n 0, 1) := by decide +kernel
theorem dX6_init_128 : decode cX6_init 128 = .ok (.sipush 600, 3) := by decide +kernel
theorem dX6_init_131 : decode cX6_init 131 = .ok (.newarray .int, 2) := by decide +kernel
theorem dX6_init_133 : decode cX6_init 133 = .ok (.putfield 53, 3) := by decide +kernel
theorem dX6_init_136 : decode cX6_init 136 = .ok (.return_, 1) := by decide +kernel
theorem dX6_thrown_0 : decode cX6_thrown 0 = .ok (.aload_n 0, 1) := by decide +kernel
theorem dX6_thrown_1 : decode cX6_thrown 1 = .ok (.getfield 56, 3) := by decide +kernel
theorem dX6_thrown_4 : decode cX6_thrown 4 = .ok (.ireturn, 1) := by decide +kernel
theorem dX6_throwing_0 : decode cX6_throwing 0 = .ok (.aload_n 0, 1) := by decide +kernel
theorem dX6_throwing_1 : decode cX6_throwing 1 = .ok (.iload_n 1, 1) := by decide +kernel
theorem dX6_throwing_2 : decode cX6_throwing 2 = .ok (.ifCond .eq 7, 3) := by decide +kernel
theorem dX6_throwing_5 : decode cX6_throwing 5 = .ok (.iconst 1, 1) := by decide +kernel
theorem dX6_throwing_6 : decode cX6_throwing 6 = .ok (.goto 20, 3) := by decide +kernel
theorem dX6_throwing_9 : decode cX6_throwing 9 = .ok (.iload_n 2, 1) := by decide +kernel
theorem dX6_throwing_10 : decode cX6_throwing 10 = .ok (.ifCond .eq 7, 3) := by decide +kernel
theorem dX6_throwing_13 : decode cX6_throwing 13 = .ok (.iconst 2, 1) := by decide +kernel
theorem dX6_throwing_14 : decode cX6_throwing 14 = .ok (.goto 12, 3) := by decide +kernel
theorem dX6_throwing_17 : decode cX6_throwing 17 = .ok (.iload_n 3, 1) := by decide +kernel
theorem dX6_throwing_18 : decode cX6_throwing 18 = .ok (.ifCond .eq 7, 3) := by decide +kernel
theorem dX6_throwing_21 : decode cX6_throwing 21 = .ok (.iconst 3, 1) := by decide +kernel
theorem dX6_throwing_22 : decode cX6_throwing 22 = .ok (.goto 4, 3) := by decide +kernel
theorem dX6_throwing_25 : decode cX6_throwing 25 = .ok (.iconst 0, 1) := by decide +kernel
theorem dX6_throwing_26 : decode cX6_throwing 26 = .ok (.putfield 56, 3) := by decide +kernel
theorem dX6_throwing_29 : decode cX6_throwing 29 = .ok (.aload_n 0, 1) := by decide +kernel
theorem dX6_throwing_30 : decode cX6_throwing 30 = .ok (.getfield 56, 3) := by decide +kernel
theorem dX6_throwing_33 : decode cX6_throwing 33 = .ok (.ifCond .le 7, 3) := by decide +kernel
theorem dX6_throwing_36 : decode cX6_throwing 36 = .ok (.iconst 1, 1) := by decide +kernel
theorem dX6_throwing_37 : decode cX6_throwing 37 = .ok (.goto 4, 3) := by decide +kernel
theorem dX6_throwing_40 : decode cX6_throwing 40 = .ok (.iconst 0, 1) := by decide +kernel
theorem dX6_throwing_41 : decode cX6_throwing 41 = .ok (.ireturn, 1) := by decide +kernel
theorem dX6_in_0 : decode cX6_in 0 = .ok (.iload_n 0, 1) := by decide +kernel
theorem dX6_in_1 : decode cX6_in 1 = .ok (.iload_n 1, 1) := by decide +kernel
theorem dX6_in_2 : decode cX6_in 2 = .ok (.if_icmp .lt 12, 3) := by decide +kernel
theorem dX6_in_5 : decode cX6_in 5 = .ok (.iload_n 0, 1) := by decide +kernel
theorem dX6_in_6 : decode cX6_in 6 = .ok (.iload_n 2, 1) := by decide +kernel
theorem dX6_in_7 : decode cX6_in 7 = .ok (.if_icmp .gt 7, 3) := by decide +kernel
theorem dX6_in_10 : decode cX6_in 10 = .ok (.iconst 1, 1) := by decide +kernel
theorem dX6_in_11 : decode cX6_in 11 = .ok (.goto 4, 3) := by decide +kernel
theorem dX6_in_14 : decode cX6_in 14 = .ok (.iconst 0, 1) := by decide +kernel
theorem dX6_in_15 : decode cX6_in 15 = .ok (.ireturn, 1) := by decide +kernel
theorem dX6_isSlot_0 : decode cX6_isSlot 0 = .ok (.iload_n 1, 1) := by decide +kernel
theorem dX6_isSlot_1 : decode cX6_isSlot 1 = .ok (.iconst 0, 1) := by decide +kernel
theorem dX6_isSlot_2 : decode cX6_isSlot 2 = .ok (.aload_n 0, 1) := by decide +kernel
theorem dX6_isSlot_3 : decode cX6_isSlot 3 = .ok (.getfield 60, 3) := by decide +kernel
theorem dX6_isSlot_6 : decode cX6_isSlot 6 = .ok (.iconst 1, 1) := by decide +kernel
theorem dX6_isSlot_7 : decode cX6_isSlot 7 = .ok (.isub, 1) := by decide +kernel
theorem dX6_isSlot_8 : decode cX6_isSlot 8 = .ok (.invokestatic 63, 3) := by decide +kernel
theorem dX6_isSlot_11 : decode cX6_isSlot 11 = .ok (.ireturn, 1) := by decide +kernel
theorem dX6_with_0 : decode cX6_with 0 = .ok (.iload_n 0, 1) := by decide +kernel
theorem dX6_with_1 : decode cX6_with 1 = .ok (.iload_n 1, 1) := by decide +kernel
theorem dX6_with_2 : decode cX6_with 2 = .ok (.ixor, 1) := by decide +kernel
theorem dX6_with_3 : decode cX6_with 3 = .ok (.istore_n 2, 1) := by decide +kernel
theorem dX6_with_4 : decode cX6_with 4 = .ok (.iload_n 2, 1) := by decide +kernel
theorem dX6_with_5 : decode cX6_with 5 = .ok (.iconst 5, 1) := by decide +kernel
theorem dX6_with_6 : decode cX6_with 6 = .ok (.ishl, 1) := by decide +kernel
theorem dX6_with_7 : decode cX6_with 7 = .ok (.iload_n 2, 1) := by decide +kernel
theorem dX6_with_8 : decode cX6_with 8 = .ok (.bipush 27, 2) := by decide +kernel
theorem dX6_with_10 : decode cX6_with 10 = .ok (.iushr, 1) := by decide +kernel
theorem dX6_with_11 : decode cX6_with 11 = .ok (.ior, 1) := by decide +kernel
theorem dX6_with_12 : decode cX6_with 12 = .ok (.ldc 67, 2) := by decide +kernel
theorem dX6_with_14 : decode cX6_with 14 = .ok (.imul, 1) := by decide +kernel
theorem dX6_with_15 : decode cX6_with 15 = .ok (.ireturn, 1) := by decide +kernel
theorem dX6_sumOf_0 : decode cX6_sumOf 0 = .ok (.iconst 0, 1) := by decide +kernel
theorem dX6_sumOf_1 : decode cX6_sumOf 1 = .ok (.istore_n 2, 1) := by decide +kernel
theorem dX6_sumOf_2 : decode cX6_sumOf 2 = .ok (.iconst 0, 1) := by decide +kernel
theorem dX6_sumOf_3 : decode cX6_sumOf 3 = .ok (.istore_n 3, 1) := by decide +kernel
theorem dX6_sumOf_4 : decode cX6_sumOf 4 = .ok (.iload_n 3, 1) := by decide +kernel
theorem dX6_sumOf_5 : decode cX6_sumOf 5 = .ok (.aload_n 0, 1) := by decide +kernel
theorem dX6_sumOf_6 : decode cX6_sumOf 6 = .ok (.getfield 16, 3) := by decide +kernel
theorem dX6_sumOf_9 : decode cX6_sumOf 9 = .ok (.iload_n 1, 1) := by decide +kernel
theorem dX6_sumOf_10 : decode cX6_sumOf 10 = .ok (.iaload, 1) := by decide +kernel
theorem dX6_sumOf_11 : decode cX6_sumOf 11 = .ok (.if_icmp .ge 25, 3) := by decide +kernel
theorem dX6_sumOf_14 : decode cX6_sumOf 14 = .ok (.iload_n 2, 1) := by decide +kernel
theorem dX6_sumOf_15 : decode cX6_sumOf 15 = .ok (.aload_n 0, 1) := by decide +kernel
theorem dX6_sumOf_16 : decode cX6_sumOf 16 = .ok (.getfield 19, 3) := by decide +kernel
theorem dX6_sumOf_19 : decode cX6_sumOf 19 = .ok (.bipush 8, 2) := by decide +kernel
theorem dX6_sumOf_21 : decode cX6_sumOf 21 = .ok (.iload_n 1, 1) := by decide +kernel
theorem dX6_sumOf_22 : decode cX6_sumOf 22 = .ok (.imul, 1) := by decide +kernel
theorem dX6_sumOf_23 : decode cX6_sumOf 23 = .ok (.iload_n 3, 1) := by decide +kernel
theorem dX6_sumOf_24 : decode cX6_sumOf 24 = .ok (.iadd, 1) := by decide +kernel
theorem dX6_sumOf_25 : decode cX6_sumOf 25 = .ok (.iaload, 1) := by decide +kernel
theorem dX6_sumOf_26 : decode cX6_sumOf 26 = .ok (.invokestatic 68, 3) := by decide +kernel
theorem dX6_sumOf_29 : decode cX6_sumOf 29 = .ok (.istore_n 2, 1) := by decide +kernel
theorem dX6_sumOf_30 : decode cX6_sumOf 30 = .ok (.iinc 3 1, 3) := by decide +kernel
theorem dX6_sumOf_33 : decode cX6_sumOf 33 = .ok (.goto (-29), 3) := by decide +kernel
theorem dX6_sumOf_36 : decode cX6_sumOf 36 = .ok (.iload_n 2, 1) := by decide +kernel
theorem dX6_sumOf_37 : decode cX6_sumOf 37 = .ok (.ireturn, 1) := by decide +kernel
theorem dX6_slot_0 : decode cX6_slot 0 = .ok (.iload_n 1, 1) := by decide +kernel
theorem dX6_slot_1 : decode cX6_slot 1 = .ok (.iconst 0, 1) := by decide +kernel
theorem dX6_slot_2 : decode cX6_slot 2 = .ok (.bipush 9, 2) := by decide +kernel
theorem dX6_slot_4 : decode cX6_slot 4 = .ok (.invokestatic 63, 3) := by decide +kernel
theorem dX6_slot_7 : decode cX6_slot 7 = .ok (.ifCond .eq 25, 3) := by decide +kernel
theorem dX6_slot_10 : decode cX6_slot 10 = .ok (.iload 6, 2) := by decide +kernel
theorem dX6_slot_12 : decode cX6_slot 12 = .ok (.iconst 0, 1) := by decide +kernel
theorem dX6_slot_13 : decode cX6_slot 13 = .ok (.bipush 99, 2) := by decide +kernel
theorem dX6_slot_15 : decode cX6_slot 15 = .ok (.invokestatic 63, 3) := by decide +kernel
theorem dX6_slot_18 : decode cX6_slot 18 = .ok (.ifCond .eq 14, 3) := by decide +kernel
theorem dX6_slot_21 : decode cX6_slot 21 = .ok (.iload 7, 2) := by decide +kernel
theorem dX6_slot_23 : decode cX6_slot 23 = .ok (.iconst 0, 1) := by decide +kernel
theorem dX6_slot_24 : decode cX6_slot 24 = .ok (.bipush 49, 2) := by decide +kernel
theorem dX6_slot_26 : decode cX6_slot 26 = .ok (.invokestatic 63, 3) := by decide +kernel
theorem dX6_slot_29 : decode cX6_slot 29 = .ok (.ifCond .ne 7, 3) := by decide +kernel
theorem dX6_slot_32 : decode cX6_slot 32 = .ok (.iconst 1, 1) := by decide +kernel
theorem dX6_slot_33 : decode cX6_slot 33 = .ok (.goto 4, 3) := by decide +kernel
theorem dX6_slot_36 : decode cX6_slot 36 = .ok (.iconst 0, 1) := by decide +kernel
theorem dX6_slot_37 : decode cX6_slot 37 = .ok (.istore 8, 2) := by decide +kernel
theorem dX6_slot_39 : decode cX6_slot 39 = .ok (.aload_n 0, 1) := by decide +kernel
theorem dX6_slot_40 : decode cX6_slot 40 = .ok (.iload 8, 2) := by decide +kernel
theorem dX6_slot_42 : decode cX6_slot 42 = .ok (.iload_n 2, 1) := by decide +kernel
theorem dX6_slot_43 : decode cX6_slot 43 = .ok (.iconst 0, 1) := by decide +kernel
theorem dX6_slot_44 : decode cX6_slot 44 = .ok (.ldc 72, 2) := by decide +kernel
theorem dX6_slot_46 : decode cX6_slot 46 = .ok (.invokestatic 63, 3) := by decide +kernel
theorem dX6_slot_49 : decode cX6_slot 49 = .ok (.ifCond .eq 13, 3) := by decide +kernel
theorem dX6_slot_52 : decode cX6_slot 52 = .ok (.iload_n 3, 1) := by decide +kernel
theorem dX6_slot_53 : decode cX6_slot 53 = .ok (.iconst 1, 1) := by decide +kernel
theorem dX6_slot_54 : decode cX6_slot 54 = .ok (.bipush 8, 2) := by decide +kernel
theorem dX6_slot_56 : decode cX6_slot 56 = .ok (.invokestatic 63, 3) := by decide +kernel
theorem dX6_slot_59 : decode cX6_slot 59 = .ok (.ifCond .ne 7, 3) := by decide +kernel
theorem dX6_slot_62 : decode cX6_slot 62 = .ok (.iconst 1, 1) := by decide +kernel
theorem dX6_slot_63 : decode cX6_slot 63 = .ok (.goto 4, 3) := by decide +kernel
theorem dX6_slot_66 : decode cX6_slot 66 = .ok (.iconst 0, 1) := by decide +kernel
theorem dX6_slot_67 : decode cX6_slot 67 = .ok (.aload_n 0, 1) := by decide +kernel
theorem dX6_slot_68 : decode cX6_slot 68 = .ok (.getfield 60, 3) := by decide +kernel
theorem dX6_slot_71 : decode cX6_slot 71 = .ok (.sipush 200, 3) := by decide +kernel
theorem dX6_slot_74 : decode cX6_slot 74 = .ok (.if_icmp .ne 7, 3) := by decide +kernel
theorem dX6_slot_77 : decode cX6_slot 77 = .ok (.iconst 1, 1) := by decide +kernel
theorem dX6_slot_78 : decode cX6_slot 78 = .ok (.goto 4, 3) := by decide +kernel
theorem dX6_slot_81 : decode cX6_slot 81 = .ok (.iconst 0, 1) := by decide +kernel
theorem dX6_slot_82 : decode cX6_slot 82 = .ok (.invokevirtual 73, 3) := by decide +kernel
theorem dX6_slot_85 : decode cX6_slot 85 = .ok (.ifCond .eq 5, 3) := by decide +kernel
theorem dX6_slot_88 : decode cX6_slot 88 = .ok (.iconst 0, 1) := by decide +kernel
theorem dX6_slot_89 : decode cX6_slot 89 = .ok (.ireturn, 1) := by decide +kernel
theorem dX6_slot_90 : decode cX6_slot 90 = .ok (.aload_n 0, 1) := by decide +kernel
theorem dX6_slot_91 : decode cX6_slot 91 = .ok (.getfield 60, 3) := by decide +kernel
theorem dX6_slot_94 : decode cX6_slot 94 = .ok (.istore 9, 2) := by decide +kernel
theorem dX6_slot_96 : decode cX6_slot 96 = .ok (.aload_n 0, 1) := by decide +kernel
theorem dX6_slot_97 : decode cX6_slot 97 = .ok (.getfield 7, 3) := by decide +kernel
theorem dX6_slot_100 : decode cX6_slot 100 = .ok (.iload 9, 2) := by decide +kernel
theorem dX6_slot_102 : decode cX6_slot 102 = .ok (.iload_n 1, 1) := by decide +kernel
theorem dX6_slot_103 : decode cX6_slot 103 = .ok (.iastore, 1) := by decide +kernel
theorem dX6_slot_104 : decode cX6_slot 104 = .ok (.aload_n 0, 1) := by decide +kernel
theorem dX6_slot_105 : decode cX6_slot 105 = .ok (.getfield 13, 3) := by decide +kernel
theorem dX6_slot_108 : decode cX6_slot 108 = .ok (.iload 9, 2) := by decide +kernel
theorem dX6_slot_110 : decode cX6_slot 110 = .ok (.iload_n 2, 1) := by decide +kernel
theorem dX6_slot_111 : decode cX6_slot 111 = .ok (.iastore, 1) := by decide +kernel
theorem dX6_slot_112 : decode cX6_slot 112 = .ok (.aload_n 0, 1) := by decide +kernel
theorem dX6_slot_113 : decode cX6_slot 113 = .ok (.getfield 16, 3) := by decide +kernel
theorem dX6_slot_116 : decode cX6_slot 116 = .ok (.iload 9, 2) := by decide +kernel
theorem dX6_slot_118 : decode cX6_slot 118 = .ok (.iload_n 3, 1) := by decide +kernel
theorem dX6_slot_119 : decode cX6_slot 119 = .ok (.iastore, 1) := by decide +kernel
theorem dX6_slot_120 : decode cX6_slot 120 = .ok (.aload_n 0, 1) := by decide +kernel
theorem dX6_slot_121 : decode cX6_slot 121 = .ok (.getfield 22, 3) := by decide +kernel
theorem dX6_slot_124 : decode cX6_slot 124 = .ok (.iload 9, 2) := by decide +kernel
theorem dX6_slot_126 : decode cX6_slot 126 = .ok (.iload 6, 2) := by decide +kernel
theorem dX6_slot_128 : decode cX6_slot 128 = .ok (.iastore, 1) := by decide +kernel
theorem dX6_slot_129 : decode cX6_slot 129 = .ok (.aload_n 0, 1) := by decide +kernel
theorem dX6_slot_130 : decode cX6_slot 130 = .ok (.getfield 25, 3) := by decide +kernel
theorem dX6_slot_133 : decode cX6_slot 133 = .ok (.iload 9, 2) := by decide +kernel
theorem dX6_slot_135 : decode cX6_slot 135 = .ok (.iload 7, 2) := by decide +kernel
theorem dX6_slot_137 : decode cX6_slot 137 = .ok (.iastore, 1) := by decide +kernel
theorem dX6_slot_138 : decode cX6_slot 138 = .ok (.iconst 0, 1) := by decide +kernel
theorem dX6_slot_139 : decode cX6_slot 139 = .ok (.istore 10, 2) := by decide +kernel
theorem dX6_slot_141 : decode cX6_slot 141 = .ok (.iload 10, 2) := by decide +kernel
theorem dX6_slot_143 : decode cX6_slot 143 = .ok (.iload_n 3, 1) := by decide +kernel
theorem dX6_slot_144 : decode cX6_slot 144 = .ok (.if_icmp .ge 39, 3) := by decide +kernel
theorem dX6_slot_147 : decode cX6_slot 147 = .ok (.aload_n 0, 1) := by decide +kernel
theorem dX6_slot_148 : decode cX6_slot 148 = .ok (.getfield 19, 3) := by decide +kernel
theorem dX6_slot_151 : decode cX6_slot 151 = .ok (.bipush 8, 2) := by decide +kernel
theorem dX6_slot_153 : decode cX6_slot 153 = .ok (.iload 9, 2) := by decide +kernel
theorem dX6_slot_155 : decode cX6_slot 155 = .ok (.imul, 1) := by decide +kernel
theorem dX6_slot_156 : decode cX6_slot 156 = .ok (.iload 10, 2) := by decide +kernel
theorem dX6_slot_158 : decode cX6_slot 158 = .ok (.iadd, 1) := by decide +kernel
theorem dX6_slot_159 : decode cX6_slot 159 = .ok (.lload 4, 2) := by decide +kernel
theorem dX6_slot_161 : decode cX6_slot 161 = .ok (.bipush 8, 2) := by decide +kernel
theorem dX6_slot_163 : decode cX6_slot 163 = .ok (.iload_n 3, 1) := by decide +kernel
theorem dX6_slot_164 : decode cX6_slot 164 = .ok (.iconst 1, 1) := by decide +kernel
theorem dX6_slot_165 : decode cX6_slot 165 = .ok (.isub, 1) := by decide +kernel
theorem dX6_slot_166 : decode cX6_slot 166 = .ok (.iload 10, 2) := by decide +kernel
theorem dX6_slot_168 : decode cX6_slot 168 = .ok (.isub, 1) := by decide +kernel
theorem dX6_slot_169 : decode cX6_slot 169 = .ok (.imul, 1) := by decide +kernel
theorem dX6_slot_170 : decode cX6_slot 170 = .ok (.lshr, 1) := by decide +kernel
theorem dX6_slot_171 : decode cX6_slot 171 = .ok (.l2i, 1) := by decide +kernel
theorem dX6_slot_172 : decode cX6_slot 172 = .ok (.sipush 255, 3) := by decide +kernel
theorem dX6_slot_175 : decode cX6_slot 175 = .ok (.iand, 1) := by decide +kernel
theorem dX6_slot_176 : decode cX6_slot 176 = .ok (.iastore, 1) := by decide +kernel
theorem dX6_slot_177 : decode cX6_slot 177 = .ok (.iinc 10 1, 3) := by decide +kernel
theorem dX6_slot_180 : decode cX6_slot 180 = .ok (.goto (-39), 3) := by decide +kernel
theorem dX6_slot_183 : decode cX6_slot 183 = .ok (.aload_n 0, 1) := by decide +kernel
theorem dX6_slot_184 : decode cX6_slot 184 = .ok (.getfield 28, 3) := by decide +kernel
theorem dX6_slot_187 : decode cX6_slot 187 = .ok (.iload 9, 2) := by decide +kernel
theorem dX6_slot_189 : decode cX6_slot 189 = .ok (.aload_n 0, 1) := by decide +kernel
theorem dX6_slot_190 : decode cX6_slot 190 = .ok (.iload 9, 2) := by decide +kernel
theorem dX6_slot_192 : decode cX6_slot 192 = .ok (.invokevirtual 77, 3) := by decide +kernel
theorem dX6_slot_195 : decode cX6_slot 195 = .ok (.iastore, 1) := by decide +kernel
theorem dX6_slot_196 : decode cX6_slot 196 = .ok (.aload_n 0, 1) := by decide +kernel
theorem dX6_slot_197 : decode cX6_slot 197 = .ok (.dup, 1) := by decide +kernel
theorem dX6_slot_198 : decode cX6_slot 198 = .ok (.getfield 60, 3) := by decide +kernel
theorem dX6_slot_201 : decode cX6_slot 201 = .ok (.iconst 1, 1) := by decide +kernel
theorem dX6_slot_202 : decode cX6_slot 202 = .ok (.iadd, 1) := by decide +kernel
theorem dX6_slot_203 : decode cX6_slot 203 = .ok (.putfield 60, 3) := by decide +kernel
theorem dX6_slot_206 : decode cX6_slot 206 = .ok (.iload 9, 2) := by decide +kernel
theorem dX6_slot_208 : decode cX6_slot 208 = .ok (.ireturn, 1) := by decide +kernel
theorem dX6_firstMark_0 : decode cX6_firstMark 0 = .ok (.iconst 0, 1) := by decide +kernel
theorem dX6_firstMark_1 : decode cX6_firstMark 1 = .ok (.istore_n 2, 1) := by decide +kernel
theorem dX6_firstMark_2 : decode cX6_firstMark 2 = .ok (.iload_n 2, 1) := by decide +kernel
theorem dX6_firstMark_3 : decode cX6_firstMark 3 = .ok (.aload_n 0, 1) := by decide +kernel
theorem dX6_firstMark_4 : decode cX6_firstMark 4 = .ok (.getfield 81, 3) := by decide +kernel
theorem dX6_firstMark_7 : decode cX6_firstMark 7 = .ok (.if_icmp .ge 21, 3) := by decide +kernel
theorem dX6_firstMark_10 : decode cX6_firstMark 10 = .ok (.aload_n 0, 1) := by decide +kernel
theorem dX6_firstMark_11 : decode cX6_firstMark 11 = .ok (.getfield 35, 3) := by decide +kernel
theorem dX6_firstMark_14 : decode cX6_firstMark 14 = .ok (.iload_n 2, 1) := by decide +kernel
theorem dX6_firstMark_15 : decode cX6_firstMark 15 = .ok (.iaload, 1) := by decide +kernel
theorem dX6_firstMark_16 : decode cX6_firstMark 16 = .ok (.iload_n 1, 1) := by decide +kernel
theorem dX6_firstMark_17 : decode cX6_firstMark 17 = .ok (.if_icmp .ne 5, 3) := by decide +kernel
theorem dX6_firstMark_20 : decode cX6_firstMark 20 = .ok (.iload_n 2, 1) := by decide +kernel
theorem dX6_firstMark_21 : decode cX6_firstMark 21 = .ok (.ireturn, 1) := by decide +kernel
theorem dX6_firstMark_22 : decode cX6_firstMark 22 = .ok (.iinc 2 1, 3) := by decide +kernel
theorem dX6_firstMark_25 : decode cX6_firstMark 25 = .ok (.goto (-23), 3) := by decide +kernel
theorem dX6_firstMark_28 : decode cX6_firstMark 28 = .ok (.iconst (-1), 1) := by decide +kernel
theorem dX6_firstMark_29 : decode cX6_firstMark 29 = .ok (.ireturn, 1) := by decide +kernel
theorem dX6_offsetOf_0 : decode cX6_offsetOf 0 = .ok (.aload_n 0, 1) := by decide +kernel
theorem dX6_offsetOf_1 : decode cX6_offsetOf 1 = .ok (.iload_n 1, 1) := by decide +kernel
theorem dX6_offsetOf_2 : decode cX6_offsetOf 2 = .ok (.invokevirtual 84, 3) := by decide +kernel
theorem dX6_offsetOf_5 : decode cX6_offsetOf 5 = .ok (.istore_n 2, 1) := by decide +kernel
theorem dX6_offsetOf_6 : decode cX6_offsetOf 6 = .ok (.iload_n 2, 1) := by decide +kernel
theorem dX6_offsetOf_7 : decode cX6_offsetOf 7 = .ok (.ifCond .ge 7, 3) := by decide +kernel
theorem dX6_offsetOf_10 : decode cX6_offsetOf 10 = .ok (.iconst 0, 1) := by decide +kernel
theorem dX6_offsetOf_11 : decode cX6_offsetOf 11 = .ok (.goto 9, 3) := by decide +kernel
theorem dX6_offsetOf_14 : decode cX6_offsetOf 14 = .ok (.aload_n 0, 1) := by decide +kernel
theorem dX6_offsetOf_15 : decode cX6_offsetOf 15 = .ok (.getfield 38, 3) := by decide +kernel
theorem dX6_offsetOf_18 : decode cX6_offsetOf 18 = .ok (.iload_n 2, 1) := by decide +kernel
theorem dX6_offsetOf_19 : decode cX6_offsetOf 19 = .ok (.iaload, 1) := by decide +kernel
theorem dX6_offsetOf_20 : decode cX6_offsetOf 20 = .ok (.ireturn, 1) := by decide +kernel
theorem dX6_mark_0 : decode cX6_mark 0 = .ok (.aload_n 0, 1) := by decide +kernel
theorem dX6_mark_1 : decode cX6_mark 1 = .ok (.iload_n 1, 1) := by decide +kernel
theorem dX6_mark_2 : decode cX6_mark 2 = .ok (.iconst 0, 1) := by decide +kernel
theorem dX6_mark_3 : decode cX6_mark 3 = .ok (.bipush 9, 2) := by decide +kernel
theorem dX6_mark_5 : decode cX6_mark 5 = .ok (.invokestatic 63, 3) := by decide +kernel
theorem dX6_mark_8 : decode cX6_mark 8 = .ok (.ifCond .ne 7, 3) := by decide +kernel
theorem dX6_mark_11 : decode cX6_mark 11 = .ok (.iconst 1, 1) := by decide +kernel
theorem dX6_mark_12 : decode cX6_mark 12 = .ok (.goto 4, 3) := by decide +kernel
theorem dX6_mark_15 : decode cX6_mark 15 = .ok (.iconst 0, 1) := by decide +kernel
theorem dX6_mark_16 : decode cX6_mark 16 = .ok (.iload_n 2, 1) := by decide +kernel
theorem dX6_mark_17 : decode cX6_mark 17 = .ok (.iconst 0, 1) := by decide +kernel
theorem dX6_mark_18 : decode cX6_mark 18 = .ok (.ldc 72, 2) := by decide +kernel
theorem dX6_mark_20 : decode cX6_mark 20 = .ok (.invokestatic 63, 3) := by decide +kernel
theorem dX6_mark_23 : decode cX6_mark 23 = .ok (.ifCond .eq 13, 3) := by decide +kernel
theorem dX6_mark_26 : decode cX6_mark 26 = .ok (.iload_n 3, 1) := by decide +kernel
theorem dX6_mark_27 : decode cX6_mark 27 = .ok (.iconst 0, 1) := by decide +kernel
theorem dX6_mark_28 : decode cX6_mark 28 = .ok (.ldc 72, 2) := by decide +kernel
theorem dX6_mark_30 : decode cX6_mark 30 = .ok (.invokestatic 63, 3) := by decide +kernel
theorem dX6_mark_33 : decode cX6_mark 33 = .ok (.ifCond .ne 7, 3) := by decide +kernel
theorem dX6_mark_36 : decode cX6_mark 36 = .ok (.iconst 1, 1) := by decide +kernel
theorem dX6_mark_37 : decode cX6_mark 37 = .ok (.goto 4, 3) := by decide +kernel
theorem dX6_mark_40 : decode cX6_mark 40 = .ok (.iconst 0, 1) := by decide +kernel
theorem dX6_mark_41 : decode cX6_mark 41 = .ok (.aload_n 0, 1) := by decide +kernel
theorem dX6_mark_42 : decode cX6_mark 42 = .ok (.getfield 81, 3) := by decide +kernel
theorem dX6_mark_45 : decode cX6_mark 45 = .ok (.bipush 60, 2) := by decide +kernel
theorem dX6_mark_47 : decode cX6_mark 47 = .ok (.if_icmp .ne 7, 3) := by decide +kernel
theorem dX6_mark_50 : decode cX6_mark 50 = .ok (.iconst 1, 1) := by decide +kernel
theorem dX6_mark_51 : decode cX6_mark 51 = .ok (.goto 4, 3) := by decide +kernel
theorem dX6_mark_54 : decode cX6_mark 54 = .ok (.iconst 0, 1) := by decide +kernel
theorem dX6_mark_55 : decode cX6_mark 55 = .ok (.invokevirtual 73, 3) := by decide +kernel
theorem dX6_mark_58 : decode cX6_mark 58 = .ok (.ifCond .eq 5, 3) := by decide +kernel
theorem dX6_mark_61 : decode cX6_mark 61 = .ok (.iconst 0, 1) := by decide +kernel
theorem dX6_mark_62 : decode cX6_mark 62 = .ok (.ireturn, 1) := by decide +kernel
theorem dX6_mark_63 : decode cX6_mark 63 = .ok (.aload_n 0, 1) := by decide +kernel
theorem dX6_mark_64 : decode cX6_mark 64 = .ok (.getfield 35, 3) := by decide +kernel
theorem dX6_mark_67 : decode cX6_mark 67 = .ok (.aload_n 0, 1) := by decide +kernel
theorem dX6_mark_68 : decode cX6_mark 68 = .ok (.getfield 81, 3) := by decide +kernel
theorem dX6_mark_71 : decode cX6_mark 71 = .ok (.iload_n 1, 1) := by decide +kernel
theorem dX6_mark_72 : decode cX6_mark 72 = .ok (.iastore, 1) := by decide +kernel
theorem dX6_mark_73 : decode cX6_mark 73 = .ok (.aload_n 0, 1) := by decide +kernel
theorem dX6_mark_74 : decode cX6_mark 74 = .ok (.getfield 38, 3) := by decide +kernel
theorem dX6_mark_77 : decode cX6_mark 77 = .ok (.aload_n 0, 1) := by decide +kernel
theorem dX6_mark_78 : decode cX6_mark 78 = .ok (.getfield 81, 3) := by decide +kernel
theorem dX6_mark_81 : decode cX6_mark 81 = .ok (.iload_n 3, 1) := by decide +kernel
theorem dX6_mark_82 : decode cX6_mark 82 = .ok (.iload_n 2, 1) := by decide +kernel
theorem dX6_mark_83 : decode cX6_mark 83 = .ok (.isub, 1) := by decide +kernel
theorem dX6_mark_84 : decode cX6_mark 84 = .ok (.iastore, 1) := by decide +kernel
theorem dX6_mark_85 : decode cX6_mark 85 = .ok (.aload_n 0, 1) := by decide +kernel
theorem dX6_mark_86 : decode cX6_mark 86 = .ok (.dup, 1) := by decide +kernel
theorem dX6_mark_87 : decode cX6_mark 87 = .ok (.getfield 81, 3) := by decide +kernel
theorem dX6_mark_90 : decode cX6_mark 90 = .ok (.iconst 1, 1) := by decide +kernel
theorem dX6_mark_91 : decode cX6_mark 91 = .ok (.iadd, 1) := by decide +kernel
theorem dX6_mark_92 : decode cX6_mark 92 = .ok (.putfield 81, 3) := by decide +kernel
theorem dX6_mark_95 : decode cX6_mark 95 = .ok (.aload_n 0, 1) := by decide +kernel
theorem dX6_mark_96 : decode cX6_mark 96 = .ok (.getfield 81, 3) := by decide +kernel
theorem dX6_mark_99 : decode cX6_mark 99 = .ok (.iconst 1, 1) := by decide +kernel
theorem dX6_mark_100 : decode cX6_mark 100 = .ok (.isub, 1) := by decide +kernel
theorem dX6_mark_101 : decode cX6_mark 101 = .ok (.ireturn, 1) := by decide +kernel
theorem dX6_offset_0 : decode cX6_offset 0 = .ok (.aload_n 0, 1) := by decide +kernel
theorem dX6_offset_1 : decode cX6_offset 1 = .ok (.iload_n 1, 1) := by decide +kernel
theorem dX6_offset_2 : decode cX6_offset 2 = .ok (.iconst 0, 1) := by decide +kernel
theorem dX6_offset_3 : decode cX6_offset 3 = .ok (.bipush 9, 2) := by decide +kernel
theorem dX6_offset_5 : decode cX6_offset 5 = .ok (.invokestatic 63, 3) := by decide +kernel
theorem dX6_offset_8 : decode cX6_offset 8 = .ok (.ifCond .ne 7, 3) := by decide +kernel
theorem dX6_offset_11 : decode cX6_offset 11 = .ok (.iconst 1, 1) := by decide +kernel
theorem dX6_offset_12 : decode cX6_offset 12 = .ok (.goto 4, 3) := by decide +kernel
theorem dX6_offset_15 : decode cX6_offset 15 = .ok (.iconst 0, 1) := by decide +kernel
theorem dX6_offset_16 : decode cX6_offset 16 = .ok (.iconst 0, 1) := by decide +kernel
theorem dX6_offset_17 : decode cX6_offset 17 = .ok (.iconst 0, 1) := by decide +kernel
theorem dX6_offset_18 : decode cX6_offset 18 = .ok (.invokevirtual 73, 3) := by decide +kernel
theorem dX6_offset_21 : decode cX6_offset 21 = .ok (.ifCond .eq 5, 3) := by decide +kernel
theorem dX6_offset_24 : decode cX6_offset 24 = .ok (.iconst 0, 1) := by decide +kernel
theorem dX6_offset_25 : decode cX6_offset 25 = .ok (.ireturn, 1) := by decide +kernel
theorem dX6_offset_26 : decode cX6_offset 26 = .ok (.aload_n 0, 1) := by decide +kernel
theorem dX6_offset_27 : decode cX6_offset 27 = .ok (.iload_n 1, 1) := by decide +kernel
theorem dX6_offset_28 : decode cX6_offset 28 = .ok (.invokevirtual 87, 3) := by decide +kernel
theorem dX6_offset_31 : decode cX6_offset 31 = .ok (.ireturn, 1) := by decide +kernel
theorem dX6_contradiction_0 : decode cX6_contradiction 0 = .ok (.aload_n 0, 1) := by decide +kernel
theorem dX6_contradiction_1 : decode cX6_contradiction 1 = .ok (.iload_n 1, 1) := by decide +kernel
theorem dX6_contradiction_2 : decode cX6_contradiction 2 = .ok (.ifCond .ge 7, 3) := by decide +kernel
theorem dX6_contradiction_5 : decode cX6_contradiction 5 = .ok (.iconst 1, 1) := by decide +kernel
theorem dX6_contradiction_6 : decode cX6_contradiction 6 = .ok (.goto 4, 3) := by decide +kernel
theorem dX6_contradiction_9 : decode cX6_contradiction 9 = .ok (.iconst 0, 1) := by decide +kernel
theorem dX6_contradiction_10 : decode cX6_contradiction 10 = .ok (.iconst 0, 1) := by decide +kernel
theorem dX6_contradiction_11 : decode cX6_contradiction 11 = .ok (.iconst 0, 1) := by decide +kernel
theorem dX6_contradiction_12 : decode cX6_contradiction 12 = .ok (.invokevirtual 73, 3) := by decide +kernel
theorem dX6_contradiction_15 : decode cX6_contradiction 15 = .ok (.ifCond .eq 5, 3) := by decide +kernel
theorem dX6_contradiction_18 : decode cX6_contradiction 18 = .ok (.iconst 0, 1) := by decide +kernel
theorem dX6_contradiction_19 : decode cX6_contradiction 19 = .ok (.ireturn, 1) := by decide +kernel
theorem dX6_contradiction_20 : decode cX6_contradiction 20 = .ok (.iload_n 1, 1) := by decide +kernel
theorem dX6_contradiction_21 : decode cX6_contradiction 21 = .ok (.istore_n 2, 1) := by decide +kernel
theorem dX6_contradiction_22 : decode cX6_contradiction 22 = .ok (.iconst 0, 1) := by decide +kernel
theorem dX6_contradiction_23 : decode cX6_contradiction 23 = .ok (.istore_n 3, 1) := by decide +kernel
theorem dX6_contradiction_24 : decode cX6_contradiction 24 = .ok (.iload_n 3, 1) := by decide +kernel
theorem dX6_contradiction_25 : decode cX6_contradiction 25 = .ok (.aload_n 0, 1) := by decide +kernel
theorem dX6_contradiction_26 : decode cX6_contradiction 26 = .ok (.getfield 81, 3) := by decide +kernel
theorem dX6_contradiction_29 : decode cX6_contradiction 29 = .ok (.if_icmp .ge 52, 3) := by decide +kernel
theorem dX6_contradiction_32 : decode cX6_contradiction 32 = .ok (.aload_n 0, 1) := by decide +kernel
theorem dX6_contradiction_33 : decode cX6_contradiction 33 = .ok (.aload_n 0, 1) := by decide +kernel
theorem dX6_contradiction_34 : decode cX6_contradiction 34 = .ok (.getfield 35, 3) := by decide +kernel
theorem dX6_contradiction_37 : decode cX6_contradiction 37 = .ok (.iload_n 3, 1) := by decide +kernel
theorem dX6_contradiction_38 : decode cX6_contradiction 38 = .ok (.iaload, 1) := by decide +kernel
theorem dX6_contradiction_39 : decode cX6_contradiction 39 = .ok (.invokevirtual 84, 3) := by decide +kernel
theorem dX6_contradiction_42 : decode cX6_contradiction 42 = .ok (.istore 4, 2) := by decide +kernel
theorem dX6_contradiction_44 : decode cX6_contradiction 44 = .ok (.aload_n 0, 1) := by decide +kernel
theorem dX6_contradiction_45 : decode cX6_contradiction 45 = .ok (.getfield 38, 3) := by decide +kernel
theorem dX6_contradiction_48 : decode cX6_contradiction 48 = .ok (.iload_n 3, 1) := by decide +kernel
theorem dX6_contradiction_49 : decode cX6_contradiction 49 = .ok (.iaload, 1) := by decide +kernel
theorem dX6_contradiction_50 : decode cX6_contradiction 50 = .ok (.aload_n 0, 1) := by decide +kernel
theorem dX6_contradiction_51 : decode cX6_contradiction 51 = .ok (.getfield 38, 3) := by decide +kernel
theorem dX6_contradiction_54 : decode cX6_contradiction 54 = .ok (.iload 4, 2) := by decide +kernel
theorem dX6_contradiction_56 : decode cX6_contradiction 56 = .ok (.iaload, 1) := by decide +kernel
theorem dX6_contradiction_57 : decode cX6_contradiction 57 = .ok (.if_icmp .eq 18, 3) := by decide +kernel
theorem dX6_contradiction_60 : decode cX6_contradiction 60 = .ok (.iload_n 2, 1) := by decide +kernel
theorem dX6_contradiction_61 : decode cX6_contradiction 61 = .ok (.ifCond .ne 11, 3) := by decide +kernel
theorem dX6_contradiction_64 : decode cX6_contradiction 64 = .ok (.bipush 100, 2) := by decide +kernel
theorem dX6_contradiction_66 : decode cX6_contradiction 66 = .ok (.iload 4, 2) := by decide +kernel
theorem dX6_contradiction_68 : decode cX6_contradiction 68 = .ok (.imul, 1) := by decide +kernel
theorem dX6_contradiction_69 : decode cX6_contradiction 69 = .ok (.iload_n 3, 1) := by decide +kernel
theorem dX6_contradiction_70 : decode cX6_contradiction 70 = .ok (.iadd, 1) := by decide +kernel
theorem dX6_contradiction_71 : decode cX6_contradiction 71 = .ok (.ireturn, 1) := by decide +kernel
theorem dX6_contradiction_72 : decode cX6_contradiction 72 = .ok (.iinc 2 (-1), 3) := by decide +kernel
theorem dX6_contradiction_75 : decode cX6_contradiction 75 = .ok (.iinc 3 1, 3) := by decide +kernel
theorem dX6_contradiction_78 : decode cX6_contradiction 78 = .ok (.goto (-54), 3) := by decide +kernel
theorem dX6_contradiction_81 : decode cX6_contradiction 81 = .ok (.iconst (-1), 1) := by decide +kernel
theorem dX6_contradiction_82 : decode cX6_contradiction 82 = .ok (.ireturn, 1) := by decide +kernel
theorem dX6_begin_0 : decode cX6_begin 0 = .ok (.aload_n 0, 1) := by decide +kernel
theorem dX6_begin_1 : decode cX6_begin 1 = .ok (.getfield 13, 3) := by decide +kernel
theorem dX6_begin_4 : decode cX6_begin 4 = .ok (.iload_n 1, 1) := by decide +kernel
theorem dX6_begin_5 : decode cX6_begin 5 = .ok (.iaload, 1) := by decide +kernel
theorem dX6_begin_6 : decode cX6_begin 6 = .ok (.aload_n 0, 1) := by decide +kernel
theorem dX6_begin_7 : decode cX6_begin 7 = .ok (.aload_n 0, 1) := by decide +kernel
theorem dX6_begin_8 : decode cX6_begin 8 = .ok (.getfield 7, 3) := by decide +kernel
theorem dX6_begin_11 : decode cX6_begin 11 = .ok (.iload_n 1, 1) := by decide +kernel
theorem dX6_begin_12 : decode cX6_begin 12 = .ok (.iaload, 1) := by decide +kernel
theorem dX6_begin_13 : decode cX6_begin 13 = .ok (.invokevirtual 87, 3) := by decide +kernel
theorem dX6_begin_16 : decode cX6_begin 16 = .ok (.iadd, 1) := by decide +kernel
theorem dX6_begin_17 : decode cX6_begin 17 = .ok (.ireturn, 1) := by decide +kernel
theorem dX6_goesAhead_0 : decode cX6_goesAhead 0 = .ok (.aload_n 0, 1) := by decide +kernel
theorem dX6_goesAhead_1 : decode cX6_goesAhead 1 = .ok (.iload_n 1, 1) := by decide +kernel
theorem dX6_goesAhead_2 : decode cX6_goesAhead 2 = .ok (.invokevirtual 90, 3) := by decide +kernel
theorem dX6_goesAhead_5 : decode cX6_goesAhead 5 = .ok (.istore_n 3, 1) := by decide +kernel
theorem dX6_goesAhead_6 : decode cX6_goesAhead 6 = .ok (.aload_n 0, 1) := by decide +kernel
theorem dX6_goesAhead_7 : decode cX6_goesAhead 7 = .ok (.iload_n 2, 1) := by decide +kernel
theorem dX6_goesAhead_8 : decode cX6_goesAhead 8 = .ok (.invokevirtual 90, 3) := by decide +kernel
theorem dX6_goesAhead_11 : decode cX6_goesAhead 11 = .ok (.istore 4, 2) := by decide +kernel
theorem dX6_goesAhead_13 : decode cX6_goesAhead 13 = .ok (.iload_n 3, 1) := by decide +kernel
theorem dX6_goesAhead_14 : decode cX6_goesAhead 14 = .ok (.iload 4, 2) := by decide +kernel
theorem dX6_goesAhead_16 : decode cX6_goesAhead 16 = .ok (.if_icmp .eq 15, 3) := by decide +kernel
theorem dX6_goesAhead_19 : decode cX6_goesAhead 19 = .ok (.iload_n 3, 1) := by decide +kernel
theorem dX6_goesAhead_20 : decode cX6_goesAhead 20 = .ok (.iload 4, 2) := by decide +kernel
theorem dX6_goesAhead_22 : decode cX6_goesAhead 22 = .ok (.if_icmp .ge 7, 3) := by decide +kernel
theorem dX6_goesAhead_25 : decode cX6_goesAhead 25 = .ok (.iconst 1, 1) := by decide +kernel
theorem dX6_goesAhead_26 : decode cX6_goesAhead 26 = .ok (.goto 4, 3) := by decide +kernel
theorem dX6_goesAhead_29 : decode cX6_goesAhead 29 = .ok (.iconst 0, 1) := by decide +kernel
theorem dX6_goesAhead_30 : decode cX6_goesAhead 30 = .ok (.ireturn, 1) := by decide +kernel
theorem dX6_goesAhead_31 : decode cX6_goesAhead 31 = .ok (.aload_n 0, 1) := by decide +kernel
theorem dX6_goesAhead_32 : decode cX6_goesAhead 32 = .ok (.getfield 7, 3) := by decide +kernel
theorem dX6_goesAhead_35 : decode cX6_goesAhead 35 = .ok (.iload_n 1, 1) := by decide +kernel
theorem dX6_goesAhead_36 : decode cX6_goesAhead 36 = .ok (.iaload, 1) := by decide +kernel
theorem dX6_goesAhead_37 : decode cX6_goesAhead 37 = .ok (.aload_n 0, 1) := by decide +kernel
theorem dX6_goesAhead_38 : decode cX6_goesAhead 38 = .ok (.getfield 7, 3) := by decide +kernel
theorem dX6_goesAhead_41 : decode cX6_goesAhead 41 = .ok (.iload_n 2, 1) := by decide +kernel
theorem dX6_goesAhead_42 : decode cX6_goesAhead 42 = .ok (.iaload, 1) := by decide +kernel
theorem dX6_goesAhead_43 : decode cX6_goesAhead 43 = .ok (.if_icmp .lt 23, 3) := by decide +kernel
theorem dX6_goesAhead_46 : decode cX6_goesAhead 46 = .ok (.aload_n 0, 1) := by decide +kernel
theorem dX6_goesAhead_47 : decode cX6_goesAhead 47 = .ok (.getfield 7, 3) := by decide +kernel
theorem dX6_goesAhead_50 : decode cX6_goesAhead 50 = .ok (.iload_n 1, 1) := by decide +kernel
theorem dX6_goesAhead_51 : decode cX6_goesAhead 51 = .ok (.iaload, 1) := by decide +kernel
theorem dX6_goesAhead_52 : decode cX6_goesAhead 52 = .ok (.aload_n 0, 1) := by decide +kernel
theorem dX6_goesAhead_53 : decode cX6_goesAhead 53 = .ok (.getfield 7, 3) := by decide +kernel
theorem dX6_goesAhead_56 : decode cX6_goesAhead 56 = .ok (.iload_n 2, 1) := by decide +kernel
theorem dX6_goesAhead_57 : decode cX6_goesAhead 57 = .ok (.iaload, 1) := by decide +kernel
theorem dX6_goesAhead_58 : decode cX6_goesAhead 58 = .ok (.if_icmp .ne 12, 3) := by decide +kernel
theorem dX6_goesAhead_61 : decode cX6_goesAhead 61 = .ok (.iload_n 1, 1) := by decide +kernel
theorem dX6_goesAhead_62 : decode cX6_goesAhead 62 = .ok (.iload_n 2, 1) := by decide +kernel
theorem dX6_goesAhead_63 : decode cX6_goesAhead 63 = .ok (.if_icmp .ge 7, 3) := by decide +kernel
theorem dX6_goesAhead_66 : decode cX6_goesAhead 66 = .ok (.iconst 1, 1) := by decide +kernel
theorem dX6_goesAhead_67 : decode cX6_goesAhead 67 = .ok (.goto 4, 3) := by decide +kernel
theorem dX6_goesAhead_70 : decode cX6_goesAhead 70 = .ok (.iconst 0, 1) := by decide +kernel
theorem dX6_goesAhead_71 : decode cX6_goesAhead 71 = .ok (.ireturn, 1) := by decide +kernel
theorem dX6_within_0 : decode cX6_within 0 = .ok (.iconst 0, 1) := by decide +kernel
theorem dX6_within_1 : decode cX6_within 1 = .ok (.istore 4, 2) := by decide +kernel
theorem dX6_within_3 : decode cX6_within 3 = .ok (.iconst 0, 1) := by decide +kernel
theorem dX6_within_4 : decode cX6_within 4 = .ok (.istore 5, 2) := by decide +kernel
theorem dX6_within_6 : decode cX6_within 6 = .ok (.iload 5, 2) := by decide +kernel
theorem dX6_within_8 : decode cX6_within 8 = .ok (.aload_n 0, 1) := by decide +kernel
theorem dX6_within_9 : decode cX6_within 9 = .ok (.getfield 16, 3) := by decide +kernel
theorem dX6_within_12 : decode cX6_within 12 = .ok (.iload_n 1, 1) := by decide +kernel
theorem dX6_within_13 : decode cX6_within 13 = .ok (.iaload, 1) := by decide +kernel
theorem dX6_within_14 : decode cX6_within 14 = .ok (.if_icmp .ge 43, 3) := by decide +kernel
theorem dX6_within_17 : decode cX6_within 17 = .ok (.iload 4, 2) := by decide +kernel
theorem dX6_within_19 : decode cX6_within 19 = .ok (.aload_n 0, 1) := by decide +kernel
theorem dX6_within_20 : decode cX6_within 20 = .ok (.iload_n 1, 1) := by decide +kernel
theorem dX6_within_21 : decode cX6_within 21 = .ok (.invokevirtual 90, 3) := by decide +kernel
theorem dX6_within_24 : decode cX6_within 24 = .ok (.iload 5, 2) := by decide +kernel
theorem dX6_within_26 : decode cX6_within 26 = .ok (.iadd, 1) := by decide +kernel
theorem dX6_within_27 : decode cX6_within 27 = .ok (.iload_n 2, 1) := by decide +kernel
theorem dX6_within_28 : decode cX6_within 28 = .ok (.if_icmp .lt 19, 3) := by decide +kernel
theorem dX6_within_31 : decode cX6_within 31 = .ok (.aload_n 0, 1) := by decide +kernel
theorem dX6_within_32 : decode cX6_within 32 = .ok (.iload_n 1, 1) := by decide +kernel
theorem dX6_within_33 : decode cX6_within 33 = .ok (.invokevirtual 90, 3) := by decide +kernel
theorem dX6_within_36 : decode cX6_within 36 = .ok (.iload 5, 2) := by decide +kernel
theorem dX6_within_38 : decode cX6_within 38 = .ok (.iadd, 1) := by decide +kernel
theorem dX6_within_39 : decode cX6_within 39 = .ok (.iload_n 3, 1) := by decide +kernel
theorem dX6_within_40 : decode cX6_within 40 = .ok (.if_icmp .ge 7, 3) := by decide +kernel
theorem dX6_within_43 : decode cX6_within 43 = .ok (.iconst 1, 1) := by decide +kernel
theorem dX6_within_44 : decode cX6_within 44 = .ok (.goto 4, 3) := by decide +kernel
theorem dX6_within_47 : decode cX6_within 47 = .ok (.iconst 0, 1) := by decide +kernel
theorem dX6_within_48 : decode cX6_within 48 = .ok (.iadd, 1) := by decide +kernel
theorem dX6_within_49 : decode cX6_within 49 = .ok (.istore 4, 2) := by decide +kernel
theorem dX6_within_51 : decode cX6_within 51 = .ok (.iinc 5 1, 3) := by decide +kernel
theorem dX6_within_54 : decode cX6_within 54 = .ok (.goto (-48), 3) := by decide +kernel
theorem dX6_within_57 : decode cX6_within 57 = .ok (.iload 4, 2) := by decide +kernel
theorem dX6_within_59 : decode cX6_within 59 = .ok (.ireturn, 1) := by decide +kernel
theorem dX6_fits_0 : decode cX6_fits 0 = .ok (.aload_n 0, 1) := by decide +kernel
theorem dX6_fits_1 : decode cX6_fits 1 = .ok (.getfield 31, 3) := by decide +kernel
theorem dX6_fits_4 : decode cX6_fits 4 = .ok (.iload_n 1, 1) := by decide +kernel
theorem dX6_fits_5 : decode cX6_fits 5 = .ok (.baload, 1) := by decide +kernel
theorem dX6_fits_6 : decode cX6_fits 6 = .ok (.ifCond .ne 49, 3) := by decide +kernel
theorem dX6_fits_9 : decode cX6_fits 9 = .ok (.iload 4, 2) := by decide +kernel
theorem dX6_fits_11 : decode cX6_fits 11 = .ok (.ifCond .lt 14, 3) := by decide +kernel
theorem dX6_fits_14 : decode cX6_fits 14 = .ok (.aload_n 0, 1) := by decide +kernel
theorem dX6_fits_15 : decode cX6_fits 15 = .ok (.getfield 22, 3) := by decide +kernel
theorem dX6_fits_18 : decode cX6_fits 18 = .ok (.iload_n 1, 1) := by decide +kernel
theorem dX6_fits_19 : decode cX6_fits 19 = .ok (.iaload, 1) := by decide +kernel
theorem dX6_fits_20 : decode cX6_fits 20 = .ok (.iload 4, 2) := by decide +kernel
theorem dX6_fits_22 : decode cX6_fits 22 = .ok (.if_icmp .ne 33, 3) := by decide +kernel
theorem dX6_fits_25 : decode cX6_fits 25 = .ok (.iload 5, 2) := by decide +kernel
theorem dX6_fits_27 : decode cX6_fits 27 = .ok (.ifCond .lt 14, 3) := by decide +kernel
theorem dX6_fits_30 : decode cX6_fits 30 = .ok (.aload_n 0, 1) := by decide +kernel
theorem dX6_fits_31 : decode cX6_fits 31 = .ok (.getfield 25, 3) := by decide +kernel
theorem dX6_fits_34 : decode cX6_fits 34 = .ok (.iload_n 1, 1) := by decide +kernel
theorem dX6_fits_35 : decode cX6_fits 35 = .ok (.iaload, 1) := by decide +kernel
theorem dX6_fits_36 : decode cX6_fits 36 = .ok (.iload 5, 2) := by decide +kernel
theorem dX6_fits_38 : decode cX6_fits 38 = .ok (.if_icmp .ne 17, 3) := by decide +kernel
theorem dX6_fits_41 : decode cX6_fits 41 = .ok (.aload_n 0, 1) := by decide +kernel
theorem dX6_fits_42 : decode cX6_fits 42 = .ok (.iload_n 1, 1) := by decide +kernel
theorem dX6_fits_43 : decode cX6_fits 43 = .ok (.iload_n 2, 1) := by decide +kernel
theorem dX6_fits_44 : decode cX6_fits 44 = .ok (.iload_n 3, 1) := by decide +kernel
theorem dX6_fits_45 : decode cX6_fits 45 = .ok (.invokevirtual 93, 3) := by decide +kernel
theorem dX6_fits_48 : decode cX6_fits 48 = .ok (.ifCond .le 7, 3) := by decide +kernel
theorem dX6_fits_51 : decode cX6_fits 51 = .ok (.iconst 1, 1) := by decide +kernel
theorem dX6_fits_52 : decode cX6_fits 52 = .ok (.goto 4, 3) := by decide +kernel
theorem dX6_fits_55 : decode cX6_fits 55 = .ok (.iconst 0, 1) := by decide +kernel
theorem dX6_fits_56 : decode cX6_fits 56 = .ok (.ireturn, 1) := by decide +kernel
theorem dX6_found_0 : decode cX6_found 0 = .ok (.iconst 0, 1) := by decide +kernel
theorem dX6_found_1 : decode cX6_found 1 = .ok (.istore 6, 2) := by decide +kernel
theorem dX6_found_3 : decode cX6_found 3 = .ok (.iload 6, 2) := by decide +kernel
theorem dX6_found_5 : decode cX6_found 5 = .ok (.aload_n 0, 1) := by decide +kernel
theorem dX6_found_6 : decode cX6_found 6 = .ok (.getfield 60, 3) := by decide +kernel
theorem dX6_found_9 : decode cX6_found 9 = .ok (.if_icmp .ge 96, 3) := by decide +kernel
theorem dX6_found_12 : decode cX6_found 12 = .ok (.aload_n 0, 1) := by decide +kernel
theorem dX6_found_13 : decode cX6_found 13 = .ok (.iload 6, 2) := by decide +kernel
theorem dX6_found_15 : decode cX6_found 15 = .ok (.iload_n 1, 1) := by decide +kernel
theorem dX6_found_16 : decode cX6_found 16 = .ok (.iload_n 2, 1) := by decide +kernel
theorem dX6_found_17 : decode cX6_found 17 = .ok (.iload_n 3, 1) := by decide +kernel
theorem dX6_found_18 : decode cX6_found 18 = .ok (.iload 4, 2) := by decide +kernel
theorem dX6_found_20 : decode cX6_found 20 = .ok (.invokevirtual 97, 3) := by decide +kernel
theorem dX6_found_23 : decode cX6_found 23 = .ok (.ifCond .eq 76, 3) := by decide +kernel
theorem dX6_found_26 : decode cX6_found 26 = .ok (.iconst 0, 1) := by decide +kernel
theorem dX6_found_27 : decode cX6_found 27 = .ok (.istore 7, 2) := by decide +kernel
theorem dX6_found_29 : decode cX6_found 29 = .ok (.iconst 0, 1) := by decide +kernel
theorem dX6_found_30 : decode cX6_found 30 = .ok (.istore 8, 2) := by decide +kernel
theorem dX6_found_32 : decode cX6_found 32 = .ok (.iload 8, 2) := by decide +kernel
theorem dX6_found_34 : decode cX6_found 34 = .ok (.aload_n 0, 1) := by decide +kernel
theorem dX6_found_35 : decode cX6_found 35 = .ok (.getfield 60, 3) := by decide +kernel
theorem dX6_found_38 : decode cX6_found 38 = .ok (.if_icmp .ge 51, 3) := by decide +kernel
theorem dX6_found_41 : decode cX6_found 41 = .ok (.iload 7, 2) := by decide +kernel
theorem dX6_found_43 : decode cX6_found 43 = .ok (.iload 8, 2) := by decide +kernel
theorem dX6_found_45 : decode cX6_found 45 = .ok (.iload 6, 2) := by decide +kernel
theorem dX6_found_47 : decode cX6_found 47 = .ok (.if_icmp .eq 32, 3) := by decide +kernel
theorem dX6_found_50 : decode cX6_found 50 = .ok (.aload_n 0, 1) := by decide +kernel
theorem dX6_found_51 : decode cX6_found 51 = .ok (.iload 8, 2) := by decide +kernel
theorem dX6_found_53 : decode cX6_found 53 = .ok (.iload 6, 2) := by decide +kernel
theorem dX6_found_55 : decode cX6_found 55 = .ok (.invokevirtual 101, 3) := by decide +kernel
theorem dX6_found_58 : decode cX6_found 58 = .ok (.ifCond .eq 21, 3) := by decide +kernel
theorem dX6_found_61 : decode cX6_found 61 = .ok (.aload_n 0, 1) := by decide +kernel
theorem dX6_found_62 : decode cX6_found 62 = .ok (.iload 8, 2) := by decide +kernel
theorem dX6_found_64 : decode cX6_found 64 = .ok (.iload_n 1, 1) := by decide +kernel
theorem dX6_found_65 : decode cX6_found 65 = .ok (.iload_n 2, 1) := by decide +kernel
theorem dX6_found_66 : decode cX6_found 66 = .ok (.iload_n 3, 1) := by decide +kernel
theorem dX6_found_67 : decode cX6_found 67 = .ok (.iload 4, 2) := by decide +kernel
theorem dX6_found_69 : decode cX6_found 69 = .ok (.invokevirtual 97, 3) := by decide +kernel
theorem dX6_found_72 : decode cX6_found 72 = .ok (.ifCond .eq 7, 3) := by decide +kernel
theorem dX6_found_75 : decode cX6_found 75 = .ok (.iconst 1, 1) := by decide +kernel
theorem dX6_found_76 : decode cX6_found 76 = .ok (.goto 4, 3) := by decide +kernel
theorem dX6_found_79 : decode cX6_found 79 = .ok (.iconst 0, 1) := by decide +kernel
theorem dX6_found_80 : decode cX6_found 80 = .ok (.iadd, 1) := by decide +kernel
theorem dX6_found_81 : decode cX6_found 81 = .ok (.istore 7, 2) := by decide +kernel
theorem dX6_found_83 : decode cX6_found 83 = .ok (.iinc 8 1, 3) := by decide +kernel
theorem dX6_found_86 : decode cX6_found 86 = .ok (.goto (-54), 3) := by decide +kernel
theorem dX6_found_89 : decode cX6_found 89 = .ok (.iload 7, 2) := by decide +kernel
theorem dX6_found_91 : decode cX6_found 91 = .ok (.iload 5, 2) := by decide +kernel
theorem dX6_found_93 : decode cX6_found 93 = .ok (.if_icmp .ne 6, 3) := by decide +kernel
theorem dX6_found_96 : decode cX6_found 96 = .ok (.iload 6, 2) := by decide +kernel
theorem dX6_found_98 : decode cX6_found 98 = .ok (.ireturn, 1) := by decide +kernel
theorem dX6_found_99 : decode cX6_found 99 = .ok (.iinc 6 1, 3) := by decide +kernel
theorem dX6_found_102 : decode cX6_found 102 = .ok (.goto (-99), 3) := by decide +kernel
theorem dX6_found_105 : decode cX6_found 105 = .ok (.iconst (-1), 1) := by decide +kernel
theorem dX6_found_106 : decode cX6_found 106 = .ok (.ireturn, 1) := by decide +kernel
theorem dX6_find_0 : decode cX6_find 0 = .ok (.aload_n 0, 1) := by decide +kernel
theorem dX6_find_1 : decode cX6_find 1 = .ok (.iload_n 3, 1) := by decide +kernel
theorem dX6_find_2 : decode cX6_find 2 = .ok (.iconst (-1), 1) := by decide +kernel
theorem dX6_find_3 : decode cX6_find 3 = .ok (.bipush 99, 2) := by decide +kernel
theorem dX6_find_5 : decode cX6_find 5 = .ok (.invokestatic 63, 3) := by decide +kernel
theorem dX6_find_8 : decode cX6_find 8 = .ok (.ifCond .eq 14, 3) := by decide +kernel
theorem dX6_find_11 : decode cX6_find 11 = .ok (.iload 4, 2) := by decide +kernel
theorem dX6_find_13 : decode cX6_find 13 = .ok (.iconst (-1), 1) := by decide +kernel
theorem dX6_find_14 : decode cX6_find 14 = .ok (.bipush 49, 2) := by decide +kernel
theorem dX6_find_16 : decode cX6_find 16 = .ok (.invokestatic 63, 3) := by decide +kernel
theorem dX6_find_19 : decode cX6_find 19 = .ok (.ifCond .ne 7, 3) := by decide +kernel
theorem dX6_find_22 : decode cX6_find 22 = .ok (.iconst 1, 1) := by decide +kernel
theorem dX6_find_23 : decode cX6_find 23 = .ok (.goto 4, 3) := by decide +kernel
theorem dX6_find_26 : decode cX6_find 26 = .ok (.iconst 0, 1) := by decide +kernel
theorem dX6_find_27 : decode cX6_find 27 = .ok (.iload 5, 2) := by decide +kernel
theorem dX6_find_29 : decode cX6_find 29 = .ok (.ifCond .ge 7, 3) := by decide +kernel
theorem dX6_find_32 : decode cX6_find 32 = .ok (.iconst 1, 1) := by decide +kernel
theorem dX6_find_33 : decode cX6_find 33 = .ok (.goto 4, 3) := by decide +kernel
theorem dX6_find_36 : decode cX6_find 36 = .ok (.iconst 0, 1) := by decide +kernel
theorem dX6_find_37 : decode cX6_find 37 = .ok (.iconst 0, 1) := by decide +kernel
theorem dX6_find_38 : decode cX6_find 38 = .ok (.invokevirtual 73, 3) := by decide +kernel
theorem dX6_find_41 : decode cX6_find 41 = .ok (.ifCond .eq 5, 3) := by decide +kernel
theorem dX6_find_44 : decode cX6_find 44 = .ok (.iconst 0, 1) := by decide +kernel
theorem dX6_find_45 : decode cX6_find 45 = .ok (.ireturn, 1) := by decide +kernel
theorem dX6_find_46 : decode cX6_find 46 = .ok (.aload_n 0, 1) := by decide +kernel
theorem dX6_find_47 : decode cX6_find 47 = .ok (.iload_n 1, 1) := by decide +kernel
theorem dX6_find_48 : decode cX6_find 48 = .ok (.iload_n 2, 1) := by decide +kernel
theorem dX6_find_49 : decode cX6_find 49 = .ok (.iload_n 3, 1) := by decide +kernel
theorem dX6_find_50 : decode cX6_find 50 = .ok (.iload 4, 2) := by decide +kernel
theorem dX6_find_52 : decode cX6_find 52 = .ok (.iload 5, 2) := by decide +kernel
theorem dX6_find_54 : decode cX6_find 54 = .ok (.invokevirtual 105, 3) := by decide +kernel
theorem dX6_find_57 : decode cX6_find 57 = .ok (.ireturn, 1) := by decide +kernel
theorem dX6_isGone_0 : decode cX6_isGone 0 = .ok (.aload_n 0, 1) := by decide +kernel
theorem dX6_isGone_1 : decode cX6_isGone 1 = .ok (.iload_n 1, 1) := by decide +kernel
theorem dX6_isGone_2 : decode cX6_isGone 2 = .ok (.invokevirtual 109, 3) := by decide +kernel
theorem dX6_isGone_5 : decode cX6_isGone 5 = .ok (.ifCond .eq 16, 3) := by decide +kernel
theorem dX6_isGone_8 : decode cX6_isGone 8 = .ok (.aload_n 0, 1) := by decide +kernel
theorem dX6_isGone_9 : decode cX6_isGone 9 = .ok (.getfield 31, 3) := by decide +kernel
theorem dX6_isGone_12 : decode cX6_isGone 12 = .ok (.iload_n 1, 1) := by decide +kernel
theorem dX6_isGone_13 : decode cX6_isGone 13 = .ok (.baload, 1) := by decide +kernel
theorem dX6_isGone_14 : decode cX6_isGone 14 = .ok (.ifCond .eq 7, 3) := by decide +kernel
theorem dX6_isGone_17 : decode cX6_isGone 17 = .ok (.iconst 1, 1) := by decide +kernel
theorem dX6_isGone_18 : decode cX6_isGone 18 = .ok (.goto 4, 3) := by decide +kernel
theorem dX6_isGone_21 : decode cX6_isGone 21 = .ok (.iconst 0, 1) := by decide +kernel
theorem dX6_isGone_22 : decode cX6_isGone 22 = .ok (.ireturn, 1) := by decide +kernel
theorem dX6_time_0 : decode cX6_time 0 = .ok (.aload_n 0, 1) := by decide +kernel
theorem dX6_time_1 : decode cX6_time 1 = .ok (.aload_n 0, 1) := by decide +kernel
theorem dX6_time_2 : decode cX6_time 2 = .ok (.iload_n 1, 1) := by decide +kernel
theorem dX6_time_3 : decode cX6_time 3 = .ok (.invokevirtual 109, 3) := by decide +kernel
theorem dX6_time_6 : decode cX6_time 6 = .ok (.ifCond .ne 7, 3) := by decide +kernel
theorem dX6_time_9 : decode cX6_time 9 = .ok (.iconst 1, 1) := by decide +kernel
theorem dX6_time_10 : decode cX6_time 10 = .ok (.goto 4, 3) := by decide +kernel
theorem dX6_time_13 : decode cX6_time 13 = .ok (.iconst 0, 1) := by decide +kernel
theorem dX6_time_14 : decode cX6_time 14 = .ok (.aload_n 0, 1) := by decide +kernel
theorem dX6_time_15 : decode cX6_time 15 = .ok (.iload_n 1, 1) := by decide +kernel
theorem dX6_time_16 : decode cX6_time 16 = .ok (.invokevirtual 113, 3) := by decide +kernel
theorem dX6_time_19 : decode cX6_time 19 = .ok (.iconst 0, 1) := by decide +kernel
theorem dX6_time_20 : decode cX6_time 20 = .ok (.invokevirtual 73, 3) := by decide +kernel
theorem dX6_time_23 : decode cX6_time 23 = .ok (.ifCond .eq 5, 3) := by decide +kernel
theorem dX6_time_26 : decode cX6_time 26 = .ok (.iconst 0, 1) := by decide +kernel
theorem dX6_time_27 : decode cX6_time 27 = .ok (.ireturn, 1) := by decide +kernel
theorem dX6_time_28 : decode cX6_time 28 = .ok (.aload_n 0, 1) := by decide +kernel
theorem dX6_time_29 : decode cX6_time 29 = .ok (.iload_n 1, 1) := by decide +kernel
theorem dX6_time_30 : decode cX6_time 30 = .ok (.invokevirtual 90, 3) := by decide +kernel
theorem dX6_time_33 : decode cX6_time 33 = .ok (.ireturn, 1) := by decide +kernel
theorem dX6_sum_0 : decode cX6_sum 0 = .ok (.aload_n 0, 1) := by decide +kernel
theorem dX6_sum_1 : decode cX6_sum 1 = .ok (.aload_n 0, 1) := by decide +kernel
theorem dX6_sum_2 : decode cX6_sum 2 = .ok (.iload_n 1, 1) := by decide +kernel
theorem dX6_sum_3 : decode cX6_sum 3 = .ok (.invokevirtual 109, 3) := by decide +kernel
theorem dX6_sum_6 : decode cX6_sum 6 = .ok (.ifCond .ne 7, 3) := by decide +kernel
theorem dX6_sum_9 : decode cX6_sum 9 = .ok (.iconst 1, 1) := by decide +kernel
theorem dX6_sum_10 : decode cX6_sum 10 = .ok (.goto 4, 3) := by decide +kernel
theorem dX6_sum_13 : decode cX6_sum 13 = .ok (.iconst 0, 1) := by decide +kernel
theorem dX6_sum_14 : decode cX6_sum 14 = .ok (.aload_n 0, 1) := by decide +kernel
theorem dX6_sum_15 : decode cX6_sum 15 = .ok (.iload_n 1, 1) := by decide +kernel
theorem dX6_sum_16 : decode cX6_sum 16 = .ok (.invokevirtual 113, 3) := by decide +kernel
theorem dX6_sum_19 : decode cX6_sum 19 = .ok (.iconst 0, 1) := by decide +kernel
theorem dX6_sum_20 : decode cX6_sum 20 = .ok (.invokevirtual 73, 3) := by decide +kernel
theorem dX6_sum_23 : decode cX6_sum 23 = .ok (.ifCond .eq 5, 3) := by decide +kernel
theorem dX6_sum_26 : decode cX6_sum 26 = .ok (.iconst 0, 1) := by decide +kernel
theorem dX6_sum_27 : decode cX6_sum 27 = .ok (.ireturn, 1) := by decide +kernel
theorem dX6_sum_28 : decode cX6_sum 28 = .ok (.aload_n 0, 1) := by decide +kernel
theorem dX6_sum_29 : decode cX6_sum 29 = .ok (.iload_n 1, 1) := by decide +kernel
theorem dX6_sum_30 : decode cX6_sum 30 = .ok (.invokevirtual 77, 3) := by decide +kernel
theorem dX6_sum_33 : decode cX6_sum 33 = .ok (.ireturn, 1) := by decide +kernel
theorem dX6_sumWithin_0 : decode cX6_sumWithin 0 = .ok (.iload_n 1, 1) := by decide +kernel
theorem dX6_sumWithin_1 : decode cX6_sumWithin 1 = .ok (.istore 5, 2) := by decide +kernel
theorem dX6_sumWithin_3 : decode cX6_sumWithin 3 = .ok (.iconst 0, 1) := by decide +kernel
theorem dX6_sumWithin_4 : decode cX6_sumWithin 4 = .ok (.istore 6, 2) := by decide +kernel
theorem dX6_sumWithin_6 : decode cX6_sumWithin 6 = .ok (.iload 6, 2) := by decide +kernel
theorem dX6_sumWithin_8 : decode cX6_sumWithin 8 = .ok (.aload_n 0, 1) := by decide +kernel
theorem dX6_sumWithin_9 : decode cX6_sumWithin 9 = .ok (.getfield 16, 3) := by decide +kernel
theorem dX6_sumWithin_12 : decode cX6_sumWithin 12 = .ok (.iload_n 2, 1) := by decide +kernel
theorem dX6_sumWithin_13 : decode cX6_sumWithin 13 = .ok (.iaload, 1) := by decide +kernel
theorem dX6_sumWithin_14 : decode cX6_sumWithin 14 = .ok (.if_icmp .ge 53, 3) := by decide +kernel
theorem dX6_sumWithin_17 : decode cX6_sumWithin 17 = .ok (.aload_n 0, 1) := by decide +kernel
theorem dX6_sumWithin_18 : decode cX6_sumWithin 18 = .ok (.iload_n 2, 1) := by decide +kernel
theorem dX6_sumWithin_19 : decode cX6_sumWithin 19 = .ok (.invokevirtual 90, 3) := by decide +kernel
theorem dX6_sumWithin_22 : decode cX6_sumWithin 22 = .ok (.iload 6, 2) := by decide +kernel
theorem dX6_sumWithin_24 : decode cX6_sumWithin 24 = .ok (.iadd, 1) := by decide +kernel
theorem dX6_sumWithin_25 : decode cX6_sumWithin 25 = .ok (.iload_n 3, 1) := by decide +kernel
theorem dX6_sumWithin_26 : decode cX6_sumWithin 26 = .ok (.if_icmp .lt 35, 3) := by decide +kernel
theorem dX6_sumWithin_29 : decode cX6_sumWithin 29 = .ok (.aload_n 0, 1) := by decide +kernel
theorem dX6_sumWithin_30 : decode cX6_sumWithin 30 = .ok (.iload_n 2, 1) := by decide +kernel
theorem dX6_sumWithin_31 : decode cX6_sumWithin 31 = .ok (.invokevirtual 90, 3) := by decide +kernel
theorem dX6_sumWithin_34 : decode cX6_sumWithin 34 = .ok (.iload 6, 2) := by decide +kernel
theorem dX6_sumWithin_36 : decode cX6_sumWithin 36 = .ok (.iadd, 1) := by decide +kernel
theorem dX6_sumWithin_37 : decode cX6_sumWithin 37 = .ok (.iload 4, 2) := by decide +kernel
theorem dX6_sumWithin_39 : decode cX6_sumWithin 39 = .ok (.if_icmp .ge 22, 3) := by decide +kernel
theorem dX6_sumWithin_42 : decode cX6_sumWithin 42 = .ok (.iload 5, 2) := by decide +kernel
theorem dX6_sumWithin_44 : decode cX6_sumWithin 44 = .ok (.aload_n 0, 1) := by decide +kernel
theorem dX6_sumWithin_45 : decode cX6_sumWithin 45 = .ok (.getfield 19, 3) := by decide +kernel
theorem dX6_sumWithin_48 : decode cX6_sumWithin 48 = .ok (.bipush 8, 2) := by decide +kernel
theorem dX6_sumWithin_50 : decode cX6_sumWithin 50 = .ok (.iload_n 2, 1) := by decide +kernel
theorem dX6_sumWithin_51 : decode cX6_sumWithin 51 = .ok (.imul, 1) := by decide +kernel
theorem dX6_sumWithin_52 : decode cX6_sumWithin 52 = .ok (.iload 6, 2) := by decide +kernel
theorem dX6_sumWithin_54 : decode cX6_sumWithin 54 = .ok (.iadd, 1) := by decide +kernel
theorem dX6_sumWithin_55 : decode cX6_sumWithin 55 = .ok (.iaload, 1) := by decide +kernel
theorem dX6_sumWithin_56 : decode cX6_sumWithin 56 = .ok (.invokestatic 68, 3) := by decide +kernel
theorem dX6_sumWithin_59 : decode cX6_sumWithin 59 = .ok (.istore 5, 2) := by decide +kernel
theorem dX6_sumWithin_61 : decode cX6_sumWithin 61 = .ok (.iinc 6 1, 3) := by decide +kernel
theorem dX6_sumWithin_64 : decode cX6_sumWithin 64 = .ok (.goto (-58), 3) := by decide +kernel
theorem dX6_sumWithin_67 : decode cX6_sumWithin 67 = .ok (.iload 5, 2) := by decide +kernel
theorem dX6_sumWithin_69 : decode cX6_sumWithin 69 = .ok (.ireturn, 1) := by decide +kernel
theorem dX6_part_0 : decode cX6_part 0 = .ok (.aload_n 0, 1) := by decide +kernel
theorem dX6_part_1 : decode cX6_part 1 = .ok (.aload_n 0, 1) := by decide +kernel
theorem dX6_part_2 : decode cX6_part 2 = .ok (.iload_n 1, 1) := by decide +kernel
theorem dX6_part_3 : decode cX6_part 3 = .ok (.invokevirtual 109, 3) := by decide +kernel
theorem dX6_part_6 : decode cX6_part 6 = .ok (.ifCond .ne 7, 3) := by decide +kernel
theorem dX6_part_9 : decode cX6_part 9 = .ok (.iconst 1, 1) := by decide +kernel
theorem dX6_part_10 : decode cX6_part 10 = .ok (.goto 4, 3) := by decide +kernel
theorem dX6_part_13 : decode cX6_part 13 = .ok (.iconst 0, 1) := by decide +kernel
theorem dX6_part_14 : decode cX6_part 14 = .ok (.aload_n 0, 1) := by decide +kernel
theorem dX6_part_15 : decode cX6_part 15 = .ok (.iload_n 1, 1) := by decide +kernel
theorem dX6_part_16 : decode cX6_part 16 = .ok (.invokevirtual 113, 3) := by decide +kernel
theorem dX6_part_19 : decode cX6_part 19 = .ok (.iconst 0, 1) := by decide +kernel
theorem dX6_part_20 : decode cX6_part 20 = .ok (.invokevirtual 73, 3) := by decide +kernel
theorem dX6_part_23 : decode cX6_part 23 = .ok (.ifCond .eq 5, 3) := by decide +kernel
theorem dX6_part_26 : decode cX6_part 26 = .ok (.iconst 0, 1) := by decide +kernel
theorem dX6_part_27 : decode cX6_part 27 = .ok (.ireturn, 1) := by decide +kernel
theorem dX6_part_28 : decode cX6_part 28 = .ok (.aload_n 0, 1) := by decide +kernel
theorem dX6_part_29 : decode cX6_part 29 = .ok (.iconst 0, 1) := by decide +kernel
theorem dX6_part_30 : decode cX6_part 30 = .ok (.iload_n 1, 1) := by decide +kernel
theorem dX6_part_31 : decode cX6_part 31 = .ok (.iload_n 2, 1) := by decide +kernel
theorem dX6_part_32 : decode cX6_part 32 = .ok (.iload_n 3, 1) := by decide +kernel
theorem dX6_part_33 : decode cX6_part 33 = .ok (.invokevirtual 116, 3) := by decide +kernel
theorem dX6_part_36 : decode cX6_part 36 = .ok (.ireturn, 1) := by decide +kernel
theorem dX6_size_0 : decode cX6_size 0 = .ok (.aload_n 0, 1) := by decide +kernel
theorem dX6_size_1 : decode cX6_size 1 = .ok (.iconst 0, 1) := by decide +kernel
theorem dX6_size_2 : decode cX6_size 2 = .ok (.putfield 56, 3) := by decide +kernel
theorem dX6_size_5 : decode cX6_size 5 = .ok (.iconst 0, 1) := by decide +kernel
theorem dX6_size_6 : decode cX6_size 6 = .ok (.istore_n 3, 1) := by decide +kernel
theorem dX6_size_7 : decode cX6_size 7 = .ok (.iconst 0, 1) := by decide +kernel
theorem dX6_size_8 : decode cX6_size 8 = .ok (.istore 4, 2) := by decide +kernel
theorem dX6_size_10 : decode cX6_size 10 = .ok (.iload 4, 2) := by decide +kernel
theorem dX6_size_12 : decode cX6_size 12 = .ok (.aload_n 0, 1) := by decide +kernel
theorem dX6_size_13 : decode cX6_size 13 = .ok (.getfield 60, 3) := by decide +kernel
theorem dX6_size_16 : decode cX6_size 16 = .ok (.if_icmp .ge 34, 3) := by decide +kernel
theorem dX6_size_19 : decode cX6_size 19 = .ok (.iload_n 3, 1) := by decide +kernel
theorem dX6_size_20 : decode cX6_size 20 = .ok (.aload_n 0, 1) := by decide +kernel
theorem dX6_size_21 : decode cX6_size 21 = .ok (.getfield 31, 3) := by decide +kernel
theorem dX6_size_24 : decode cX6_size 24 = .ok (.iload 4, 2) := by decide +kernel
theorem dX6_size_26 : decode cX6_size 26 = .ok (.baload, 1) := by decide +kernel
theorem dX6_size_27 : decode cX6_size 27 = .ok (.ifCond .eq 7, 3) := by decide +kernel
theorem dX6_size_30 : decode cX6_size 30 = .ok (.iconst 0, 1) := by decide +kernel
theorem dX6_size_31 : decode cX6_size 31 = .ok (.goto 11, 3) := by decide +kernel
theorem dX6_size_34 : decode cX6_size 34 = .ok (.aload_n 0, 1) := by decide +kernel
theorem dX6_size_35 : decode cX6_size 35 = .ok (.iload 4, 2) := by decide +kernel
theorem dX6_size_37 : decode cX6_size 37 = .ok (.iload_n 1, 1) := by decide +kernel
theorem dX6_size_38 : decode cX6_size 38 = .ok (.iload_n 2, 1) := by decide +kernel
theorem dX6_size_39 : decode cX6_size 39 = .ok (.invokevirtual 93, 3) := by decide +kernel
theorem dX6_size_42 : decode cX6_size 42 = .ok (.iadd, 1) := by decide +kernel
theorem dX6_size_43 : decode cX6_size 43 = .ok (.istore_n 3, 1) := by decide +kernel
theorem dX6_size_44 : decode cX6_size 44 = .ok (.iinc 4 1, 3) := by decide +kernel
theorem dX6_size_47 : decode cX6_size 47 = .ok (.goto (-37), 3) := by decide +kernel
theorem dX6_size_50 : decode cX6_size 50 = .ok (.iload_n 3, 1) := by decide +kernel
theorem dX6_size_51 : decode cX6_size 51 = .ok (.ireturn, 1) := by decide +kernel
theorem dX6_export_0 : decode cX6_export 0 = .ok (.aload_n 0, 1) := by decide +kernel
theorem dX6_export_1 : decode cX6_export 1 = .ok (.iconst 0, 1) := by decide +kernel
theorem dX6_export_2 : decode cX6_export 2 = .ok (.putfield 56, 3) := by decide +kernel
theorem dX6_export_5 : decode cX6_export 5 = .ok (.iconst 0, 1) := by decide +kernel
theorem dX6_export_6 : decode cX6_export 6 = .ok (.istore_n 3, 1) := by decide +kernel
theorem dX6_export_7 : decode cX6_export 7 = .ok (.iconst 0, 1) := by decide +kernel
theorem dX6_export_8 : decode cX6_export 8 = .ok (.istore 4, 2) := by decide +kernel
theorem dX6_export_10 : decode cX6_export 10 = .ok (.aload_n 0, 1) := by decide +kernel
theorem dX6_export_11 : decode cX6_export 11 = .ok (.iload_n 1, 1) := by decide +kernel
theorem dX6_export_12 : decode cX6_export 12 = .ok (.iload_n 2, 1) := by decide +kernel
theorem dX6_export_13 : decode cX6_export 13 = .ok (.iconst (-1), 1) := by decide +kernel
theorem dX6_export_14 : decode cX6_export 14 = .ok (.iconst (-1), 1) := by decide +kernel
theorem dX6_export_15 : decode cX6_export 15 = .ok (.iconst 0, 1) := by decide +kernel
theorem dX6_export_16 : decode cX6_export 16 = .ok (.invokevirtual 105, 3) := by decide +kernel
theorem dX6_export_19 : decode cX6_export 19 = .ok (.istore 5, 2) := by decide +kernel
theorem dX6_export_21 : decode cX6_export 21 = .ok (.iload 5, 2) := by decide +kernel
theorem dX6_export_23 : decode cX6_export 23 = .ok (.ifCond .lt 31, 3) := by decide +kernel
theorem dX6_export_26 : decode cX6_export 26 = .ok (.aload_n 0, 1) := by decide +kernel
theorem dX6_export_27 : decode cX6_export 27 = .ok (.iload_n 3, 1) := by decide +kernel
theorem dX6_export_28 : decode cX6_export 28 = .ok (.iload 5, 2) := by decide +kernel
theorem dX6_export_30 : decode cX6_export 30 = .ok (.iload_n 1, 1) := by decide +kernel
theorem dX6_export_31 : decode cX6_export 31 = .ok (.iload_n 2, 1) := by decide +kernel
theorem dX6_export_32 : decode cX6_export 32 = .ok (.invokevirtual 116, 3) := by decide +kernel
theorem dX6_export_35 : decode cX6_export 35 = .ok (.istore_n 3, 1) := by decide +kernel
theorem dX6_export_36 : decode cX6_export 36 = .ok (.iinc 4 1, 3) := by decide +kernel
theorem dX6_export_39 : decode cX6_export 39 = .ok (.aload_n 0, 1) := by decide +kernel
theorem dX6_export_40 : decode cX6_export 40 = .ok (.iload_n 1, 1) := by decide +kernel
theorem dX6_export_41 : decode cX6_export 41 = .ok (.iload_n 2, 1) := by decide +kernel
theorem dX6_export_42 : decode cX6_export 42 = .ok (.iconst (-1), 1) := by decide +kernel
theorem dX6_export_43 : decode cX6_export 43 = .ok (.iconst (-1), 1) := by decide +kernel
theorem dX6_export_44 : decode cX6_export 44 = .ok (.iload 4, 2) := by decide +kernel
theorem dX6_export_46 : decode cX6_export 46 = .ok (.invokevirtual 105, 3) := by decide +kernel
theorem dX6_export_49 : decode cX6_export 49 = .ok (.istore 5, 2) := by decide +kernel
theorem dX6_export_51 : decode cX6_export 51 = .ok (.goto (-30), 3) := by decide +kernel
theorem dX6_export_54 : decode cX6_export 54 = .ok (.iload_n 3, 1) := by decide +kernel
theorem dX6_export_55 : decode cX6_export 55 = .ok (.ireturn, 1) := by decide +kernel
theorem dX6_hold_0 : decode cX6_hold 0 = .ok (.iload_n 1, 1) := by decide +kernel
theorem dX6_hold_1 : decode cX6_hold 1 = .ok (.iconst 0, 1) := by decide +kernel
theorem dX6_hold_2 : decode cX6_hold 2 = .ok (.bipush 49, 2) := by decide +kernel
theorem dX6_hold_4 : decode cX6_hold 4 = .ok (.invokestatic 63, 3) := by decide +kernel
theorem dX6_hold_7 : decode cX6_hold 7 = .ok (.ifCond .ne 7, 3) := by decide +kernel
theorem dX6_hold_10 : decode cX6_hold 10 = .ok (.iconst 1, 1) := by decide +kernel
theorem dX6_hold_11 : decode cX6_hold 11 = .ok (.goto 4, 3) := by decide +kernel
theorem dX6_hold_14 : decode cX6_hold 14 = .ok (.iconst 0, 1) := by decide +kernel
theorem dX6_hold_15 : decode cX6_hold 15 = .ok (.istore_n 3, 1) := by decide +kernel
theorem dX6_hold_16 : decode cX6_hold 16 = .ok (.aload_n 0, 1) := by decide +kernel
theorem dX6_hold_17 : decode cX6_hold 17 = .ok (.iload_n 3, 1) := by decide +kernel
theorem dX6_hold_18 : decode cX6_hold 18 = .ok (.iload_n 3, 1) := by decide +kernel
theorem dX6_hold_19 : decode cX6_hold 19 = .ok (.ifCond .ne 17, 3) := by decide +kernel
theorem dX6_hold_22 : decode cX6_hold 22 = .ok (.aload_n 0, 1) := by decide +kernel
theorem dX6_hold_23 : decode cX6_hold 23 = .ok (.getfield 41, 3) := by decide +kernel
theorem dX6_hold_26 : decode cX6_hold 26 = .ok (.iload_n 1, 1) := by decide +kernel
theorem dX6_hold_27 : decode cX6_hold 27 = .ok (.baload, 1) := by decide +kernel
theorem dX6_hold_28 : decode cX6_hold 28 = .ok (.iload_n 2, 1) := by decide +kernel
theorem dX6_hold_29 : decode cX6_hold 29 = .ok (.if_icmp .ne 7, 3) := by decide +kernel
theorem dX6_hold_32 : decode cX6_hold 32 = .ok (.iconst 1, 1) := by decide +kernel
theorem dX6_hold_33 : decode cX6_hold 33 = .ok (.goto 4, 3) := by decide +kernel
theorem dX6_hold_36 : decode cX6_hold 36 = .ok (.iconst 0, 1) := by decide +kernel
theorem dX6_hold_37 : decode cX6_hold 37 = .ok (.iconst 0, 1) := by decide +kernel
theorem dX6_hold_38 : decode cX6_hold 38 = .ok (.invokevirtual 73, 3) := by decide +kernel
theorem dX6_hold_41 : decode cX6_hold 41 = .ok (.ifCond .eq 4, 3) := by decide +kernel
theorem dX6_hold_44 : decode cX6_hold 44 = .ok (.return_, 1) := by decide +kernel
theorem dX6_hold_45 : decode cX6_hold 45 = .ok (.aload_n 0, 1) := by decide +kernel
theorem dX6_hold_46 : decode cX6_hold 46 = .ok (.getfield 41, 3) := by decide +kernel
theorem dX6_hold_49 : decode cX6_hold 49 = .ok (.iload_n 1, 1) := by decide +kernel
theorem dX6_hold_50 : decode cX6_hold 50 = .ok (.iload_n 2, 1) := by decide +kernel
theorem dX6_hold_51 : decode cX6_hold 51 = .ok (.bastore, 1) := by decide +kernel
theorem dX6_hold_52 : decode cX6_hold 52 = .ok (.return_, 1) := by decide +kernel
theorem dX6_drop_0 : decode cX6_drop 0 = .ok (.aload_n 0, 1) := by decide +kernel
theorem dX6_drop_1 : decode cX6_drop 1 = .ok (.aload_n 0, 1) := by decide +kernel
theorem dX6_drop_2 : decode cX6_drop 2 = .ok (.iload_n 1, 1) := by decide +kernel
theorem dX6_drop_3 : decode cX6_drop 3 = .ok (.invokevirtual 109, 3) := by decide +kernel
theorem dX6_drop_6 : decode cX6_drop 6 = .ok (.ifCond .ne 7, 3) := by decide +kernel
theorem dX6_drop_9 : decode cX6_drop 9 = .ok (.iconst 1, 1) := by decide +kernel
theorem dX6_drop_10 : decode cX6_drop 10 = .ok (.goto 4, 3) := by decide +kernel
theorem dX6_drop_13 : decode cX6_drop 13 = .ok (.iconst 0, 1) := by decide +kernel
theorem dX6_drop_14 : decode cX6_drop 14 = .ok (.aload_n 0, 1) := by decide +kernel
theorem dX6_drop_15 : decode cX6_drop 15 = .ok (.iload_n 1, 1) := by decide +kernel
theorem dX6_drop_16 : decode cX6_drop 16 = .ok (.invokevirtual 109, 3) := by decide +kernel
theorem dX6_drop_19 : decode cX6_drop 19 = .ok (.ifCond .eq 30, 3) := by decide +kernel
theorem dX6_drop_22 : decode cX6_drop 22 = .ok (.aload_n 0, 1) := by decide +kernel
theorem dX6_drop_23 : decode cX6_drop 23 = .ok (.getfield 31, 3) := by decide +kernel
theorem dX6_drop_26 : decode cX6_drop 26 = .ok (.iload_n 1, 1) := by decide +kernel
theorem dX6_drop_27 : decode cX6_drop 27 = .ok (.baload, 1) := by decide +kernel
theorem dX6_drop_28 : decode cX6_drop 28 = .ok (.ifCond .ne 17, 3) := by decide +kernel
theorem dX6_drop_31 : decode cX6_drop 31 = .ok (.aload_n 0, 1) := by decide +kernel
theorem dX6_drop_32 : decode cX6_drop 32 = .ok (.getfield 41, 3) := by decide +kernel
theorem dX6_drop_35 : decode cX6_drop 35 = .ok (.aload_n 0, 1) := by decide +kernel
theorem dX6_drop_36 : decode cX6_drop 36 = .ok (.getfield 25, 3) := by decide +kernel
theorem dX6_drop_39 : decode cX6_drop 39 = .ok (.iload_n 1, 1) := by decide +kernel
theorem dX6_drop_40 : decode cX6_drop 40 = .ok (.iaload, 1) := by decide +kernel
theorem dX6_drop_41 : decode cX6_drop 41 = .ok (.baload, 1) := by decide +kernel
theorem dX6_drop_42 : decode cX6_drop 42 = .ok (.ifCond .eq 7, 3) := by decide +kernel
theorem dX6_drop_45 : decode cX6_drop 45 = .ok (.iconst 1, 1) := by decide +kernel
theorem dX6_drop_46 : decode cX6_drop 46 = .ok (.goto 4, 3) := by decide +kernel
theorem dX6_drop_49 : decode cX6_drop 49 = .ok (.iconst 0, 1) := by decide +kernel
theorem dX6_drop_50 : decode cX6_drop 50 = .ok (.iconst 0, 1) := by decide +kernel
theorem dX6_drop_51 : decode cX6_drop 51 = .ok (.invokevirtual 73, 3) := by decide +kernel
theorem dX6_drop_54 : decode cX6_drop 54 = .ok (.ifCond .eq 5, 3) := by decide +kernel
theorem dX6_drop_57 : decode cX6_drop 57 = .ok (.iconst 0, 1) := by decide +kernel
theorem dX6_drop_58 : decode cX6_drop 58 = .ok (.ireturn, 1) := by decide +kernel
theorem dX6_drop_59 : decode cX6_drop 59 = .ok (.aload_n 0, 1) := by decide +kernel
theorem dX6_drop_60 : decode cX6_drop 60 = .ok (.getfield 31, 3) := by decide +kernel
theorem dX6_drop_63 : decode cX6_drop 63 = .ok (.iload_n 1, 1) := by decide +kernel
theorem dX6_drop_64 : decode cX6_drop 64 = .ok (.iconst 1, 1) := by decide +kernel
theorem dX6_drop_65 : decode cX6_drop 65 = .ok (.bastore, 1) := by decide +kernel
theorem dX6_drop_66 : decode cX6_drop 66 = .ok (.aload_n 0, 1) := by decide +kernel
theorem dX6_drop_67 : decode cX6_drop 67 = .ok (.getfield 47, 3) := by decide +kernel
theorem dX6_drop_70 : decode cX6_drop 70 = .ok (.aload_n 0, 1) := by decide +kernel
theorem dX6_drop_71 : decode cX6_drop 71 = .ok (.getfield 120, 3) := by decide +kernel
theorem dX6_drop_74 : decode cX6_drop 74 = .ok (.iload_n 1, 1) := by decide +kernel
theorem dX6_drop_75 : decode cX6_drop 75 = .ok (.iastore, 1) := by decide +kernel
theorem dX6_drop_76 : decode cX6_drop 76 = .ok (.aload_n 0, 1) := by decide +kernel
theorem dX6_drop_77 : decode cX6_drop 77 = .ok (.getfield 50, 3) := by decide +kernel
theorem dX6_drop_80 : decode cX6_drop 80 = .ok (.aload_n 0, 1) := by decide +kernel
theorem dX6_drop_81 : decode cX6_drop 81 = .ok (.getfield 120, 3) := by decide +kernel
theorem dX6_drop_84 : decode cX6_drop 84 = .ok (.aload_n 0, 1) := by decide +kernel
theorem dX6_drop_85 : decode cX6_drop 85 = .ok (.iload_n 1, 1) := by decide +kernel
theorem dX6_drop_86 : decode cX6_drop 86 = .ok (.invokevirtual 77, 3) := by decide +kernel
theorem dX6_drop_89 : decode cX6_drop 89 = .ok (.iastore, 1) := by decide +kernel
theorem dX6_drop_90 : decode cX6_drop 90 = .ok (.aload_n 0, 1) := by decide +kernel
theorem dX6_drop_91 : decode cX6_drop 91 = .ok (.dup, 1) := by decide +kernel
theorem dX6_drop_92 : decode cX6_drop 92 = .ok (.getfield 120, 3) := by decide +kernel
theorem dX6_drop_95 : decode cX6_drop 95 = .ok (.iconst 1, 1) := by decide +kernel
theorem dX6_drop_96 : decode cX6_drop 96 = .ok (.iadd, 1) := by decide +kernel
theorem dX6_drop_97 : decode cX6_drop 97 = .ok (.putfield 120, 3) := by decide +kernel
theorem dX6_drop_100 : decode cX6_drop 100 = .ok (.aload_n 0, 1) := by decide +kernel
theorem dX6_drop_101 : decode cX6_drop 101 = .ok (.getfield 120, 3) := by decide +kernel
theorem dX6_drop_104 : decode cX6_drop 104 = .ok (.iconst 1, 1) := by decide +kernel
theorem dX6_drop_105 : decode cX6_drop 105 = .ok (.isub, 1) := by decide +kernel
theorem dX6_drop_106 : decode cX6_drop 106 = .ok (.ireturn, 1) := by decide +kernel
theorem dX6_certificate_0 : decode cX6_certificate 0 = .ok (.aload_n 0, 1) := by decide +kernel
theorem dX6_certificate_1 : decode cX6_certificate 1 = .ok (.iload_n 1, 1) := by decide +kernel
theorem dX6_certificate_2 : decode cX6_certificate 2 = .ok (.iconst 0, 1) := by decide +kernel
theorem dX6_certificate_3 : decode cX6_certificate 3 = .ok (.aload_n 0, 1) := by decide +kernel
theorem dX6_certificate_4 : decode cX6_certificate 4 = .ok (.getfield 120, 3) := by decide +kernel
theorem dX6_certificate_7 : decode cX6_certificate 7 = .ok (.iconst 1, 1) := by decide +kernel
theorem dX6_certificate_8 : decode cX6_certificate 8 = .ok (.isub, 1) := by decide +kernel
theorem dX6_certificate_9 : decode cX6_certificate 9 = .ok (.invokestatic 63, 3) := by decide +kernel
theorem dX6_certificate_12 : decode cX6_certificate 12 = .ok (.ifCond .eq 12, 3) := by decide +kernel
theorem dX6_certificate_15 : decode cX6_certificate 15 = .ok (.iload_n 2, 1) := by decide +kernel
theorem dX6_certificate_16 : decode cX6_certificate 16 = .ok (.iconst 0, 1) := by decide +kernel
theorem dX6_certificate_17 : decode cX6_certificate 17 = .ok (.iconst 2, 1) := by decide +kernel
theorem dX6_certificate_18 : decode cX6_certificate 18 = .ok (.invokestatic 63, 3) := by decide +kernel
theorem dX6_certificate_21 : decode cX6_certificate 21 = .ok (.ifCond .ne 7, 3) := by decide +kernel
theorem dX6_certificate_24 : decode cX6_certificate 24 = .ok (.iconst 1, 1) := by decide +kernel
theorem dX6_certificate_25 : decode cX6_certificate 25 = .ok (.goto 4, 3) := by decide +kernel
theorem dX6_certificate_28 : decode cX6_certificate 28 = .ok (.iconst 0, 1) := by decide +kernel
theorem dX6_certificate_29 : decode cX6_certificate 29 = .ok (.iconst 0, 1) := by decide +kernel
theorem dX6_certificate_30 : decode cX6_certificate 30 = .ok (.iconst 0, 1) := by decide +kernel
theorem dX6_certificate_31 : decode cX6_certificate 31 = .ok (.invokevirtual 73, 3) := by decide +kernel
theorem dX6_certificate_34 : decode cX6_certificate 34 = .ok (.ifCond .eq 5, 3) := by decide +kernel
theorem dX6_certificate_37 : decode cX6_certificate 37 = .ok (.iconst 0, 1) := by decide +kernel
theorem dX6_certificate_38 : decode cX6_certificate 38 = .ok (.ireturn, 1) := by decide +kernel
theorem dX6_certificate_39 : decode cX6_certificate 39 = .ok (.iload_n 2, 1) := by decide +kernel
theorem dX6_certificate_40 : decode cX6_certificate 40 = .ok (.ifCond .ne 12, 3) := by decide +kernel
theorem dX6_certificate_43 : decode cX6_certificate 43 = .ok (.aload_n 0, 1) := by decide +kernel
theorem dX6_certificate_44 : decode cX6_certificate 44 = .ok (.getfield 47, 3) := by decide +kernel
theorem dX6_certificate_47 : decode cX6_certificate 47 = .ok (.iload_n 1, 1) := by decide +kernel
theorem dX6_certificate_48 : decode cX6_certificate 48 = .ok (.iaload, 1) := by decide +kernel
theorem dX6_certificate_49 : decode cX6_certificate 49 = .ok (.goto 28, 3) := by decide +kernel
theorem dX6_certificate_52 : decode cX6_certificate 52 = .ok (.iload_n 2, 1) := by decide +kernel
theorem dX6_certificate_53 : decode cX6_certificate 53 = .ok (.iconst 1, 1) := by decide +kernel
theorem dX6_certificate_54 : decode cX6_certificate 54 = .ok (.if_icmp .ne 17, 3) := by decide +kernel
theorem dX6_certificate_57 : decode cX6_certificate 57 = .ok (.aload_n 0, 1) := by decide +kernel
theorem dX6_certificate_58 : decode cX6_certificate 58 = .ok (.getfield 28, 3) := by decide +kernel
theorem dX6_certificate_61 : decode cX6_certificate 61 = .ok (.aload_n 0, 1) := by decide +kernel
theorem dX6_certificate_62 : decode cX6_certificate 62 = .ok (.getfield 47, 3) := by decide +kernel
theorem dX6_certificate_65 : decode cX6_certificate 65 = .ok (.iload_n 1, 1) := by decide +kernel
theorem dX6_certificate_66 : decode cX6_certificate 66 = .ok (.iaload, 1) := by decide +kernel
theorem dX6_certificate_67 : decode cX6_certificate 67 = .ok (.iaload, 1) := by decide +kernel
theorem dX6_certificate_68 : decode cX6_certificate 68 = .ok (.goto 9, 3) := by decide +kernel
theorem dX6_certificate_71 : decode cX6_certificate 71 = .ok (.aload_n 0, 1) := by decide +kernel
theorem dX6_certificate_72 : decode cX6_certificate 72 = .ok (.getfield 50, 3) := by decide +kernel
theorem dX6_certificate_75 : decode cX6_certificate 75 = .ok (.iload_n 1, 1) := by decide +kernel
theorem dX6_certificate_76 : decode cX6_certificate 76 = .ok (.iaload, 1) := by decide +kernel
theorem dX6_certificate_77 : decode cX6_certificate 77 = .ok (.ireturn, 1) := by decide +kernel
theorem dX6_right_0 : decode cX6_right 0 = .ok (.aload_n 0, 1) := by decide +kernel
theorem dX6_right_1 : decode cX6_right 1 = .ok (.iload_n 1, 1) := by decide +kernel
theorem dX6_right_2 : decode cX6_right 2 = .ok (.iconst 0, 1) := by decide +kernel
theorem dX6_right_3 : decode cX6_right 3 = .ok (.bipush 19, 2) := by decide +kernel
theorem dX6_right_5 : decode cX6_right 5 = .ok (.invokestatic 63, 3) := by decide +kernel
theorem dX6_right_8 : decode cX6_right 8 = .ok (.ifCond .eq 13, 3) := by decide +kernel
theorem dX6_right_11 : decode cX6_right 11 = .ok (.iload_n 2, 1) := by decide +kernel
theorem dX6_right_12 : decode cX6_right 12 = .ok (.iconst 0, 1) := by decide +kernel
theorem dX6_right_13 : decode cX6_right 13 = .ok (.bipush 49, 2) := by decide +kernel
theorem dX6_right_15 : decode cX6_right 15 = .ok (.invokestatic 63, 3) := by decide +kernel
theorem dX6_right_18 : decode cX6_right 18 = .ok (.ifCond .ne 7, 3) := by decide +kernel
theorem dX6_right_21 : decode cX6_right 21 = .ok (.iconst 1, 1) := by decide +kernel
theorem dX6_right_22 : decode cX6_right 22 = .ok (.goto 4, 3) := by decide +kernel
theorem dX6_right_25 : decode cX6_right 25 = .ok (.iconst 0, 1) := by decide +kernel
theorem dX6_right_26 : decode cX6_right 26 = .ok (.iconst 0, 1) := by decide +kernel
theorem dX6_right_27 : decode cX6_right 27 = .ok (.iconst 0, 1) := by decide +kernel
theorem dX6_right_28 : decode cX6_right 28 = .ok (.invokevirtual 73, 3) := by decide +kernel
theorem dX6_right_31 : decode cX6_right 31 = .ok (.ifCond .eq 4, 3) := by decide +kernel
theorem dX6_right_34 : decode cX6_right 34 = .ok (.return_, 1) := by decide +kernel
theorem dX6_right_35 : decode cX6_right 35 = .ok (.aload_n 0, 1) := by decide +kernel
theorem dX6_right_36 : decode cX6_right 36 = .ok (.getfield 44, 3) := by decide +kernel
theorem dX6_right_39 : decode cX6_right 39 = .ok (.bipush 50, 2) := by decide +kernel
theorem dX6_right_41 : decode cX6_right 41 = .ok (.iload_n 1, 1) := by decide +kernel
theorem dX6_right_42 : decode cX6_right 42 = .ok (.imul, 1) := by decide +kernel
theorem dX6_right_43 : decode cX6_right 43 = .ok (.iload_n 2, 1) := by decide +kernel
theorem dX6_right_44 : decode cX6_right 44 = .ok (.iadd, 1) := by decide +kernel
theorem dX6_right_45 : decode cX6_right 45 = .ok (.iload_n 3, 1) := by decide +kernel
theorem dX6_right_46 : decode cX6_right 46 = .ok (.bastore, 1) := by decide +kernel
theorem dX6_right_47 : decode cX6_right 47 = .ok (.return_, 1) := by decide +kernel
theorem dX6_listen_0 : decode cX6_listen 0 = .ok (.iload_n 1, 1) := by decide +kernel
theorem dX6_listen_1 : decode cX6_listen 1 = .ok (.iconst 0, 1) := by decide +kernel
theorem dX6_listen_2 : decode cX6_listen 2 = .ok (.bipush 19, 2) := by decide +kernel
theorem dX6_listen_4 : decode cX6_listen 4 = .ok (.invokestatic 63, 3) := by decide +kernel
theorem dX6_listen_7 : decode cX6_listen 7 = .ok (.ifCond .eq 11, 3) := by decide +kernel
theorem dX6_listen_10 : decode cX6_listen 10 = .ok (.aload_n 0, 1) := by decide +kernel
theorem dX6_listen_11 : decode cX6_listen 11 = .ok (.iload_n 2, 1) := by decide +kernel
theorem dX6_listen_12 : decode cX6_listen 12 = .ok (.invokevirtual 109, 3) := by decide +kernel
theorem dX6_listen_15 : decode cX6_listen 15 = .ok (.ifCond .ne 7, 3) := by decide +kernel
theorem dX6_listen_18 : decode cX6_listen 18 = .ok (.iconst 1, 1) := by decide +kernel
theorem dX6_listen_19 : decode cX6_listen 19 = .ok (.goto 4, 3) := by decide +kernel
theorem dX6_listen_22 : decode cX6_listen 22 = .ok (.iconst 0, 1) := by decide +kernel
theorem dX6_listen_23 : decode cX6_listen 23 = .ok (.istore_n 3, 1) := by decide +kernel
theorem dX6_listen_24 : decode cX6_listen 24 = .ok (.iload_n 3, 1) := by decide +kernel
theorem dX6_listen_25 : decode cX6_listen 25 = .ok (.ifCond .ne 35, 3) := by decide +kernel
theorem dX6_listen_28 : decode cX6_listen 28 = .ok (.aload_n 0, 1) := by decide +kernel
theorem dX6_listen_29 : decode cX6_listen 29 = .ok (.getfield 31, 3) := by decide +kernel
theorem dX6_listen_32 : decode cX6_listen 32 = .ok (.iload_n 2, 1) := by decide +kernel
theorem dX6_listen_33 : decode cX6_listen 33 = .ok (.baload, 1) := by decide +kernel
theorem dX6_listen_34 : decode cX6_listen 34 = .ok (.ifCond .ne 26, 3) := by decide +kernel
theorem dX6_listen_37 : decode cX6_listen 37 = .ok (.aload_n 0, 1) := by decide +kernel
theorem dX6_listen_38 : decode cX6_listen 38 = .ok (.getfield 44, 3) := by decide +kernel
theorem dX6_listen_41 : decode cX6_listen 41 = .ok (.bipush 50, 2) := by decide +kernel
theorem dX6_listen_43 : decode cX6_listen 43 = .ok (.iload_n 1, 1) := by decide +kernel
theorem dX6_listen_44 : decode cX6_listen 44 = .ok (.imul, 1) := by decide +kernel
theorem dX6_listen_45 : decode cX6_listen 45 = .ok (.aload_n 0, 1) := by decide +kernel
theorem dX6_listen_46 : decode cX6_listen 46 = .ok (.getfield 25, 3) := by decide +kernel
theorem dX6_listen_49 : decode cX6_listen 49 = .ok (.iload_n 2, 1) := by decide +kernel
theorem dX6_listen_50 : decode cX6_listen 50 = .ok (.iaload, 1) := by decide +kernel
theorem dX6_listen_51 : decode cX6_listen 51 = .ok (.iadd, 1) := by decide +kernel
theorem dX6_listen_52 : decode cX6_listen 52 = .ok (.baload, 1) := by decide +kernel
theorem dX6_listen_53 : decode cX6_listen 53 = .ok (.ifCond .eq 7, 3) := by decide +kernel
theorem dX6_listen_56 : decode cX6_listen 56 = .ok (.iconst 1, 1) := by decide +kernel
theorem dX6_listen_57 : decode cX6_listen 57 = .ok (.goto 4, 3) := by decide +kernel
theorem dX6_listen_60 : decode cX6_listen 60 = .ok (.iconst 0, 1) := by decide +kernel
theorem dX6_listen_61 : decode cX6_listen 61 = .ok (.istore 4, 2) := by decide +kernel
theorem dX6_listen_63 : decode cX6_listen 63 = .ok (.iload_n 3, 1) := by decide +kernel
theorem dX6_listen_64 : decode cX6_listen 64 = .ok (.ifCond .ne 74, 3) := by decide +kernel
theorem dX6_listen_67 : decode cX6_listen 67 = .ok (.aload_n 0, 1) := by decide +kernel
theorem dX6_listen_68 : decode cX6_listen 68 = .ok (.getfield 53, 3) := by decide +kernel
theorem dX6_listen_71 : decode cX6_listen 71 = .ok (.iconst 3, 1) := by decide +kernel
theorem dX6_listen_72 : decode cX6_listen 72 = .ok (.aload_n 0, 1) := by decide +kernel
theorem dX6_listen_73 : decode cX6_listen 73 = .ok (.getfield 123, 3) := by decide +kernel
theorem dX6_listen_76 : decode cX6_listen 76 = .ok (.sipush 200, 3) := by decide +kernel
theorem dX6_listen_79 : decode cX6_listen 79 = .ok (.irem, 1) := by decide +kernel
theorem dX6_listen_80 : decode cX6_listen 80 = .ok (.imul, 1) := by decide +kernel
theorem dX6_listen_81 : decode cX6_listen 81 = .ok (.iload_n 1, 1) := by decide +kernel
theorem dX6_listen_82 : decode cX6_listen 82 = .ok (.iastore, 1) := by decide +kernel
theorem dX6_listen_83 : decode cX6_listen 83 = .ok (.aload_n 0, 1) := by decide +kernel
theorem dX6_listen_84 : decode cX6_listen 84 = .ok (.getfield 53, 3) := by decide +kernel
theorem dX6_listen_87 : decode cX6_listen 87 = .ok (.iconst 3, 1) := by decide +kernel
theorem dX6_listen_88 : decode cX6_listen 88 = .ok (.aload_n 0, 1) := by decide +kernel
theorem dX6_listen_89 : decode cX6_listen 89 = .ok (.getfield 123, 3) := by decide +kernel
theorem dX6_listen_92 : decode cX6_listen 92 = .ok (.sipush 200, 3) := by decide +kernel
theorem dX6_listen_95 : decode cX6_listen 95 = .ok (.irem, 1) := by decide +kernel
theorem dX6_listen_96 : decode cX6_listen 96 = .ok (.imul, 1) := by decide +kernel
theorem dX6_listen_97 : decode cX6_listen 97 = .ok (.iconst 1, 1) := by decide +kernel
theorem dX6_listen_98 : decode cX6_listen 98 = .ok (.iadd, 1) := by decide +kernel
theorem dX6_listen_99 : decode cX6_listen 99 = .ok (.iload_n 2, 1) := by decide +kernel
theorem dX6_listen_100 : decode cX6_listen 100 = .ok (.iastore, 1) := by decide +kernel
theorem dX6_listen_101 : decode cX6_listen 101 = .ok (.aload_n 0, 1) := by decide +kernel
theorem dX6_listen_102 : decode cX6_listen 102 = .ok (.getfield 53, 3) := by decide +kernel
theorem dX6_listen_105 : decode cX6_listen 105 = .ok (.iconst 3, 1) := by decide +kernel
theorem dX6_listen_106 : decode cX6_listen 106 = .ok (.aload_n 0, 1) := by decide +kernel
theorem dX6_listen_107 : decode cX6_listen 107 = .ok (.getfield 123, 3) := by decide +kernel
theorem dX6_listen_110 : decode cX6_listen 110 = .ok (.sipush 200, 3) := by decide +kernel
theorem dX6_listen_113 : decode cX6_listen 113 = .ok (.irem, 1) := by decide +kernel
theorem dX6_listen_114 : decode cX6_listen 114 = .ok (.imul, 1) := by decide +kernel
theorem dX6_listen_115 : decode cX6_listen 115 = .ok (.iconst 2, 1) := by decide +kernel
theorem dX6_listen_116 : decode cX6_listen 116 = .ok (.iadd, 1) := by decide +kernel
theorem dX6_listen_117 : decode cX6_listen 117 = .ok (.iload 4, 2) := by decide +kernel
theorem dX6_listen_119 : decode cX6_listen 119 = .ok (.ifCond .eq 7, 3) := by decide +kernel
theorem dX6_listen_122 : decode cX6_listen 122 = .ok (.iconst 1, 1) := by decide +kernel
theorem dX6_listen_123 : decode cX6_listen 123 = .ok (.goto 4, 3) := by decide +kernel
theorem dX6_listen_126 : decode cX6_listen 126 = .ok (.iconst 0, 1) := by decide +kernel
theorem dX6_listen_127 : decode cX6_listen 127 = .ok (.iastore, 1) := by decide +kernel
theorem dX6_listen_128 : decode cX6_listen 128 = .ok (.aload_n 0, 1) := by decide +kernel
theorem dX6_listen_129 : decode cX6_listen 129 = .ok (.dup, 1) := by decide +kernel
theorem dX6_listen_130 : decode cX6_listen 130 = .ok (.getfield 123, 3) := by decide +kernel
theorem dX6_listen_133 : decode cX6_listen 133 = .ok (.iconst 1, 1) := by decide +kernel
theorem dX6_listen_134 : decode cX6_listen 134 = .ok (.iadd, 1) := by decide +kernel
theorem dX6_listen_135 : decode cX6_listen 135 = .ok (.putfield 123, 3) := by decide +kernel
theorem dX6_listen_138 : decode cX6_listen 138 = .ok (.aload_n 0, 1) := by decide +kernel
theorem dX6_listen_139 : decode cX6_listen 139 = .ok (.iload_n 3, 1) := by decide +kernel
theorem dX6_listen_140 : decode cX6_listen 140 = .ok (.iload 4, 2) := by decide +kernel
theorem dX6_listen_142 : decode cX6_listen 142 = .ok (.ifCond .ne 7, 3) := by decide +kernel
theorem dX6_listen_145 : decode cX6_listen 145 = .ok (.iconst 1, 1) := by decide +kernel
theorem dX6_listen_146 : decode cX6_listen 146 = .ok (.goto 4, 3) := by decide +kernel
theorem dX6_listen_149 : decode cX6_listen 149 = .ok (.iconst 0, 1) := by decide +kernel
theorem dX6_listen_150 : decode cX6_listen 150 = .ok (.iconst 0, 1) := by decide +kernel
theorem dX6_listen_151 : decode cX6_listen 151 = .ok (.invokevirtual 73, 3) := by decide +kernel
theorem dX6_listen_154 : decode cX6_listen 154 = .ok (.ifCond .eq 5, 3) := by decide +kernel
theorem dX6_listen_157 : decode cX6_listen 157 = .ok (.iconst 0, 1) := by decide +kernel
theorem dX6_listen_158 : decode cX6_listen 158 = .ok (.ireturn, 1) := by decide +kernel
theorem dX6_listen_159 : decode cX6_listen 159 = .ok (.aload_n 0, 1) := by decide +kernel
theorem dX6_listen_160 : decode cX6_listen 160 = .ok (.iload_n 2, 1) := by decide +kernel
theorem dX6_listen_161 : decode cX6_listen 161 = .ok (.invokevirtual 77, 3) := by decide +kernel
theorem dX6_listen_164 : decode cX6_listen 164 = .ok (.ireturn, 1) := by decide +kernel
theorem dX6_row_0 : decode cX6_row 0 = .ok (.iload_n 1, 1) := by decide +kernel
theorem dX6_row_1 : decode cX6_row 1 = .ok (.iconst 0, 1) := by decide +kernel
theorem dX6_row_2 : decode cX6_row 2 = .ok (.aload_n 0, 1) := by decide +kernel
theorem dX6_row_3 : decode cX6_row 3 = .ok (.getfield 123, 3) := by decide +kernel
theorem dX6_row_6 : decode cX6_row 6 = .ok (.iconst 1, 1) := by decide +kernel
theorem dX6_row_7 : decode cX6_row 7 = .ok (.isub, 1) := by decide +kernel
theorem dX6_row_8 : decode cX6_row 8 = .ok (.invokestatic 63, 3) := by decide +kernel
theorem dX6_row_11 : decode cX6_row 11 = .ok (.ifCond .eq 19, 3) := by decide +kernel
theorem dX6_row_14 : decode cX6_row 14 = .ok (.iload_n 1, 1) := by decide +kernel
theorem dX6_row_15 : decode cX6_row 15 = .ok (.aload_n 0, 1) := by decide +kernel
theorem dX6_row_16 : decode cX6_row 16 = .ok (.getfield 123, 3) := by decide +kernel
theorem dX6_row_19 : decode cX6_row 19 = .ok (.sipush 200, 3) := by decide +kernel
theorem dX6_row_22 : decode cX6_row 22 = .ok (.isub, 1) := by decide +kernel
theorem dX6_row_23 : decode cX6_row 23 = .ok (.if_icmp .lt 7, 3) := by decide +kernel
theorem dX6_row_26 : decode cX6_row 26 = .ok (.iconst 1, 1) := by decide +kernel
theorem dX6_row_27 : decode cX6_row 27 = .ok (.goto 4, 3) := by decide +kernel
theorem dX6_row_30 : decode cX6_row 30 = .ok (.iconst 0, 1) := by decide +kernel
theorem dX6_row_31 : decode cX6_row 31 = .ok (.istore_n 3, 1) := by decide +kernel
theorem dX6_row_32 : decode cX6_row 32 = .ok (.aload_n 0, 1) := by decide +kernel
theorem dX6_row_33 : decode cX6_row 33 = .ok (.iload_n 3, 1) := by decide +kernel
theorem dX6_row_34 : decode cX6_row 34 = .ok (.ifCond .eq 12, 3) := by decide +kernel
theorem dX6_row_37 : decode cX6_row 37 = .ok (.iload_n 2, 1) := by decide +kernel
theorem dX6_row_38 : decode cX6_row 38 = .ok (.iconst 0, 1) := by decide +kernel
theorem dX6_row_39 : decode cX6_row 39 = .ok (.iconst 2, 1) := by decide +kernel
theorem dX6_row_40 : decode cX6_row 40 = .ok (.invokestatic 63, 3) := by decide +kernel
theorem dX6_row_43 : decode cX6_row 43 = .ok (.ifCond .ne 7, 3) := by decide +kernel
theorem dX6_row_46 : decode cX6_row 46 = .ok (.iconst 1, 1) := by decide +kernel
theorem dX6_row_47 : decode cX6_row 47 = .ok (.goto 4, 3) := by decide +kernel
theorem dX6_row_50 : decode cX6_row 50 = .ok (.iconst 0, 1) := by decide +kernel
theorem dX6_row_51 : decode cX6_row 51 = .ok (.iconst 0, 1) := by decide +kernel
theorem dX6_row_52 : decode cX6_row 52 = .ok (.iconst 0, 1) := by decide +kernel
theorem dX6_row_53 : decode cX6_row 53 = .ok (.invokevirtual 73, 3) := by decide +kernel
theorem dX6_row_56 : decode cX6_row 56 = .ok (.ifCond .eq 5, 3) := by decide +kernel
theorem dX6_row_59 : decode cX6_row 59 = .ok (.iconst 0, 1) := by decide +kernel
theorem dX6_row_60 : decode cX6_row 60 = .ok (.ireturn, 1) := by decide +kernel
theorem dX6_row_61 : decode cX6_row 61 = .ok (.aload_n 0, 1) := by decide +kernel
theorem dX6_row_62 : decode cX6_row 62 = .ok (.getfield 53, 3) := by decide +kernel
theorem dX6_row_65 : decode cX6_row 65 = .ok (.iconst 3, 1) := by decide +kernel
theorem dX6_row_66 : decode cX6_row 66 = .ok (.iload_n 1, 1) := by decide +kernel
theorem dX6_row_67 : decode cX6_row 67 = .ok (.sipush 200, 3) := by decide +kernel
theorem dX6_row_70 : decode cX6_row 70 = .ok (.irem, 1) := by decide +kernel
theorem dX6_row_71 : decode cX6_row 71 = .ok (.imul, 1) := by decide +kernel
theorem dX6_row_72 : decode cX6_row 72 = .ok (.iload_n 2, 1) := by decide +kernel
theorem dX6_row_73 : decode cX6_row 73 = .ok (.iadd, 1) := by decide +kernel
theorem dX6_row_74 : decode cX6_row 74 = .ok (.iaload, 1) := by decide +kernel
theorem dX6_row_75 : decode cX6_row 75 = .ok (.ireturn, 1) := by decide +kernel
theorem dX6_poke_0 : decode cX6_poke 0 = .ok (.aload_n 0, 1) := by decide +kernel
theorem dX6_poke_1 : decode cX6_poke 1 = .ok (.iload_n 1, 1) := by decide +kernel
theorem dX6_poke_2 : decode cX6_poke 2 = .ok (.invokevirtual 109, 3) := by decide +kernel
theorem dX6_poke_5 : decode cX6_poke 5 = .ok (.ifCond .ne 7, 3) := by decide +kernel
theorem dX6_poke_8 : decode cX6_poke 8 = .ok (.iconst 1, 1) := by decide +kernel
theorem dX6_poke_9 : decode cX6_poke 9 = .ok (.goto 4, 3) := by decide +kernel
theorem dX6_poke_12 : decode cX6_poke 12 = .ok (.iconst 0, 1) := by decide +kernel
theorem dX6_poke_13 : decode cX6_poke 13 = .ok (.istore 4, 2) := by decide +kernel
theorem dX6_poke_15 : decode cX6_poke 15 = .ok (.aload_n 0, 1) := by decide +kernel
theorem dX6_poke_16 : decode cX6_poke 16 = .ok (.iload 4, 2) := by decide +kernel
theorem dX6_poke_18 : decode cX6_poke 18 = .ok (.iload 4, 2) := by decide +kernel
theorem dX6_poke_20 : decode cX6_poke 20 = .ok (.ifCond .ne 30, 3) := by decide +kernel
theorem dX6_poke_23 : decode cX6_poke 23 = .ok (.iload_n 2, 1) := by decide +kernel
theorem dX6_poke_24 : decode cX6_poke 24 = .ok (.iconst 0, 1) := by decide +kernel
theorem dX6_poke_25 : decode cX6_poke 25 = .ok (.aload_n 0, 1) := by decide +kernel
theorem dX6_poke_26 : decode cX6_poke 26 = .ok (.getfield 16, 3) := by decide +kernel
theorem dX6_poke_29 : decode cX6_poke 29 = .ok (.iload_n 1, 1) := by decide +kernel
theorem dX6_poke_30 : decode cX6_poke 30 = .ok (.iaload, 1) := by decide +kernel
theorem dX6_poke_31 : decode cX6_poke 31 = .ok (.iconst 1, 1) := by decide +kernel
theorem dX6_poke_32 : decode cX6_poke 32 = .ok (.isub, 1) := by decide +kernel
theorem dX6_poke_33 : decode cX6_poke 33 = .ok (.invokestatic 63, 3) := by decide +kernel
theorem dX6_poke_36 : decode cX6_poke 36 = .ok (.ifCond .eq 14, 3) := by decide +kernel
theorem dX6_poke_39 : decode cX6_poke 39 = .ok (.iload_n 3, 1) := by decide +kernel
theorem dX6_poke_40 : decode cX6_poke 40 = .ok (.iconst 1, 1) := by decide +kernel
theorem dX6_poke_41 : decode cX6_poke 41 = .ok (.sipush 255, 3) := by decide +kernel
theorem dX6_poke_44 : decode cX6_poke 44 = .ok (.invokestatic 63, 3) := by decide +kernel
theorem dX6_poke_47 : decode cX6_poke 47 = .ok (.ifCond .ne 7, 3) := by decide +kernel
theorem dX6_poke_50 : decode cX6_poke 50 = .ok (.iconst 1, 1) := by decide +kernel
theorem dX6_poke_51 : decode cX6_poke 51 = .ok (.goto 4, 3) := by decide +kernel
theorem dX6_poke_54 : decode cX6_poke 54 = .ok (.iconst 0, 1) := by decide +kernel
theorem dX6_poke_55 : decode cX6_poke 55 = .ok (.aload_n 0, 1) := by decide +kernel
theorem dX6_poke_56 : decode cX6_poke 56 = .ok (.iload_n 1, 1) := by decide +kernel
theorem dX6_poke_57 : decode cX6_poke 57 = .ok (.invokevirtual 113, 3) := by decide +kernel
theorem dX6_poke_60 : decode cX6_poke 60 = .ok (.invokevirtual 73, 3) := by decide +kernel
theorem dX6_poke_63 : decode cX6_poke 63 = .ok (.ifCond .eq 4, 3) := by decide +kernel
theorem dX6_poke_66 : decode cX6_poke 66 = .ok (.return_, 1) := by decide +kernel
theorem dX6_poke_67 : decode cX6_poke 67 = .ok (.aload_n 0, 1) := by decide +kernel
theorem dX6_poke_68 : decode cX6_poke 68 = .ok (.getfield 19, 3) := by decide +kernel
theorem dX6_poke_71 : decode cX6_poke 71 = .ok (.bipush 8, 2) := by decide +kernel
theorem dX6_poke_73 : decode cX6_poke 73 = .ok (.iload_n 1, 1) := by decide +kernel
theorem dX6_poke_74 : decode cX6_poke 74 = .ok (.imul, 1) := by decide +kernel
theorem dX6_poke_75 : decode cX6_poke 75 = .ok (.iload_n 2, 1) := by decide +kernel
theorem dX6_poke_76 : decode cX6_poke 76 = .ok (.iadd, 1) := by decide +kernel
theorem dX6_poke_77 : decode cX6_poke 77 = .ok (.dup2, 1) := by decide +kernel
theorem dX6_poke_78 : decode cX6_poke 78 = .ok (.iaload, 1) := by decide +kernel
theorem dX6_poke_79 : decode cX6_poke 79 = .ok (.iload_n 3, 1) := by decide +kernel
theorem dX6_poke_80 : decode cX6_poke 80 = .ok (.ixor, 1) := by decide +kernel
theorem dX6_poke_81 : decode cX6_poke 81 = .ok (.iastore, 1) := by decide +kernel
theorem dX6_poke_82 : decode cX6_poke 82 = .ok (.return_, 1) := by decide +kernel
theorem dX6_verify_0 : decode cX6_verify 0 = .ok (.aload_n 0, 1) := by decide +kernel
theorem dX6_verify_1 : decode cX6_verify 1 = .ok (.iconst 0, 1) := by decide +kernel
theorem dX6_verify_2 : decode cX6_verify 2 = .ok (.putfield 56, 3) := by decide +kernel
theorem dX6_verify_5 : decode cX6_verify 5 = .ok (.iconst 0, 1) := by decide +kernel
theorem dX6_verify_6 : decode cX6_verify 6 = .ok (.istore_n 1, 1) := by decide +kernel
theorem dX6_verify_7 : decode cX6_verify 7 = .ok (.iload_n 1, 1) := by decide +kernel
theorem dX6_verify_8 : decode cX6_verify 8 = .ok (.aload_n 0, 1) := by decide +kernel
theorem dX6_verify_9 : decode cX6_verify 9 = .ok (.getfield 60, 3) := by decide +kernel
theorem dX6_verify_12 : decode cX6_verify 12 = .ok (.if_icmp .ge 34, 3) := by decide +kernel
theorem dX6_verify_15 : decode cX6_verify 15 = .ok (.aload_n 0, 1) := by decide +kernel
theorem dX6_verify_16 : decode cX6_verify 16 = .ok (.getfield 31, 3) := by decide +kernel
theorem dX6_verify_19 : decode cX6_verify 19 = .ok (.iload_n 1, 1) := by decide +kernel
theorem dX6_verify_20 : decode cX6_verify 20 = .ok (.baload, 1) := by decide +kernel
theorem dX6_verify_21 : decode cX6_verify 21 = .ok (.ifCond .ne 19, 3) := by decide +kernel
theorem dX6_verify_24 : decode cX6_verify 24 = .ok (.aload_n 0, 1) := by decide +kernel
theorem dX6_verify_25 : decode cX6_verify 25 = .ok (.iload_n 1, 1) := by decide +kernel
theorem dX6_verify_26 : decode cX6_verify 26 = .ok (.invokevirtual 77, 3) := by decide +kernel
theorem dX6_verify_29 : decode cX6_verify 29 = .ok (.aload_n 0, 1) := by decide +kernel
theorem dX6_verify_30 : decode cX6_verify 30 = .ok (.getfield 28, 3) := by decide +kernel
theorem dX6_verify_33 : decode cX6_verify 33 = .ok (.iload_n 1, 1) := by decide +kernel
theorem dX6_verify_34 : decode cX6_verify 34 = .ok (.iaload, 1) := by decide +kernel
theorem dX6_verify_35 : decode cX6_verify 35 = .ok (.if_icmp .eq 5, 3) := by decide +kernel
theorem dX6_verify_38 : decode cX6_verify 38 = .ok (.iload_n 1, 1) := by decide +kernel
theorem dX6_verify_39 : decode cX6_verify 39 = .ok (.ireturn, 1) := by decide +kernel
theorem dX6_verify_40 : decode cX6_verify 40 = .ok (.iinc 1 1, 3) := by decide +kernel
theorem dX6_verify_43 : decode cX6_verify 43 = .ok (.goto (-36), 3) := by decide +kernel
theorem dX6_verify_46 : decode cX6_verify 46 = .ok (.iconst (-1), 1) := by decide +kernel
theorem dX6_verify_47 : decode cX6_verify 47 = .ok (.ireturn, 1) := by decide +kernel
theorem dX6_count_0 : decode cX6_count 0 = .ok (.aload_n 0, 1) := by decide +kernel
theorem dX6_count_1 : decode cX6_count 1 = .ok (.iload_n 1, 1) := by decide +kernel
theorem dX6_count_2 : decode cX6_count 2 = .ok (.iconst 0, 1) := by decide +kernel
theorem dX6_count_3 : decode cX6_count 3 = .ok (.iconst 4, 1) := by decide +kernel
theorem dX6_count_4 : decode cX6_count 4 = .ok (.invokestatic 63, 3) := by decide +kernel
theorem dX6_count_7 : decode cX6_count 7 = .ok (.ifCond .ne 7, 3) := by decide +kernel
theorem dX6_count_10 : decode cX6_count 10 = .ok (.iconst 1, 1) := by decide +kernel
theorem dX6_count_11 : decode cX6_count 11 = .ok (.goto 4, 3) := by decide +kernel
theorem dX6_count_14 : decode cX6_count 14 = .ok (.iconst 0, 1) := by decide +kernel
theorem dX6_count_15 : decode cX6_count 15 = .ok (.iconst 0, 1) := by decide +kernel
theorem dX6_count_16 : decode cX6_count 16 = .ok (.iconst 0, 1) := by decide +kernel
theorem dX6_count_17 : decode cX6_count 17 = .ok (.invokevirtual 73, 3) := by decide +kernel
theorem dX6_count_20 : decode cX6_count 20 = .ok (.ifCond .eq 5, 3) := by decide +kernel
theorem dX6_count_23 : decode cX6_count 23 = .ok (.iconst 0, 1) := by decide +kernel
theorem dX6_count_24 : decode cX6_count 24 = .ok (.ireturn, 1) := by decide +kernel
theorem dX6_count_25 : decode cX6_count 25 = .ok (.iconst 0, 1) := by decide +kernel
theorem dX6_count_26 : decode cX6_count 26 = .ok (.istore_n 2, 1) := by decide +kernel
theorem dX6_count_27 : decode cX6_count 27 = .ok (.iconst 0, 1) := by decide +kernel
theorem dX6_count_28 : decode cX6_count 28 = .ok (.istore_n 3, 1) := by decide +kernel
theorem dX6_count_29 : decode cX6_count 29 = .ok (.iload_n 3, 1) := by decide +kernel
theorem dX6_count_30 : decode cX6_count 30 = .ok (.aload_n 0, 1) := by decide +kernel
theorem dX6_count_31 : decode cX6_count 31 = .ok (.getfield 60, 3) := by decide +kernel
theorem dX6_count_34 : decode cX6_count 34 = .ok (.if_icmp .ge 26, 3) := by decide +kernel
theorem dX6_count_37 : decode cX6_count 37 = .ok (.iload_n 2, 1) := by decide +kernel
theorem dX6_count_38 : decode cX6_count 38 = .ok (.aload_n 0, 1) := by decide +kernel
theorem dX6_count_39 : decode cX6_count 39 = .ok (.getfield 31, 3) := by decide +kernel
theorem dX6_count_42 : decode cX6_count 42 = .ok (.iload_n 3, 1) := by decide +kernel
theorem dX6_count_43 : decode cX6_count 43 = .ok (.baload, 1) := by decide +kernel
theorem dX6_count_44 : decode cX6_count 44 = .ok (.ifCond .eq 7, 3) := by decide +kernel
theorem dX6_count_47 : decode cX6_count 47 = .ok (.iconst 0, 1) := by decide +kernel
theorem dX6_count_48 : decode cX6_count 48 = .ok (.goto 4, 3) := by decide +kernel
theorem dX6_count_51 : decode cX6_count 51 = .ok (.iconst 1, 1) := by decide +kernel
theorem dX6_count_52 : decode cX6_count 52 = .ok (.iadd, 1) := by decide +kernel
theorem dX6_count_53 : decode cX6_count 53 = .ok (.istore_n 2, 1) := by decide +kernel
theorem dX6_count_54 : decode cX6_count 54 = .ok (.iinc 3 1, 3) := by decide +kernel
theorem dX6_count_57 : decode cX6_count 57 = .ok (.goto (-28), 3) := by decide +kernel
theorem dX6_count_60 : decode cX6_count 60 = .ok (.iload_n 1, 1) := by decide +kernel
theorem dX6_count_61 : decode cX6_count 61 = .ok (.ifCond .ne 10, 3) := by decide +kernel
theorem dX6_count_64 : decode cX6_count 64 = .ok (.aload_n 0, 1) := by decide +kernel
theorem dX6_count_65 : decode cX6_count 65 = .ok (.getfield 60, 3) := by decide +kernel
theorem dX6_count_68 : decode cX6_count 68 = .ok (.goto 40, 3) := by decide +kernel
theorem dX6_count_71 : decode cX6_count 71 = .ok (.iload_n 1, 1) := by decide +kernel
theorem dX6_count_72 : decode cX6_count 72 = .ok (.iconst 1, 1) := by decide +kernel
theorem dX6_count_73 : decode cX6_count 73 = .ok (.if_icmp .ne 7, 3) := by decide +kernel
theorem dX6_count_76 : decode cX6_count 76 = .ok (.iload_n 2, 1) := by decide +kernel
theorem dX6_count_77 : decode cX6_count 77 = .ok (.goto 31, 3) := by decide +kernel
theorem dX6_count_80 : decode cX6_count 80 = .ok (.iload_n 1, 1) := by decide +kernel
theorem dX6_count_81 : decode cX6_count 81 = .ok (.iconst 2, 1) := by decide +kernel
theorem dX6_count_82 : decode cX6_count 82 = .ok (.if_icmp .ne 10, 3) := by decide +kernel
theorem dX6_count_85 : decode cX6_count 85 = .ok (.aload_n 0, 1) := by decide +kernel
theorem dX6_count_86 : decode cX6_count 86 = .ok (.getfield 81, 3) := by decide +kernel
theorem dX6_count_89 : decode cX6_count 89 = .ok (.goto 19, 3) := by decide +kernel
theorem dX6_count_92 : decode cX6_count 92 = .ok (.iload_n 1, 1) := by decide +kernel
theorem dX6_count_93 : decode cX6_count 93 = .ok (.iconst 3, 1) := by decide +kernel
theorem dX6_count_94 : decode cX6_count 94 = .ok (.if_icmp .ne 10, 3) := by decide +kernel
theorem dX6_count_97 : decode cX6_count 97 = .ok (.aload_n 0, 1) := by decide +kernel
theorem dX6_count_98 : decode cX6_count 98 = .ok (.getfield 120, 3) := by decide +kernel
theorem dX6_count_101 : decode cX6_count 101 = .ok (.goto 7, 3) := by decide +kernel
theorem dX6_count_104 : decode cX6_count 104 = .ok (.aload_n 0, 1) := by decide +kernel
theorem dX6_count_105 : decode cX6_count 105 = .ok (.getfield 123, 3) := by decide +kernel
theorem dX6_count_108 : decode cX6_count 108 = .ok (.ireturn, 1) := by decide +kernel
end
section
/-! the reference in numbers: N (0 slots, 1 marks, 2 certificates, 3 rows, 4 thrown); F (0 source, 1 clock, 2 length, 3 unit, 4 incident, 5 a mark's source, 6 certified, 7 told); B (0 dropped, 1 held, 2 rights); G (0 kept, 1 the sum then, 2 bytes); D (0 a mark's offset) -/
def inR (v lo hi : Int32) : Bool := decide (lo ≤ v ∧ v ≤ hi)
theorem inR_t {v lo hi : Int32} (h1 : ¬ v < lo) (h2 : ¬ hi < v) : inR v lo hi = true := by
  unfold inR
  rw [Int32.lt_iff_toInt_lt] at h1 h2
  rw [decide_eq_true_iff, Int32.le_iff_toInt_le, Int32.le_iff_toInt_le]
  omega
theorem inR_f1 {v lo hi : Int32} (h1 : v < lo) : inR v lo hi = false := by
  unfold inR
  rw [Int32.lt_iff_toInt_lt] at h1
  rw [decide_eq_false_iff_not, Int32.le_iff_toInt_le, Int32.le_iff_toInt_le]
  omega
theorem inR_f2 {v lo hi : Int32} (h1 : hi < v) : inR v lo hi = false := by
  unfold inR
  rw [Int32.lt_iff_toInt_lt] at h1
  rw [decide_eq_false_iff_not, Int32.le_iff_toInt_le, Int32.le_iff_toInt_le]
  omega
/-- an int that is a slot's number -/
def isS (n : Nat) (p : Int32) : Bool := decide (0 ≤ p.toInt ∧ p.toInt < (n : Int))
theorem isS_eq {n : Nat} (hn : n ≤ 1000) (p : Int32) : inR p 0 (iI ((n : Int) - 1)) = isS n p := by
  unfold inR isS
  have h1 : (iI ((n : Int) - 1)).toInt = (n : Int) - 1 := iI_toInt (by omega) (by omega)
  have h2 : (0 : Int32).toInt = 0 := by decide
  rw [decide_eq_decide, Int32.le_iff_toInt_le, Int32.le_iff_toInt_le, h1, h2]
  omega
theorem isS_of {n : Nat} (hn : n ≤ 1000) {p : Int32} (h : isS n p = true) : ∃ j : Nat, j < n ∧ p = nI j := by
  unfold isS at h
  rw [decide_eq_true_iff] at h
  refine ⟨p.toInt.toNat, by omega, ?_⟩
  rw [nI_iI, Int.toNat_of_nonneg h.1]
  exact iI_self p
theorem isS_nI {n j : Nat} (hj : j < 2147483648) : isS n (nI j) = decide (j < n) := by
  unfold isS
  rw [nI_toInt (by omega), decide_eq_decide]
  omega
def m_sm (g : Nat → Int32) (s : Int32) : Nat → Int32
  | 0 => s
  | k + 1 => c_rot (m_sm g s k ^^^ g k)
/-- a source's first mark among the first k, or -1 -/
def m_scan (u : c_St) (s : Nat) : Nat → Int
  | 0 => -1
  | k + 1 => if m_scan u s k = -1 then (if cu_F u 5 k = s then (k : Int) else -1) else m_scan u s k
def m_first (u : c_St) (s : Nat) : Int := m_scan u s (cu_N u 1)
theorem m_scan_b (u : c_St) (s : Nat) : ∀ k, -1 ≤ m_scan u s k ∧ m_scan u s k < (k : Int)
  | 0 => by unfold m_scan; omega
  | k + 1 => by
    have := m_scan_b u s k
    unfold m_scan
    split
    · split <;> omega
    · omega
theorem m_scan_n {u : c_St} {s k : Nat} (h : m_scan u s k = -1) (h2 : cu_F u 5 k ≠ s) : m_scan u s (k + 1) = -1 := by
  unfold m_scan
  rw [if_pos h, if_neg h2]
theorem m_scan_y {u : c_St} {s k : Nat} (h : m_scan u s k = -1) (h2 : cu_F u 5 k = s) : ∀ d, m_scan u s (k + 1 + d) = (k : Int)
  | 0 => by
    show m_scan u s (k + 1) = _
    unfold m_scan
    rw [if_pos h, if_pos h2]
  | d + 1 => by
    have h3 := m_scan_y h h2 d
    show (if m_scan u s (k + 1 + d) = -1 then _ else m_scan u s (k + 1 + d)) = _
    rw [h3, if_neg (by omega)]
def m_off (u : c_St) (s : Nat) : Int := if m_first u s < 0 then 0 else cu_D u 0 (m_first u s).toNat
def m_beg (u : c_St) (n : Nat) : Int := (cu_F u 1 n : Int) + m_off u (cu_F u 0 n)
def m_lt (u : c_St) (x y : Nat) : Bool := decide (m_beg u x < m_beg u y ∨ (m_beg u x = m_beg u y ∧ (cu_F u 0 x < cu_F u 0 y ∨ (cu_F u 0 x = cu_F u 0 y ∧ x < y))))
def m_in (b : Int) (t1 t2 : Int32) (k : Nat) : Bool := decide (t1.toInt ≤ b + (k : Int) ∧ b + (k : Int) < t2.toInt)
theorem m_in_t {b : Int} {t1 t2 : Int32} {k : Nat} (h1 : t1.toInt ≤ b + (k : Int)) (h2 : b + (k : Int) < t2.toInt) : m_in b t1 t2 k = true := decide_eq_true ⟨h1, h2⟩
theorem m_in_f1 {b : Int} {t1 t2 : Int32} {k : Nat} (h1 : b + (k : Int) < t1.toInt) : m_in b t1 t2 k = false := decide_eq_false (by omega)
theorem m_in_f2 {b : Int} {t1 t2 : Int32} {k : Nat} (h1 : t2.toInt ≤ b + (k : Int)) : m_in b t1 t2 k = false := decide_eq_false (by omega)
def m_wi (b : Int) (t1 t2 : Int32) : Nat → Nat
  | 0 => 0
  | k + 1 => m_wi b t1 t2 k + (if m_in b t1 t2 k = true then 1 else 0)
theorem m_wi_t {b : Int} {t1 t2 : Int32} {k : Nat} (h : m_in b t1 t2 k = true) : nI (m_wi b t1 t2 k) + 1 = nI (m_wi b t1 t2 (k + 1)) := by
  show _ = nI (m_wi b t1 t2 k + _)
  rw [if_pos h]
  exact nI_1 _
theorem m_wi_f {b : Int} {t1 t2 : Int32} {k : Nat} (h : m_in b t1 t2 k = false) : nI (m_wi b t1 t2 k) + 0 = nI (m_wi b t1 t2 (k + 1)) := by
  show _ = nI (m_wi b t1 t2 k + _)
  rw [if_neg (by rw [h]; decide)]
  exact nI_add _ 0
theorem m_wi_le (b : Int) (t1 t2 : Int32) : ∀ k, m_wi b t1 t2 k ≤ k
  | 0 => Nat.le_refl _
  | k + 1 => by
    have := m_wi_le b t1 t2 k
    show m_wi b t1 t2 k + _ ≤ _
    split <;> omega
def m_fit (u : c_St) (n : Nat) (t1 t2 pu pi : Int32) : Bool := !cu_B u 0 n && (decide (pu < 0) || decide (nI (cu_F u 3 n) = pu)) && (decide (pi < 0) || decide (nI (cu_F u 4 n) = pi)) && decide (0 < m_wi (m_beg u n) t1 t2 (cu_F u 2 n))
/-- how many that fit are ahead of s among the first k -/
def m_ah (u : c_St) (t1 t2 pu pi : Int32) (s : Nat) : Nat → Nat
  | 0 => 0
  | k + 1 => m_ah u t1 t2 pu pi s k + (if (k ≠ s ∧ m_lt u k s = true) ∧ m_fit u k t1 t2 pu pi = true then 1 else 0)
theorem m_ah_t {u : c_St} {t1 t2 pu pi : Int32} {s k : Nat} (h1 : k ≠ s) (h2 : m_lt u k s = true) (h3 : m_fit u k t1 t2 pu pi = true) : nI (m_ah u t1 t2 pu pi s k) + 1 = nI (m_ah u t1 t2 pu pi s (k + 1)) := by
  show _ = nI (m_ah u t1 t2 pu pi s k + _)
  rw [if_pos ⟨⟨h1, h2⟩, h3⟩]
  exact nI_1 _
theorem m_ah_f {u : c_St} {t1 t2 pu pi : Int32} {s k : Nat} (h : ¬ ((k ≠ s ∧ m_lt u k s = true) ∧ m_fit u k t1 t2 pu pi = true)) : nI (m_ah u t1 t2 pu pi s k) + 0 = nI (m_ah u t1 t2 pu pi s (k + 1)) := by
  show _ = nI (m_ah u t1 t2 pu pi s k + _)
  rw [if_neg h]
  exact nI_add _ 0
theorem m_ah_le (u : c_St) (t1 t2 pu pi : Int32) (s : Nat) : ∀ k, m_ah u t1 t2 pu pi s k ≤ k
  | 0 => Nat.le_refl _
  | k + 1 => by
    have := m_ah_le u t1 t2 pu pi s k
    show m_ah u t1 t2 pu pi s k + _ ≤ _
    split <;> omega
/-- the first of the first k slots that fits and has many ahead, or -1 -/
def m_fnd (u : c_St) (t1 t2 pu pi : Int32) (q : Nat) : Nat → Int
  | 0 => -1
  | s + 1 => if m_fnd u t1 t2 pu pi q s = -1 then (if m_fit u s t1 t2 pu pi = true ∧ m_ah u t1 t2 pu pi s (cu_N u 0) = q then (s : Int) else -1) else m_fnd u t1 t2 pu pi q s
theorem m_fnd_n {u : c_St} {t1 t2 pu pi : Int32} {q s : Nat} (h : m_fnd u t1 t2 pu pi q s = -1) (h2 : ¬ (m_fit u s t1 t2 pu pi = true ∧ m_ah u t1 t2 pu pi s (cu_N u 0) = q)) : m_fnd u t1 t2 pu pi q (s + 1) = -1 := by
  unfold m_fnd
  rw [if_pos h, if_neg h2]
theorem m_fnd_y {u : c_St} {t1 t2 pu pi : Int32} {q s : Nat} (h : m_fnd u t1 t2 pu pi q s = -1) (h2 : m_fit u s t1 t2 pu pi = true ∧ m_ah u t1 t2 pu pi s (cu_N u 0) = q) : ∀ d, m_fnd u t1 t2 pu pi q (s + 1 + d) = (s : Int)
  | 0 => by
    show m_fnd u t1 t2 pu pi q (s + 1) = _
    unfold m_fnd
    rw [if_pos h, if_pos h2]
  | d + 1 => by
    have h3 := m_fnd_y h h2 d
    show (if m_fnd u t1 t2 pu pi q (s + 1 + d) = -1 then _ else m_fnd u t1 t2 pu pi q (s + 1 + d)) = _
    rw [h3, if_neg (by omega)]
def m_sw (g : Nat → Int32) (b : Int) (t1 t2 : Int32) (s : Int32) : Nat → Int32
  | 0 => s
  | k + 1 => if m_in b t1 t2 k = true then c_rot (m_sw g b t1 t2 s k ^^^ g k) else m_sw g b t1 t2 s k
theorem m_sw_t {g : Nat → Int32} {b : Int} {t1 t2 s : Int32} {k : Nat} (h : m_in b t1 t2 k = true) : c_rot (m_sw g b t1 t2 s k ^^^ g k) = m_sw g b t1 t2 s (k + 1) := by
  show _ = (if m_in b t1 t2 k = true then _ else _)
  rw [if_pos h]
theorem m_sw_f {g : Nat → Int32} {b : Int} {t1 t2 s : Int32} {k : Nat} (h : m_in b t1 t2 k = false) : m_sw g b t1 t2 s k = m_sw g b t1 t2 s (k + 1) := by
  show _ = (if m_in b t1 t2 k = true then _ else _)
  rw [if_neg (by rw [h]; decide)]
def m_code (b1 b2 b3 : Bool) : Nat := if b1 = true then 1 else if b2 = true then 2 else if b3 = true then 3 else 0
/-- what always holds of the reference's numbers -/
def m_ok (u : c_St) : Prop := cu_N u 0 ≤ 200 ∧ cu_N u 1 ≤ 60 ∧
  (∀ n, n < cu_N u 0 → cu_F u 0 n < 10 ∧ cu_F u 1 n ≤ 9999999 ∧ 1 ≤ cu_F u 2 n ∧ cu_F u 2 n ≤ 8 ∧ cu_F u 3 n < 100 ∧ cu_F u 4 n < 50) ∧
  (∀ j, j < cu_N u 1 → cu_F u 5 j < 10 ∧ -9999999 ≤ cu_D u 0 j ∧ cu_D u 0 j ≤ 9999999)
theorem m_first_b (u : c_St) (s : Nat) : -1 ≤ m_first u s ∧ m_first u s < (cu_N u 1 : Int) := m_scan_b u s _
theorem m_off_b {u : c_St} (h : m_ok u) (s : Nat) : -9999999 ≤ m_off u s ∧ m_off u s ≤ 9999999 := by
  have h1 := m_first_b u s
  unfold m_off
  split
  · omega
  · exact (h.2.2.2 (m_first u s).toNat (by omega)).2
theorem m_beg_b {u : c_St} (h : m_ok u) {n : Nat} (hn : n < cu_N u 0) : -9999999 ≤ m_beg u n ∧ m_beg u n ≤ 19999998 := by
  have h1 := h.2.2.1 n hn
  have h2 := m_off_b h (cu_F u 0 n)
  unfold m_beg
  omega

set_option maxHeartbeats 4000000 in
set_option maxRecDepth 100000 in
theorem c_X6_in (l : Launch) (dC : Nat → ClassId) (dI : Nat → Nat → Nat) (a : Nat → Nat) (k : c_K) (u : c_St) (v lo hi : Int32) : Met l yX6_in wsX6_in ({ frames := 0, cells := 0, slots := 0, locals := 0 }) (va_Pc [.int v, .int lo, .int hi] (w_ro (dC, dI) vwCl (wR a k u) (tC k))) (vp_Si (fun r => r = bI (inR v lo hi))) 0 0 (fun _ => False) := by
  refine Met.ofW (cc := cX6_in) (maxL := 3) (ret := (some .boolean)) (by decide) rfl ?_
  intro p e s m args below meth c s₁ B hml hv
  obtain ⟨rfl, hP, hK⟩ := hv
  have hx := B.exec
  have hb := B.bytes
  have hr := B.returns
  have hts := atoms_spec (ws := wsX6_in) B.pre
  have htg : ∀ w ∈ wG, w.before _ s = true := fun w h => hts w (List.mem_cons_of_mem _ h)
  have hown : s.vm.findClass RX6 = some m.cls := findClass_of_methodNamed B.named
  have hlocks := B.notSynchronized
  have hl := lv_entry ([.int v, .int lo, .int hi]) (n := 3) (Nat.le_of_ble_eq_true rfl)
  rw [lg_entry_eq]
  generalize (lg_sl ([.int v, .int lo, .int hi]) ++ List.replicate (3 - (lg_sl ([.int v, .int lo, .int hi])).length) Slot.unset).toArray = ls at hl ⊢
  have hl : lv_has ls 3 [(0, .int v), (1, .int lo), (2, .int hi)] := hl
  refine lv_iload_n hx hb dX6_in_0 rfl (lv_at hl 0 rfl) ?_
  refine lv_iload_n hx hb dX6_in_1 rfl (lv_at hl 1 rfl) ?_
  refine lv_icmp_lt (tgt := 14) hx hb dX6_in_2 (by decide) (fun c_2 => ?_) (fun c_2 => ?_)
  · refine lv_iconst (v := 0) hx hb dX6_in_14 (by decide) ?_
    exact W.zret (v := bI false) hx hb hr (bI_narw _) (fun t9 ht9 hW9 => ⟨_, rfl, congrArg bI (inR_f1 c_2).symm, ht9⟩) (fun _ h => by cases h) dX6_in_15
  · refine lv_iload_n hx hb dX6_in_5 rfl (lv_at hl 0 rfl) ?_
    refine lv_iload_n hx hb dX6_in_6 rfl (lv_at hl 2 rfl) ?_
    refine lv_icmp_gt (tgt := 14) hx hb dX6_in_7 (by decide) (fun c_7 => ?_) (fun c_7 => ?_)
    · refine lv_iconst (v := 0) hx hb dX6_in_14 (by decide) ?_
      exact W.zret (v := bI false) hx hb hr (bI_narw _) (fun t9 ht9 hW9 => ⟨_, rfl, congrArg bI (inR_f2 c_7).symm, ht9⟩) (fun _ h => by cases h) dX6_in_15
    · refine lv_iconst (v := 1) hx hb dX6_in_10 (by decide) ?_
      refine lv_goto (tgt := 15) hx hb dX6_in_11 (by decide) ?_
      exact W.zret (v := bI true) hx hb hr (bI_narw _) (fun t9 ht9 hW9 => ⟨_, rfl, congrArg bI (inR_t c_2 c_7).symm, ht9⟩) (fun _ h => by cases h) dX6_in_15
set_option maxHeartbeats 4000000 in
set_option maxRecDepth 100000 in
theorem c_X6_isSlot (l : Launch) (dC : Nat → ClassId) (dI : Nat → Nat → Nat) (a : Nat → Nat) (k : c_K) (u : c_St) (hN : cu_N u 0 ≤ 200) (pv : Int32) : Met l yX6_isSlot wsX6_isSlot ({ frames := 1, cells := 0, slots := 0, locals := 22 }) (va_Pc [.ref (a 0), .int pv] (w_ro (dC, dI) vwCl (wR a k u) (tC k))) (vp_Si (fun r => r = bI (isS (cu_N u 0) pv))) 0 0 (fun _ => False) := by
  refine Met.ofW (cc := cX6_isSlot) (maxL := 2) (ret := (some .boolean)) (by decide) rfl ?_
  intro p e s m args below meth c s₁ B hml hv
  obtain ⟨rfl, hP, hK⟩ := hv
  have hx := B.exec
  have hb := B.bytes
  have hr := B.returns
  have hts := atoms_spec (ws := wsX6_isSlot) B.pre
  have htg : ∀ w ∈ wG, w.before _ s = true := fun w h => hts w (List.mem_cons_of_mem _ h)
  have hown : s.vm.findClass RX6 = some m.cls := findClass_of_methodNamed B.named
  have hlocks := B.notSynchronized
  have hl := lv_entry ([.ref (a 0), .int pv]) (n := 2) (Nat.le_of_ble_eq_true rfl)
  rw [lg_entry_eq]
  generalize (lg_sl ([.ref (a 0), .int pv]) ++ List.replicate (2 - (lg_sl ([.ref (a 0), .int pv])).length) Slot.unset).toArray = ls at hl ⊢
  have hl : lv_has ls 2 [(0, .ref (a 0)), (1, .int pv)] := hl
  refine lv_iload_n hx hb dX6_isSlot_0 rfl (lv_at hl 1 rfl) ?_
  refine lv_iconst (v := 0) hx hb dX6_isSlot_1 (by decide) ?_
  refine lv_aload_n hx hb dX6_isSlot_2 rfl (lv_at hl 0 rfl) ?_
  refine va_get (D := (dC, dI)) (ci := 6) (v := .int (nI (cu_N u 0))) (C := RX6) (T := TX6) (N := 20) hx hb htg inX6 hown hK hP 0 (wR_g0 a k _) rfl 1 (by decide) (htg _ q_582) (fun _ h9 => h9) rfl dX6_isSlot_3 ?_
  refine lv_iconst (v := 1) hx hb dX6_isSlot_6 (by decide) ?_
  refine lv_isub hx hb dX6_isSlot_7 ?_
  refine wtopi (y := iI ((cu_N u 0 : Int) - 1)) (show nI (cu_N u 0) - 1 = iI ((cu_N u 0 : Int) - 1) from by rw [nI_iI]; exact iI_sub _ 1) ?_
  refine vp_callSi (W.runS (As := [.int pv, .int 0, .int (iI ((cu_N u 0 : Int) - 1))]) (rest := []) ⟨hx, hb, hml, hown, hts⟩ (c_X6_in l dC dI a k u pv 0 (iI ((cu_N u 0 : Int) - 1))) (cwS 3 hts (wG_S wG_c q_650 q_651 q_7 q_652) rfl rfl rfl (by decide +kernel) ⟨Nat.le_of_ble_eq_true rfl, Nat.le_of_ble_eq_true rfl⟩) (w_roS hK hP) rfl rfl hl.1 rfl (lv_room (Nat.le_of_ble_eq_true rfl)) dX6_isSlot_8 ⟨Nat.le_of_ble_eq_true rfl, Nat.le_of_ble_eq_true rfl⟩) (fun r_1 hr_1 => ?_)
  subst hr_1
  exact W.zret (v := bI (inR pv 0 (iI ((cu_N u 0 : Int) - 1)))) hx hb hr (bI_narw _) (fun t9 ht9 hW9 => ⟨_, rfl, (congrArg bI (isS_eq (by omega) pv)), ht9⟩) (fun _ h => by cases h) dX6_isSlot_11
set_option maxHeartbeats 4000000 in
set_option maxRecDepth 100000 in
theorem c_X6_with (l : Launch) (dC : Nat → ClassId) (dI : Nat → Nat → Nat) (a : Nat → Nat) (k : c_K) (u : c_St) (s0 b : Int32) : Met l yX6_with wsX6_with ({ frames := 0, cells := 0, slots := 0, locals := 0 }) (va_Pc [.int s0, .int b] (w_ro (dC, dI) vwCl (wR a k u) (tC k))) (vp_Si (fun r => r = c_rot (s0 ^^^ b))) 0 0 (fun _ => False) := by
  refine Met.ofW (cc := cX6_with) (maxL := 3) (ret := (some .int)) (by decide) rfl ?_
  intro p e s m args below meth c s₁ B hml hv
  obtain ⟨rfl, hP, hK⟩ := hv
  have hx := B.exec
  have hb := B.bytes
  have hr := B.returns
  have hts := atoms_spec (ws := wsX6_with) B.pre
  have htg : ∀ w ∈ wG, w.before _ s = true := fun w h => hts w (List.mem_cons_of_mem _ h)
  have hown : s.vm.findClass RX6 = some m.cls := findClass_of_methodNamed B.named
  have hlocks := B.notSynchronized
  have hl := lv_entry ([.int s0, .int b]) (n := 3) (Nat.le_of_ble_eq_true rfl)
  rw [lg_entry_eq]
  generalize (lg_sl ([.int s0, .int b]) ++ List.replicate (3 - (lg_sl ([.int s0, .int b])).length) Slot.unset).toArray = ls at hl ⊢
  have hl : lv_has ls 3 [(0, .int s0), (1, .int b)] := hl
  refine lv_iload_n hx hb dX6_with_0 rfl (lv_at hl 0 rfl) ?_
  refine lv_iload_n hx hb dX6_with_1 rfl (lv_at hl 1 rfl) ?_
  refine lv_ixor hx hb dX6_with_2 ?_
  refine lv_istore_n (lv' := [(2, .int (s0 ^^^ b)), (0, .int s0), (1, .int b)]) hx hb dX6_with_3 rfl hl (by decide) rfl (fun ls hl => ?_)
  refine lv_iload_n hx hb dX6_with_4 rfl (lv_at hl 0 rfl) ?_
  refine lv_iconst (v := 5) hx hb dX6_with_5 (by decide) ?_
  refine lv_ishl hx hb dX6_with_6 ?_
  refine lv_iload_n hx hb dX6_with_7 rfl (lv_at hl 0 rfl) ?_
  refine lv_bipush (v := 27) hx hb dX6_with_8 (by decide) ?_
  refine lv_iushr hx hb dX6_with_10 rfl ?_
  refine lv_ior hx hb dX6_with_11 ?_
  refine lv_ldc (v := (-2048144789)) hx hb hown (htg _ q_665) dX6_with_12 ?_
  refine lv_imul hx hb dX6_with_14 ?_
  exact W.iret (v := (((s0 ^^^ b) <<< (5 &&& 31)) ||| (((s0 ^^^ b).toUInt32 >>> ((27 : Int32).toUInt32 &&& Int32.toUInt32 31)).toInt32)) * (-2048144789)) hx hb hr (fun t9 ht9 hW9 => ⟨_, rfl, rfl, ht9⟩) (fun _ h => by cases h) dX6_with_15
set_option maxHeartbeats 4000000 in
set_option maxRecDepth 100000 in
theorem c_X6_sumOf (l : Launch) (dC : Nat → ClassId) (dI : Nat → Nat → Nat) (a : Nat → Nat) (k : c_K) (u : c_St) (n : Nat) (hn : n < 200) (h8 : cu_F u 2 n ≤ 8) : Met l yX6_sumOf wsX6_sumOf ({ frames := 1, cells := 0, slots := 0, locals := 22 }) (va_Pc [.ref (a 0), .int (nI n)] (w_ro (dC, dI) vwCl (wR a k u) (tC k))) (vp_Si (fun r => r = m_sm (fun i => cu_G u 2 (8 * n + i)) 0 (cu_F u 2 n))) 0 0 (fun _ => False) := by
  refine Met.ofW (cc := cX6_sumOf) (maxL := 4) (ret := (some .int)) (by decide) rfl ?_
  intro p e s m args below meth c s₁ B hml hv
  obtain ⟨rfl, hP, hK⟩ := hv
  have hx := B.exec
  have hb := B.bytes
  have hr := B.returns
  have hts := atoms_spec (ws := wsX6_sumOf) B.pre
  have htg : ∀ w ∈ wG, w.before _ s = true := fun w h => hts w (List.mem_cons_of_mem _ h)
  have hown : s.vm.findClass RX6 = some m.cls := findClass_of_methodNamed B.named
  have hlocks := B.notSynchronized
  have hl := lv_entry ([.ref (a 0), .int (nI n)]) (n := 4) (Nat.le_of_ble_eq_true rfl)
  rw [lg_entry_eq]
  generalize (lg_sl ([.ref (a 0), .int (nI n)]) ++ List.replicate (4 - (lg_sl ([.ref (a 0), .int (nI n)])).length) Slot.unset).toArray = ls at hl ⊢
  have hl : lv_has ls 4 [(0, .ref (a 0)), (1, .int (nI n))] := hl
  refine lv_iconst (v := 0) hx hb dX6_sumOf_0 (by decide) ?_
  refine lv_istore_n (lv' := [(2, .int 0), (0, .ref (a 0)), (1, .int (nI n))]) hx hb dX6_sumOf_1 rfl hl (by decide) rfl (fun ls hl => ?_)
  refine lv_iconst (v := 0) hx hb dX6_sumOf_2 (by decide) ?_
  refine lv_istore_n (lv' := [(3, .int 0), (2, .int 0), (0, .ref (a 0)), (1, .int (nI n))]) hx hb dX6_sumOf_3 rfl hl (by decide) rfl (fun ls hl => ?_)
  refine w_loop (fun j : Nat => cu_F u 2 n - j) (fun j ls => j ≤ cu_F u 2 n ∧ lv_has ls 4 [(0, .ref (a 0)), (1, .int (nI n)), (2, .int (m_sm (fun i => cu_G u 2 (8 * n + i)) 0 j)), (3, .int (nI j))]) ?_ (0) ls ⟨Nat.zero_le _, lv_sub hl [2, 3, 1, 0] rfl⟩
  clear hl
  intro j ls hI ih
  obtain ⟨hI, hl⟩ := hI
  refine lv_iload_n hx hb dX6_sumOf_4 rfl (lv_at hl 3 rfl) ?_
  refine lv_aload_n hx hb dX6_sumOf_5 rfl (lv_at hl 0 rfl) ?_
  refine va_get (D := (dC, dI)) (ci := 6) (v := .ref (a 3)) (C := RX6) (T := TX6) (N := 20) hx hb htg inX6 hown hK hP 0 (wR_g0 a k _) rfl 4 (by decide) (htg _ q_585) (fun _ h9 => h9) rfl dX6_sumOf_6 ?_
  refine lv_iload_n hx hb dX6_sumOf_9 rfl (lv_at hl 1 rfl) ?_
  refine va_iald hx hb hK hP 3 0 (wR_g3 a k _) rfl (vp_in_nI (n := n) (N := 200) (by omega) (by decide)) dX6_sumOf_10 ?_
  refine wtopi (nI (cu_F u 2 n)) (congrArg (fun j9 => nI (cu_F u 2 j9)) (nI_clamp (n := n) (Nat.lt_trans (m := 200) (by omega) (by decide)))) ?_
  refine nb_ge (a := j) (b := (cu_F u 2 n)) (tgt := 36) hx hb (by omega) (by omega) rfl rfl dX6_sumOf_11 (by decide) (fun c_11 => ?_) (fun c_11 => ?_)
  · refine lv_iload_n hx hb dX6_sumOf_36 rfl (lv_at hl 2 rfl) ?_
    exact W.iret (v := m_sm (fun i => cu_G u 2 (8 * n + i)) 0 j) hx hb hr (fun t9 ht9 hW9 => ⟨_, rfl, (by rw [show cu_F u 2 n = j by omega]), ht9⟩) (fun _ h => by cases h) dX6_sumOf_37
  · refine lv_iload_n hx hb dX6_sumOf_14 rfl (lv_at hl 2 rfl) ?_
    refine lv_aload_n hx hb dX6_sumOf_15 rfl (lv_at hl 0 rfl) ?_
    refine va_get (D := (dC, dI)) (ci := 6) (v := .ref (a 14)) (C := RX6) (T := TX6) (N := 20) hx hb htg inX6 hown hK hP 0 (wR_g0 a k _) rfl 5 (by decide) (htg _ q_586) (fun _ h9 => h9) rfl dX6_sumOf_16 ?_
    refine lv_bipush (v := 8) hx hb dX6_sumOf_19 (by decide) ?_
    refine lv_iload_n hx hb dX6_sumOf_21 rfl (lv_at hl 1 rfl) ?_
    refine lv_imul hx hb dX6_sumOf_22 ?_
    refine wtopi (y := nI (8 * n)) (pk_mul 8 n) ?_
    refine lv_iload_n hx hb dX6_sumOf_23 rfl (lv_at hl 3 rfl) ?_
    refine lv_iadd hx hb dX6_sumOf_24 ?_
    refine wtopi (y := nI (8 * n + j)) (nI_add _ _) ?_
    refine va_iald hx hb hK hP 14 0 (wR_g14 a k _) rfl (vp_in_nI (n := (8 * n + j)) (N := 1600) (by omega) (by decide)) dX6_sumOf_25 ?_
    refine wtopi (cu_G u 2 (8 * n + j)) (congrArg (fun j9 => cu_G u 2 j9) (nI_clamp (n := (8 * n + j)) (Nat.lt_trans (m := 1600) (by omega) (by decide)))) ?_
    refine vp_callSi (W.runS (As := [.int (m_sm (fun i => cu_G u 2 (8 * n + i)) 0 j), .int (cu_G u 2 (8 * n + j))]) (rest := []) ⟨hx, hb, hml, hown, hts⟩ (c_X6_with l dC dI a k u (m_sm (fun i => cu_G u 2 (8 * n + i)) 0 j) (cu_G u 2 (8 * n + j))) (cwS 2 hts (wG_S wG_c q_662 q_663 q_7 q_664) rfl rfl rfl (by decide +kernel) ⟨Nat.le_of_ble_eq_true rfl, Nat.le_of_ble_eq_true rfl⟩) (w_roS hK hP) rfl rfl hl.1 rfl (lv_room (Nat.le_of_ble_eq_true rfl)) dX6_sumOf_26 ⟨Nat.le_of_ble_eq_true rfl, Nat.le_of_ble_eq_true rfl⟩) (fun r_1 hr_1 => ?_)
    subst hr_1
    refine lv_istore_n (lv' := [(2, .int (m_sm (fun i => cu_G u 2 (8 * n + i)) 0 (j + 1))), (0, .ref (a 0)), (1, .int (nI n)), (3, .int (nI j))]) hx hb dX6_sumOf_29 rfl hl (by decide) rfl (fun ls hl => ?_)
    refine lv_iinc (v := nI (j + 1)) (lv' := [(3, .int (nI (j + 1))), (2, .int (m_sm (fun i => cu_G u 2 (8 * n + i)) 0 (j + 1))), (0, .ref (a 0)), (1, .int (nI n))]) hx hb dX6_sumOf_30 hl (k := 3) rfl (nI_1 j) (by decide) rfl (fun ls hl => ?_)
    refine lv_goto (tgt := 4) hx hb dX6_sumOf_33 (by decide) ?_
    exact ih (j + 1) ls (by omega) ⟨by omega, lv_sub hl [2, 3, 1, 0] rfl⟩
set_option maxHeartbeats 4000000 in
set_option maxRecDepth 100000 in
theorem c_X6_firstMark (l : Launch) (dC : Nat → ClassId) (dI : Nat → Nat → Nat) (a : Nat → Nat) (k : c_K) (u : c_St) (hM : cu_N u 1 ≤ 60) (sc : Nat) (hs : sc < 10) (hm : ∀ j, j < cu_N u 1 → cu_F u 5 j < 10) : Met l yX6_firstMark wsX6_firstMark ({ frames := 0, cells := 0, slots := 0, locals := 0 }) (va_Pc [.ref (a 0), .int (nI sc)] (w_ro (dC, dI) vwCl (wR a k u) (tC k))) (vp_Si (fun r => r = iI (m_first u sc))) 0 0 (fun _ => False) := by
  refine Met.ofW (cc := cX6_firstMark) (maxL := 3) (ret := (some .int)) (by decide) rfl ?_
  intro p e s m args below meth c s₁ B hml hv
  obtain ⟨rfl, hP, hK⟩ := hv
  have hx := B.exec
  have hb := B.bytes
  have hr := B.returns
  have hts := atoms_spec (ws := wsX6_firstMark) B.pre
  have htg : ∀ w ∈ wG, w.before _ s = true := fun w h => hts w (List.mem_cons_of_mem _ h)
  have hown : s.vm.findClass RX6 = some m.cls := findClass_of_methodNamed B.named
  have hlocks := B.notSynchronized
  have hl := lv_entry ([.ref (a 0), .int (nI sc)]) (n := 3) (Nat.le_of_ble_eq_true rfl)
  rw [lg_entry_eq]
  generalize (lg_sl ([.ref (a 0), .int (nI sc)]) ++ List.replicate (3 - (lg_sl ([.ref (a 0), .int (nI sc)])).length) Slot.unset).toArray = ls at hl ⊢
  have hl : lv_has ls 3 [(0, .ref (a 0)), (1, .int (nI sc))] := hl
  refine lv_iconst (v := 0) hx hb dX6_firstMark_0 (by decide) ?_
  refine lv_istore_n (lv' := [(2, .int 0), (0, .ref (a 0)), (1, .int (nI sc))]) hx hb dX6_firstMark_1 rfl hl (by decide) rfl (fun ls hl => ?_)
  refine w_loop (fun j : Nat => cu_N u 1 - j) (fun j ls => (j ≤ cu_N u 1 ∧ m_scan u sc j = -1) ∧ lv_has ls 3 [(0, .ref (a 0)), (1, .int (nI sc)), (2, .int (nI j))]) ?_ (0) ls ⟨⟨Nat.zero_le _, rfl⟩, lv_sub hl [1, 2, 0] rfl⟩
  clear hl
  intro j ls hI ih
  obtain ⟨hI, hl⟩ := hI
  refine lv_iload_n hx hb dX6_firstMark_2 rfl (lv_at hl 2 rfl) ?_
  refine lv_aload_n hx hb dX6_firstMark_3 rfl (lv_at hl 0 rfl) ?_
  refine va_get (D := (dC, dI)) (ci := 6) (v := .int (nI (cu_N u 1))) (C := RX6) (T := TX6) (N := 20) hx hb htg inX6 hown hK hP 0 (wR_g0 a k _) rfl 10 (by decide) (htg _ q_591) (fun _ h9 => h9) rfl dX6_firstMark_4 ?_
  refine nb_ge (a := j) (b := (cu_N u 1)) (tgt := 28) hx hb (by omega) (by omega) rfl rfl dX6_firstMark_7 (by decide) (fun c_7 => ?_) (fun c_7 => ?_)
  · refine lv_iconst (v := (-1)) hx hb dX6_firstMark_28 (by decide) ?_
    exact W.iret (v := (-1)) hx hb hr (fun t9 ht9 hW9 => ⟨_, rfl, (show (-1 : Int32) = iI (m_first u sc) from by unfold m_first; rw [show cu_N u 1 = j by omega, hI.2]; rfl), ht9⟩) (fun _ h => by cases h) dX6_firstMark_29
  · have hmj := hm j c_7
    refine lv_aload_n hx hb dX6_firstMark_10 rfl (lv_at hl 0 rfl) ?_
    refine va_get (D := (dC, dI)) (ci := 6) (v := .ref (a 6)) (C := RX6) (T := TX6) (N := 20) hx hb htg inX6 hown hK hP 0 (wR_g0 a k _) rfl 11 (by decide) (htg _ q_592) (fun _ h9 => h9) rfl dX6_firstMark_11 ?_
    refine lv_iload_n hx hb dX6_firstMark_14 rfl (lv_at hl 2 rfl) ?_
    refine va_iald hx hb hK hP 6 0 (wR_g6 a k _) rfl (vp_in_nI (n := j) (N := 60) (by omega) (by decide)) dX6_firstMark_15 ?_
    refine wtopi (nI (cu_F u 5 j)) (congrArg (fun j9 => nI (cu_F u 5 j9)) (nI_clamp (n := j) (Nat.lt_trans (m := 60) (by omega) (by decide)))) ?_
    refine lv_iload_n hx hb dX6_firstMark_16 rfl (lv_at hl 1 rfl) ?_
    refine nb_ne (a := (cu_F u 5 j)) (b := sc) (tgt := 22) hx hb (by omega) (by omega) rfl rfl dX6_firstMark_17 (by decide) (fun c_17 => ?_) (fun c_17 => ?_)
    · refine lv_iinc (v := nI (j + 1)) (lv' := [(2, .int (nI (j + 1))), (0, .ref (a 0)), (1, .int (nI sc))]) hx hb dX6_firstMark_22 hl (k := 2) rfl (nI_1 j) (by decide) rfl (fun ls hl => ?_)
      refine lv_goto (tgt := 2) hx hb dX6_firstMark_25 (by decide) ?_
      exact ih (j + 1) ls (by omega) ⟨⟨by omega, m_scan_n hI.2 c_17⟩, lv_sub hl [1, 2, 0] rfl⟩
    · refine lv_iload_n hx hb dX6_firstMark_20 rfl (lv_at hl 2 rfl) ?_
      exact W.iret (v := nI j) hx hb hr (fun t9 ht9 hW9 => ⟨_, rfl, (show nI j = iI (m_first u sc) from by rw [nI_iI, ← m_scan_y hI.2 c_17 (cu_N u 1 - j - 1), show j + 1 + (cu_N u 1 - j - 1) = cu_N u 1 by omega]; rfl), ht9⟩) (fun _ h => by cases h) dX6_firstMark_21
set_option maxHeartbeats 4000000 in
set_option maxRecDepth 100000 in
theorem c_X6_offsetOf (l : Launch) (dC : Nat → ClassId) (dI : Nat → Nat → Nat) (a : Nat → Nat) (k : c_K) (u : c_St) (hM : cu_N u 1 ≤ 60) (sc : Nat) (hs : sc < 10) (hm : ∀ j, j < cu_N u 1 → cu_F u 5 j < 10) : Met l yX6_offsetOf wsX6_offsetOf ({ frames := 1, cells := 0, slots := 0, locals := 22 }) (va_Pc [.ref (a 0), .int (nI sc)] (w_ro (dC, dI) vwCl (wR a k u) (tC k))) (vp_Si (fun r => r = iI (m_off u sc))) 0 0 (fun _ => False) := by
  have hfb := m_first_b u sc
  refine Met.ofW (cc := cX6_offsetOf) (maxL := 3) (ret := (some .int)) (by decide) rfl ?_
  intro p e s m args below meth c s₁ B hml hv
  obtain ⟨rfl, hP, hK⟩ := hv
  have hx := B.exec
  have hb := B.bytes
  have hr := B.returns
  have hts := atoms_spec (ws := wsX6_offsetOf) B.pre
  have htg : ∀ w ∈ wG, w.before _ s = true := fun w h => hts w (List.mem_cons_of_mem _ h)
  have hown : s.vm.findClass RX6 = some m.cls := findClass_of_methodNamed B.named
  have hlocks := B.notSynchronized
  have hl := lv_entry ([.ref (a 0), .int (nI sc)]) (n := 3) (Nat.le_of_ble_eq_true rfl)
  rw [lg_entry_eq]
  generalize (lg_sl ([.ref (a 0), .int (nI sc)]) ++ List.replicate (3 - (lg_sl ([.ref (a 0), .int (nI sc)])).length) Slot.unset).toArray = ls at hl ⊢
  have hl : lv_has ls 3 [(0, .ref (a 0)), (1, .int (nI sc))] := hl
  refine lv_aload_n hx hb dX6_offsetOf_0 rfl (lv_at hl 0 rfl) ?_
  refine lv_iload_n hx hb dX6_offsetOf_1 rfl (lv_at hl 1 rfl) ?_
  refine vp_callSi (W.runV (As := [.int (nI sc)]) (rest := []) ⟨hx, hb, hml, hown, hts⟩ (c_X6_firstMark l dC dI a k u hM sc hs hm) (cwV 1 hts (wG_V wG_c q_678 q_680 p_10 q_7 q_681) rfl rfl rfl (by decide +kernel) ⟨Nat.le_of_ble_eq_true rfl, Nat.le_of_ble_eq_true rfl⟩) (w_roV hK hP (ci := 6) (q0 := 0) rfl (wR_g0 a k _) rfl) rfl rfl hl.1 rfl (lv_room (Nat.le_of_ble_eq_true rfl)) dX6_offsetOf_2 ⟨Nat.le_of_ble_eq_true rfl, Nat.le_of_ble_eq_true rfl⟩) (fun r_1 hr_1 => ?_)
  subst hr_1
  refine lv_istore_n (lv' := [(2, .int (iI (m_first u sc))), (0, .ref (a 0)), (1, .int (nI sc))]) hx hb dX6_offsetOf_5 rfl hl (by decide) rfl (fun ls hl => ?_)
  refine lv_iload_n hx hb dX6_offsetOf_6 rfl (lv_at hl 0 rfl) ?_
  refine iz_ge (a := (m_first u sc)) (tgt := 14) hx hb (by omega) (by omega) rfl dX6_offsetOf_7 (by decide) (fun c_7 => ?_) (fun c_7 => ?_)
  · refine lv_aload_n hx hb dX6_offsetOf_14 rfl (lv_at hl 1 rfl) ?_
    refine va_get (D := (dC, dI)) (ci := 6) (v := .ref (a 15)) (C := RX6) (T := TX6) (N := 20) hx hb htg inX6 hown hK hP 0 (wR_g0 a k _) rfl 12 (by decide) (htg _ q_593) (fun _ h9 => h9) rfl dX6_offsetOf_15 ?_
    refine lv_iload_n hx hb dX6_offsetOf_18 rfl (lv_at hl 0 rfl) ?_
    refine wtopi (y := nI ((m_first u sc).toNat)) (show iI (m_first u sc) = nI (m_first u sc).toNat from by rw [nI_iI, Int.toNat_of_nonneg c_7]) ?_
    refine va_iald hx hb hK hP 15 0 (wR_g15 a k _) rfl (vp_in_nI (n := ((m_first u sc).toNat)) (N := 60) (show (m_first u sc).toNat < 60 by omega) (by decide)) dX6_offsetOf_19 ?_
    refine wtopi (iI (cu_D u 0 ((m_first u sc).toNat))) (congrArg (fun j9 => iI (cu_D u 0 j9)) (nI_clamp (n := ((m_first u sc).toNat)) (Nat.lt_trans (m := 60) (show (m_first u sc).toNat < 60 by omega) (by decide)))) ?_
    exact W.iret (v := iI (cu_D u 0 ((m_first u sc).toNat))) hx hb hr (fun t9 ht9 hW9 => ⟨_, rfl, (by unfold m_off; rw [if_neg (by omega)]), ht9⟩) (fun _ h => by cases h) dX6_offsetOf_20
  · refine lv_iconst (v := 0) hx hb dX6_offsetOf_10 (by decide) ?_
    refine lv_goto (tgt := 20) hx hb dX6_offsetOf_11 (by decide) ?_
    exact W.iret (v := 0) hx hb hr (fun t9 ht9 hW9 => ⟨_, rfl, (show (0 : Int32) = iI (m_off u sc) from by unfold m_off; rw [if_pos c_7]; rfl), ht9⟩) (fun _ h => by cases h) dX6_offsetOf_20
set_option maxHeartbeats 4000000 in
set_option maxRecDepth 100000 in
theorem c_X6_begin (l : Launch) (dC : Nat → ClassId) (dI : Nat → Nat → Nat) (a : Nat → Nat) (k : c_K) (u : c_St) (h : m_ok u) (n : Nat) (hn : n < cu_N u 0) : Met l yX6_begin wsX6_begin ({ frames := 2, cells := 0, slots := 0, locals := 44 }) (va_Pc [.ref (a 0), .int (nI n)] (w_ro (dC, dI) vwCl (wR a k u) (tC k))) (vp_Si (fun r => r = iI (m_beg u n))) 0 0 (fun _ => False) := by
  have h20 := h.1
  have h60 := h.2.1
  have hn2 := h.2.2.1 n hn
  refine Met.ofW (cc := cX6_begin) (maxL := 2) (ret := (some .int)) (by decide) rfl ?_
  intro p e s m args below meth c s₁ B hml hv
  obtain ⟨rfl, hP, hK⟩ := hv
  have hx := B.exec
  have hb := B.bytes
  have hr := B.returns
  have hts := atoms_spec (ws := wsX6_begin) B.pre
  have htg : ∀ w ∈ wG, w.before _ s = true := fun w h => hts w (List.mem_cons_of_mem _ h)
  have hown : s.vm.findClass RX6 = some m.cls := findClass_of_methodNamed B.named
  have hlocks := B.notSynchronized
  have hl := lv_entry ([.ref (a 0), .int (nI n)]) (n := 2) (Nat.le_of_ble_eq_true rfl)
  rw [lg_entry_eq]
  generalize (lg_sl ([.ref (a 0), .int (nI n)]) ++ List.replicate (2 - (lg_sl ([.ref (a 0), .int (nI n)])).length) Slot.unset).toArray = ls at hl ⊢
  have hl : lv_has ls 2 [(0, .ref (a 0)), (1, .int (nI n))] := hl
  refine lv_aload_n hx hb dX6_begin_0 rfl (lv_at hl 0 rfl) ?_
  refine va_get (D := (dC, dI)) (ci := 6) (v := .ref (a 2)) (C := RX6) (T := TX6) (N := 20) hx hb htg inX6 hown hK hP 0 (wR_g0 a k _) rfl 3 (by decide) (htg _ q_584) (fun _ h9 => h9) rfl dX6_begin_1 ?_
  refine lv_iload_n hx hb dX6_begin_4 rfl (lv_at hl 1 rfl) ?_
  refine va_iald hx hb hK hP 2 0 (wR_g2 a k _) rfl (vp_in_nI (n := n) (N := 200) (by omega) (by decide)) dX6_begin_5 ?_
  refine wtopi (nI (cu_F u 1 n)) (congrArg (fun j9 => nI (cu_F u 1 j9)) (nI_clamp (n := n) (Nat.lt_trans (m := 200) (by omega) (by decide)))) ?_
  refine lv_aload_n hx hb dX6_begin_6 rfl (lv_at hl 0 rfl) ?_
  refine lv_aload_n hx hb dX6_begin_7 rfl (lv_at hl 0 rfl) ?_
  refine va_get (D := (dC, dI)) (ci := 6) (v := .ref (a 1)) (C := RX6) (T := TX6) (N := 20) hx hb htg inX6 hown hK hP 0 (wR_g0 a k _) rfl 2 (by decide) (htg _ q_583) (fun _ h9 => h9) rfl dX6_begin_8 ?_
  refine lv_iload_n hx hb dX6_begin_11 rfl (lv_at hl 1 rfl) ?_
  refine va_iald hx hb hK hP 1 0 (wR_g1 a k _) rfl (vp_in_nI (n := n) (N := 200) (by omega) (by decide)) dX6_begin_12 ?_
  refine wtopi (nI (cu_F u 0 n)) (congrArg (fun j9 => nI (cu_F u 0 j9)) (nI_clamp (n := n) (Nat.lt_trans (m := 200) (by omega) (by decide)))) ?_
  refine vp_callSi (W.runV (As := [.int (nI (cu_F u 0 n))]) (rest := [.int (nI (cu_F u 1 n))]) ⟨hx, hb, hml, hown, hts⟩ (c_X6_offsetOf l dC dI a k u h60 (cu_F u 0 n) hn2.1 (fun j hj => (h.2.2.2 j hj).1)) (cwV 1 hts (wG_V wG_c q_674 q_676 p_9 q_7 q_677) rfl rfl rfl (by decide +kernel) ⟨Nat.le_of_ble_eq_true rfl, Nat.le_of_ble_eq_true rfl⟩) (w_roV hK hP (ci := 6) (q0 := 0) rfl (wR_g0 a k _) rfl) rfl rfl hl.1 rfl (lv_room (Nat.le_of_ble_eq_true rfl)) dX6_begin_13 ⟨Nat.le_of_ble_eq_true rfl, Nat.le_of_ble_eq_true rfl⟩) (fun r_1 hr_1 => ?_)
  subst hr_1
  refine lv_iadd hx hb dX6_begin_16 ?_
  refine wtopi (y := iI (m_beg u n)) (nI_addI _ _) ?_
  exact W.iret (v := iI (m_beg u n)) hx hb hr (fun t9 ht9 hW9 => ⟨_, rfl, rfl, ht9⟩) (fun _ h => by cases h) dX6_begin_17
set_option maxHeartbeats 4000000 in
set_option maxRecDepth 100000 in
theorem c_X6_goesAhead (l : Launch) (dC : Nat → ClassId) (dI : Nat → Nat → Nat) (a : Nat → Nat) (k : c_K) (u : c_St) (h : m_ok u) (x y : Nat) (hx9 : x < cu_N u 0) (hy9 : y < cu_N u 0) : Met l yX6_goesAhead wsX6_goesAhead ({ frames := 3, cells := 0, slots := 0, locals := 65 }) (va_Pc [.ref (a 0), .int (nI x), .int (nI y)] (w_ro (dC, dI) vwCl (wR a k u) (tC k))) (vp_Si (fun r => r = bI (m_lt u x y))) 0 0 (fun _ => False) := by
  have h20 := h.1
  have hx2 := h.2.2.1 x hx9
  have hy2 := h.2.2.1 y hy9
  have hbx := m_beg_b h hx9
  have hby := m_beg_b h hy9
  refine Met.ofW (cc := cX6_goesAhead) (maxL := 5) (ret := (some .boolean)) (by decide) rfl ?_
  intro p e s m args below meth c s₁ B hml hv
  obtain ⟨rfl, hP, hK⟩ := hv
  have hx := B.exec
  have hb := B.bytes
  have hr := B.returns
  have hts := atoms_spec (ws := wsX6_goesAhead) B.pre
  have htg : ∀ w ∈ wG, w.before _ s = true := fun w h => hts w (List.mem_cons_of_mem _ h)
  have hown : s.vm.findClass RX6 = some m.cls := findClass_of_methodNamed B.named
  have hlocks := B.notSynchronized
  have hl := lv_entry ([.ref (a 0), .int (nI x), .int (nI y)]) (n := 5) (Nat.le_of_ble_eq_true rfl)
  rw [lg_entry_eq]
  generalize (lg_sl ([.ref (a 0), .int (nI x), .int (nI y)]) ++ List.replicate (5 - (lg_sl ([.ref (a 0), .int (nI x), .int (nI y)])).length) Slot.unset).toArray = ls at hl ⊢
  have hl : lv_has ls 5 [(0, .ref (a 0)), (1, .int (nI x)), (2, .int (nI y))] := hl
  refine lv_aload_n hx hb dX6_goesAhead_0 rfl (lv_at hl 0 rfl) ?_
  refine lv_iload_n hx hb dX6_goesAhead_1 rfl (lv_at hl 1 rfl) ?_
  refine vp_callSi (W.runV (As := [.int (nI x)]) (rest := []) ⟨hx, hb, hml, hown, hts⟩ (c_X6_begin l dC dI a k u h x hx9) (cwV 1 hts (wG_V wG_c q_702 q_704 p_14 q_7 q_705) rfl rfl rfl (by decide +kernel) ⟨Nat.le_of_ble_eq_true rfl, Nat.le_of_ble_eq_true rfl⟩) (w_roV hK hP (ci := 6) (q0 := 0) rfl (wR_g0 a k _) rfl) rfl rfl hl.1 rfl (lv_room (Nat.le_of_ble_eq_true rfl)) dX6_goesAhead_2 ⟨Nat.le_of_ble_eq_true rfl, Nat.le_of_ble_eq_true rfl⟩) (fun r_1 hr_1 => ?_)
  subst hr_1
  refine lv_istore_n (lv' := [(3, .int (iI (m_beg u x))), (0, .ref (a 0)), (1, .int (nI x)), (2, .int (nI y))]) hx hb dX6_goesAhead_5 rfl hl (by decide) rfl (fun ls hl => ?_)
  refine lv_aload_n hx hb dX6_goesAhead_6 rfl (lv_at hl 1 rfl) ?_
  refine lv_iload_n hx hb dX6_goesAhead_7 rfl (lv_at hl 3 rfl) ?_
  refine vp_callSi (W.runV (As := [.int (nI y)]) (rest := []) ⟨hx, hb, hml, hown, hts⟩ (c_X6_begin l dC dI a k u h y hy9) (cwV 1 hts (wG_V wG_c q_702 q_704 p_14 q_7 q_705) rfl rfl rfl (by decide +kernel) ⟨Nat.le_of_ble_eq_true rfl, Nat.le_of_ble_eq_true rfl⟩) (w_roV hK hP (ci := 6) (q0 := 0) rfl (wR_g0 a k _) rfl) rfl rfl hl.1 rfl (lv_room (Nat.le_of_ble_eq_true rfl)) dX6_goesAhead_8 ⟨Nat.le_of_ble_eq_true rfl, Nat.le_of_ble_eq_true rfl⟩) (fun r_2 hr_2 => ?_)
  subst hr_2
  refine lv_istore (lv' := [(4, .int (iI (m_beg u y))), (3, .int (iI (m_beg u x))), (0, .ref (a 0)), (1, .int (nI x)), (2, .int (nI y))]) hx hb dX6_goesAhead_11 hl (by decide) rfl (fun ls hl => ?_)
  refine lv_iload_n hx hb dX6_goesAhead_13 rfl (lv_at hl 1 rfl) ?_
  refine lv_iload hx hb dX6_goesAhead_14 (lv_at hl 0 rfl) ?_
  refine ib_eq (a := (m_beg u x)) (b := (m_beg u y)) (tgt := 31) hx hb (by omega) (by omega) (by omega) (by omega) rfl rfl dX6_goesAhead_16 (by decide) (fun c_16 => ?_) (fun c_16 => ?_)
  · refine lv_aload_n hx hb dX6_goesAhead_31 rfl (lv_at hl 2 rfl) ?_
    refine va_get (D := (dC, dI)) (ci := 6) (v := .ref (a 1)) (C := RX6) (T := TX6) (N := 20) hx hb htg inX6 hown hK hP 0 (wR_g0 a k _) rfl 2 (by decide) (htg _ q_583) (fun _ h9 => h9) rfl dX6_goesAhead_32 ?_
    refine lv_iload_n hx hb dX6_goesAhead_35 rfl (lv_at hl 3 rfl) ?_
    refine va_iald hx hb hK hP 1 0 (wR_g1 a k _) rfl (vp_in_nI (n := x) (N := 200) (by omega) (by decide)) dX6_goesAhead_36 ?_
    refine wtopi (nI (cu_F u 0 x)) (congrArg (fun j9 => nI (cu_F u 0 j9)) (nI_clamp (n := x) (Nat.lt_trans (m := 200) (by omega) (by decide)))) ?_
    refine lv_aload_n hx hb dX6_goesAhead_37 rfl (lv_at hl 2 rfl) ?_
    refine va_get (D := (dC, dI)) (ci := 6) (v := .ref (a 1)) (C := RX6) (T := TX6) (N := 20) hx hb htg inX6 hown hK hP 0 (wR_g0 a k _) rfl 2 (by decide) (htg _ q_583) (fun _ h9 => h9) rfl dX6_goesAhead_38 ?_
    refine lv_iload_n hx hb dX6_goesAhead_41 rfl (lv_at hl 4 rfl) ?_
    refine va_iald hx hb hK hP 1 0 (wR_g1 a k _) rfl (vp_in_nI (n := y) (N := 200) (by omega) (by decide)) dX6_goesAhead_42 ?_
    refine wtopi (nI (cu_F u 0 y)) (congrArg (fun j9 => nI (cu_F u 0 j9)) (nI_clamp (n := y) (Nat.lt_trans (m := 200) (by omega) (by decide)))) ?_
    refine nb_lt (a := (cu_F u 0 x)) (b := (cu_F u 0 y)) (tgt := 66) hx hb (by omega) (by omega) rfl rfl dX6_goesAhead_43 (by decide) (fun c_43 => ?_) (fun c_43 => ?_)
    · refine lv_iconst (v := 1) hx hb dX6_goesAhead_66 (by decide) ?_
      refine lv_goto (tgt := 71) hx hb dX6_goesAhead_67 (by decide) ?_
      exact W.zret (v := bI true) hx hb hr (bI_narw _) (fun t9 ht9 hW9 => ⟨_, rfl, congrArg bI (by unfold m_lt; symm; simp only [decide_eq_true_eq, decide_eq_false_iff_not]; omega), ht9⟩) (fun _ h => by cases h) dX6_goesAhead_71
    · refine lv_aload_n hx hb dX6_goesAhead_46 rfl (lv_at hl 2 rfl) ?_
      refine va_get (D := (dC, dI)) (ci := 6) (v := .ref (a 1)) (C := RX6) (T := TX6) (N := 20) hx hb htg inX6 hown hK hP 0 (wR_g0 a k _) rfl 2 (by decide) (htg _ q_583) (fun _ h9 => h9) rfl dX6_goesAhead_47 ?_
      refine lv_iload_n hx hb dX6_goesAhead_50 rfl (lv_at hl 3 rfl) ?_
      refine va_iald hx hb hK hP 1 0 (wR_g1 a k _) rfl (vp_in_nI (n := x) (N := 200) (by omega) (by decide)) dX6_goesAhead_51 ?_
      refine wtopi (nI (cu_F u 0 x)) (congrArg (fun j9 => nI (cu_F u 0 j9)) (nI_clamp (n := x) (Nat.lt_trans (m := 200) (by omega) (by decide)))) ?_
      refine lv_aload_n hx hb dX6_goesAhead_52 rfl (lv_at hl 2 rfl) ?_
      refine va_get (D := (dC, dI)) (ci := 6) (v := .ref (a 1)) (C := RX6) (T := TX6) (N := 20) hx hb htg inX6 hown hK hP 0 (wR_g0 a k _) rfl 2 (by decide) (htg _ q_583) (fun _ h9 => h9) rfl dX6_goesAhead_53 ?_
      refine lv_iload_n hx hb dX6_goesAhead_56 rfl (lv_at hl 4 rfl) ?_
      refine va_iald hx hb hK hP 1 0 (wR_g1 a k _) rfl (vp_in_nI (n := y) (N := 200) (by omega) (by decide)) dX6_goesAhead_57 ?_
      refine wtopi (nI (cu_F u 0 y)) (congrArg (fun j9 => nI (cu_F u 0 j9)) (nI_clamp (n := y) (Nat.lt_trans (m := 200) (by omega) (by decide)))) ?_
      refine nb_ne (a := (cu_F u 0 x)) (b := (cu_F u 0 y)) (tgt := 70) hx hb (by omega) (by omega) rfl rfl dX6_goesAhead_58 (by decide) (fun c_58 => ?_) (fun c_58 => ?_)
      · refine lv_iconst (v := 0) hx hb dX6_goesAhead_70 (by decide) ?_
        exact W.zret (v := bI false) hx hb hr (bI_narw _) (fun t9 ht9 hW9 => ⟨_, rfl, congrArg bI (by unfold m_lt; symm; simp only [decide_eq_true_eq, decide_eq_false_iff_not]; omega), ht9⟩) (fun _ h => by cases h) dX6_goesAhead_71
      · refine lv_iload_n hx hb dX6_goesAhead_61 rfl (lv_at hl 3 rfl) ?_
        refine lv_iload_n hx hb dX6_goesAhead_62 rfl (lv_at hl 4 rfl) ?_
        refine nb_ge (a := x) (b := y) (tgt := 70) hx hb (by omega) (by omega) rfl rfl dX6_goesAhead_63 (by decide) (fun c_63 => ?_) (fun c_63 => ?_)
        · refine lv_iconst (v := 0) hx hb dX6_goesAhead_70 (by decide) ?_
          exact W.zret (v := bI false) hx hb hr (bI_narw _) (fun t9 ht9 hW9 => ⟨_, rfl, congrArg bI (by unfold m_lt; symm; simp only [decide_eq_true_eq, decide_eq_false_iff_not]; omega), ht9⟩) (fun _ h => by cases h) dX6_goesAhead_71
        · refine lv_iconst (v := 1) hx hb dX6_goesAhead_66 (by decide) ?_
          refine lv_goto (tgt := 71) hx hb dX6_goesAhead_67 (by decide) ?_
          exact W.zret (v := bI true) hx hb hr (bI_narw _) (fun t9 ht9 hW9 => ⟨_, rfl, congrArg bI (by unfold m_lt; symm; simp only [decide_eq_true_eq, decide_eq_false_iff_not]; omega), ht9⟩) (fun _ h => by cases h) dX6_goesAhead_71
  · refine lv_iload_n hx hb dX6_goesAhead_19 rfl (lv_at hl 1 rfl) ?_
    refine lv_iload hx hb dX6_goesAhead_20 (lv_at hl 0 rfl) ?_
    refine ib_ge (a := (m_beg u x)) (b := (m_beg u y)) (tgt := 29) hx hb (by omega) (by omega) (by omega) (by omega) rfl rfl dX6_goesAhead_22 (by decide) (fun c_22 => ?_) (fun c_22 => ?_)
    · refine lv_iconst (v := 0) hx hb dX6_goesAhead_29 (by decide) ?_
      exact W.zret (v := bI false) hx hb hr (bI_narw _) (fun t9 ht9 hW9 => ⟨_, rfl, congrArg bI (by unfold m_lt; symm; simp only [decide_eq_true_eq, decide_eq_false_iff_not]; omega), ht9⟩) (fun _ h => by cases h) dX6_goesAhead_30
    · refine lv_iconst (v := 1) hx hb dX6_goesAhead_25 (by decide) ?_
      refine lv_goto (tgt := 30) hx hb dX6_goesAhead_26 (by decide) ?_
      exact W.zret (v := bI true) hx hb hr (bI_narw _) (fun t9 ht9 hW9 => ⟨_, rfl, congrArg bI (by unfold m_lt; symm; simp only [decide_eq_true_eq, decide_eq_false_iff_not]; omega), ht9⟩) (fun _ h => by cases h) dX6_goesAhead_30
set_option maxHeartbeats 4000000 in
set_option maxRecDepth 100000 in
theorem c_X6_within (l : Launch) (dC : Nat → ClassId) (dI : Nat → Nat → Nat) (a : Nat → Nat) (k : c_K) (u : c_St) (h : m_ok u) (n : Nat) (hn : n < cu_N u 0) (t1 t2 : Int32) : Met l yX6_within wsX6_within ({ frames := 3, cells := 0, slots := 0, locals := 65 }) (va_Pc [.ref (a 0), .int (nI n), .int t1, .int t2] (w_ro (dC, dI) vwCl (wR a k u) (tC k))) (vp_Si (fun r => r = nI (m_wi (m_beg u n) t1 t2 (cu_F u 2 n)))) 0 0 (fun _ => False) := by
  have h20 := h.1
  have h60 := h.2.1
  have hn2 := h.2.2.1 n hn
  have hbb := m_beg_b h hn
  have ht1 := i32_b t1
  have ht2 := i32_b t2
  refine Met.ofW (cc := cX6_within) (maxL := 6) (ret := (some .int)) (by decide) rfl ?_
  intro p e s m args below meth c s₁ B hml hv
  obtain ⟨rfl, hP, hK⟩ := hv
  have hx := B.exec
  have hb := B.bytes
  have hr := B.returns
  have hts := atoms_spec (ws := wsX6_within) B.pre
  have htg : ∀ w ∈ wG, w.before _ s = true := fun w h => hts w (List.mem_cons_of_mem _ h)
  have hown : s.vm.findClass RX6 = some m.cls := findClass_of_methodNamed B.named
  have hlocks := B.notSynchronized
  have hl := lv_entry ([.ref (a 0), .int (nI n), .int t1, .int t2]) (n := 6) (Nat.le_of_ble_eq_true rfl)
  rw [lg_entry_eq]
  generalize (lg_sl ([.ref (a 0), .int (nI n), .int t1, .int t2]) ++ List.replicate (6 - (lg_sl ([.ref (a 0), .int (nI n), .int t1, .int t2])).length) Slot.unset).toArray = ls at hl ⊢
  have hl : lv_has ls 6 [(0, .ref (a 0)), (1, .int (nI n)), (2, .int t1), (3, .int t2)] := hl
  refine lv_iconst (v := 0) hx hb dX6_within_0 (by decide) ?_
  refine lv_istore (lv' := [(4, .int 0), (0, .ref (a 0)), (1, .int (nI n)), (2, .int t1), (3, .int t2)]) hx hb dX6_within_1 hl (by decide) rfl (fun ls hl => ?_)
  refine lv_iconst (v := 0) hx hb dX6_within_3 (by decide) ?_
  refine lv_istore (lv' := [(5, .int 0), (4, .int 0), (0, .ref (a 0)), (1, .int (nI n)), (2, .int t1), (3, .int t2)]) hx hb dX6_within_4 hl (by decide) rfl (fun ls hl => ?_)
  refine w_loop (fun j : Nat => cu_F u 2 n - j) (fun j ls => j ≤ cu_F u 2 n ∧ lv_has ls 6 [(0, .ref (a 0)), (1, .int (nI n)), (2, .int t1), (3, .int t2), (4, .int (nI (m_wi (m_beg u n) t1 t2 j))), (5, .int (nI j))]) ?_ (0) ls ⟨Nat.zero_le _, lv_sub hl [2, 3, 4, 5, 1, 0] rfl⟩
  clear hl
  intro j ls hI ih
  obtain ⟨hI, hl⟩ := hI
  refine lv_iload hx hb dX6_within_6 (lv_at hl 5 rfl) ?_
  refine lv_aload_n hx hb dX6_within_8 rfl (lv_at hl 0 rfl) ?_
  refine va_get (D := (dC, dI)) (ci := 6) (v := .ref (a 3)) (C := RX6) (T := TX6) (N := 20) hx hb htg inX6 hown hK hP 0 (wR_g0 a k _) rfl 4 (by decide) (htg _ q_585) (fun _ h9 => h9) rfl dX6_within_9 ?_
  refine lv_iload_n hx hb dX6_within_12 rfl (lv_at hl 1 rfl) ?_
  refine va_iald hx hb hK hP 3 0 (wR_g3 a k _) rfl (vp_in_nI (n := n) (N := 200) (by omega) (by decide)) dX6_within_13 ?_
  refine wtopi (nI (cu_F u 2 n)) (congrArg (fun j9 => nI (cu_F u 2 j9)) (nI_clamp (n := n) (Nat.lt_trans (m := 200) (by omega) (by decide)))) ?_
  refine nb_ge (a := j) (b := (cu_F u 2 n)) (tgt := 57) hx hb (by omega) (by omega) rfl rfl dX6_within_14 (by decide) (fun c_14 => ?_) (fun c_14 => ?_)
  · refine lv_iload hx hb dX6_within_57 (lv_at hl 4 rfl) ?_
    exact W.iret (v := nI (m_wi (m_beg u n) t1 t2 j)) hx hb hr (fun t9 ht9 hW9 => ⟨_, rfl, (by rw [show cu_F u 2 n = j by omega]), ht9⟩) (fun _ h => by cases h) dX6_within_59
  · refine lv_iload hx hb dX6_within_17 (lv_at hl 4 rfl) ?_
    refine lv_aload_n hx hb dX6_within_19 rfl (lv_at hl 0 rfl) ?_
    refine lv_iload_n hx hb dX6_within_20 rfl (lv_at hl 1 rfl) ?_
    refine vp_callSi (W.runV (As := [.int (nI n)]) (rest := [.int (nI (m_wi (m_beg u n) t1 t2 j))]) ⟨hx, hb, hml, hown, hts⟩ (c_X6_begin l dC dI a k u h n hn) (cwV 1 hts (wG_V wG_c q_702 q_704 p_14 q_7 q_705) rfl rfl rfl (by decide +kernel) ⟨Nat.le_of_ble_eq_true rfl, Nat.le_of_ble_eq_true rfl⟩) (w_roV hK hP (ci := 6) (q0 := 0) rfl (wR_g0 a k _) rfl) rfl rfl hl.1 rfl (lv_room (Nat.le_of_ble_eq_true rfl)) dX6_within_21 ⟨Nat.le_of_ble_eq_true rfl, Nat.le_of_ble_eq_true rfl⟩) (fun r_1 hr_1 => ?_)
    subst hr_1
    refine lv_iload hx hb dX6_within_24 (lv_at hl 5 rfl) ?_
    refine lv_iadd hx hb dX6_within_26 ?_
    refine wtopi (y := iI (m_beg u n + (j : Int))) (by rw [nI_iI, iI_add]) ?_
    refine lv_iload_n hx hb dX6_within_27 rfl (lv_at hl 2 rfl) ?_
    refine wtopi (y := iI t1.toInt) (iI_self t1) ?_
    refine ib_lt (a := (m_beg u n + (j : Int))) (b := t1.toInt) (tgt := 47) hx hb (by omega) (by omega) (by omega) (by omega) rfl rfl dX6_within_28 (by decide) (fun c_28 => ?_) (fun c_28 => ?_)
    · refine lv_iconst (v := 0) hx hb dX6_within_47 (by decide) ?_
      refine lv_iadd hx hb dX6_within_48 ?_
      refine wtopi (y := nI (m_wi (m_beg u n) t1 t2 (j + 1))) (m_wi_f (m_in_f1 c_28)) ?_
      refine lv_istore (lv' := [(4, .int (nI (m_wi (m_beg u n) t1 t2 (j + 1)))), (0, .ref (a 0)), (1, .int (nI n)), (2, .int t1), (3, .int t2), (5, .int (nI j))]) hx hb dX6_within_49 hl (by decide) rfl (fun ls hl => ?_)
      refine lv_iinc (v := nI (j + 1)) (lv' := [(5, .int (nI (j + 1))), (4, .int (nI (m_wi (m_beg u n) t1 t2 (j + 1)))), (0, .ref (a 0)), (1, .int (nI n)), (2, .int t1), (3, .int t2)]) hx hb dX6_within_51 hl (k := 5) rfl (nI_1 j) (by decide) rfl (fun ls hl => ?_)
      refine lv_goto (tgt := 6) hx hb dX6_within_54 (by decide) ?_
      exact ih (j + 1) ls (by omega) ⟨by omega, lv_sub hl [2, 3, 4, 5, 1, 0] rfl⟩
    · refine lv_aload_n hx hb dX6_within_31 rfl (lv_at hl 0 rfl) ?_
      refine lv_iload_n hx hb dX6_within_32 rfl (lv_at hl 1 rfl) ?_
      refine vp_callSi (W.runV (As := [.int (nI n)]) (rest := [.int (nI (m_wi (m_beg u n) t1 t2 j))]) ⟨hx, hb, hml, hown, hts⟩ (c_X6_begin l dC dI a k u h n hn) (cwV 1 hts (wG_V wG_c q_702 q_704 p_14 q_7 q_705) rfl rfl rfl (by decide +kernel) ⟨Nat.le_of_ble_eq_true rfl, Nat.le_of_ble_eq_true rfl⟩) (w_roV hK hP (ci := 6) (q0 := 0) rfl (wR_g0 a k _) rfl) rfl rfl hl.1 rfl (lv_room (Nat.le_of_ble_eq_true rfl)) dX6_within_33 ⟨Nat.le_of_ble_eq_true rfl, Nat.le_of_ble_eq_true rfl⟩) (fun r_2 hr_2 => ?_)
      subst hr_2
      refine lv_iload hx hb dX6_within_36 (lv_at hl 5 rfl) ?_
      refine lv_iadd hx hb dX6_within_38 ?_
      refine wtopi (y := iI (m_beg u n + (j : Int))) (by rw [nI_iI, iI_add]) ?_
      refine lv_iload_n hx hb dX6_within_39 rfl (lv_at hl 3 rfl) ?_
      refine wtopi (y := iI t2.toInt) (iI_self t2) ?_
      refine ib_ge (a := (m_beg u n + (j : Int))) (b := t2.toInt) (tgt := 47) hx hb (by omega) (by omega) (by omega) (by omega) rfl rfl dX6_within_40 (by decide) (fun c_40 => ?_) (fun c_40 => ?_)
      · refine lv_iconst (v := 0) hx hb dX6_within_47 (by decide) ?_
        refine lv_iadd hx hb dX6_within_48 ?_
        refine wtopi (y := nI (m_wi (m_beg u n) t1 t2 (j + 1))) (m_wi_f (m_in_f2 c_40)) ?_
        refine lv_istore (lv' := [(4, .int (nI (m_wi (m_beg u n) t1 t2 (j + 1)))), (0, .ref (a 0)), (1, .int (nI n)), (2, .int t1), (3, .int t2), (5, .int (nI j))]) hx hb dX6_within_49 hl (by decide) rfl (fun ls hl => ?_)
        refine lv_iinc (v := nI (j + 1)) (lv' := [(5, .int (nI (j + 1))), (4, .int (nI (m_wi (m_beg u n) t1 t2 (j + 1)))), (0, .ref (a 0)), (1, .int (nI n)), (2, .int t1), (3, .int t2)]) hx hb dX6_within_51 hl (k := 5) rfl (nI_1 j) (by decide) rfl (fun ls hl => ?_)
        refine lv_goto (tgt := 6) hx hb dX6_within_54 (by decide) ?_
        exact ih (j + 1) ls (by omega) ⟨by omega, lv_sub hl [2, 3, 4, 5, 1, 0] rfl⟩
      · refine lv_iconst (v := 1) hx hb dX6_within_43 (by decide) ?_
        refine lv_goto (tgt := 48) hx hb dX6_within_44 (by decide) ?_
        refine lv_iadd hx hb dX6_within_48 ?_
        refine wtopi (y := nI (m_wi (m_beg u n) t1 t2 (j + 1))) (m_wi_t (m_in_t c_28 c_40)) ?_
        refine lv_istore (lv' := [(4, .int (nI (m_wi (m_beg u n) t1 t2 (j + 1)))), (0, .ref (a 0)), (1, .int (nI n)), (2, .int t1), (3, .int t2), (5, .int (nI j))]) hx hb dX6_within_49 hl (by decide) rfl (fun ls hl => ?_)
        refine lv_iinc (v := nI (j + 1)) (lv' := [(5, .int (nI (j + 1))), (4, .int (nI (m_wi (m_beg u n) t1 t2 (j + 1)))), (0, .ref (a 0)), (1, .int (nI n)), (2, .int t1), (3, .int t2)]) hx hb dX6_within_51 hl (k := 5) rfl (nI_1 j) (by decide) rfl (fun ls hl => ?_)
        refine lv_goto (tgt := 6) hx hb dX6_within_54 (by decide) ?_
        exact ih (j + 1) ls (by omega) ⟨by omega, lv_sub hl [2, 3, 4, 5, 1, 0] rfl⟩
set_option maxHeartbeats 4000000 in
set_option maxRecDepth 100000 in
theorem c_X6_fits (l : Launch) (dC : Nat → ClassId) (dI : Nat → Nat → Nat) (a : Nat → Nat) (k : c_K) (u : c_St) (h : m_ok u) (n : Nat) (hn : n < cu_N u 0) (t1 t2 pu pi : Int32) : Met l yX6_fits wsX6_fits ({ frames := 4, cells := 0, slots := 0, locals := 90 }) (va_Pc [.ref (a 0), .int (nI n), .int t1, .int t2, .int pu, .int pi] (w_ro (dC, dI) vwCl (wR a k u) (tC k))) (vp_Si (fun r => r = bI (m_fit u n t1 t2 pu pi))) 0 0 (fun _ => False) := by
  have h20 := h.1
  have h60 := h.2.1
  have hn2 := h.2.2.1 n hn
  have hwl := m_wi_le (m_beg u n) t1 t2 (cu_F u 2 n)
  refine Met.ofW (cc := cX6_fits) (maxL := 6) (ret := (some .boolean)) (by decide) rfl ?_
  intro p e s m args below meth c s₁ B hml hv
  obtain ⟨rfl, hP, hK⟩ := hv
  have hx := B.exec
  have hb := B.bytes
  have hr := B.returns
  have hts := atoms_spec (ws := wsX6_fits) B.pre
  have htg : ∀ w ∈ wG, w.before _ s = true := fun w h => hts w (List.mem_cons_of_mem _ h)
  have hown : s.vm.findClass RX6 = some m.cls := findClass_of_methodNamed B.named
  have hlocks := B.notSynchronized
  have hl := lv_entry ([.ref (a 0), .int (nI n), .int t1, .int t2, .int pu, .int pi]) (n := 6) (Nat.le_of_ble_eq_true rfl)
  rw [lg_entry_eq]
  generalize (lg_sl ([.ref (a 0), .int (nI n), .int t1, .int t2, .int pu, .int pi]) ++ List.replicate (6 - (lg_sl ([.ref (a 0), .int (nI n), .int t1, .int t2, .int pu, .int pi])).length) Slot.unset).toArray = ls at hl ⊢
  have hl : lv_has ls 6 [(0, .ref (a 0)), (1, .int (nI n)), (2, .int t1), (3, .int t2), (4, .int pu), (5, .int pi)] := hl
  refine lv_aload_n hx hb dX6_fits_0 rfl (lv_at hl 0 rfl) ?_
  refine va_get (D := (dC, dI)) (ci := 6) (v := .ref (a 9)) (C := RX6) (T := TX6) (N := 20) hx hb htg inX6 hown hK hP 0 (wR_g0 a k _) rfl 9 (by decide) (htg _ q_590) (fun _ h9 => h9) rfl dX6_fits_1 ?_
  refine lv_iload_n hx hb dX6_fits_4 rfl (lv_at hl 1 rfl) ?_
  refine va_zald hx hb hK hP 9 2 (wR_g9 a k _) rfl (vp_in_nI (n := n) (N := 200) (by omega) (by decide)) dX6_fits_5 ?_
  refine wtopi (bI (cu_B u 0 n)) (congrArg (fun j9 => bI (cu_B u 0 j9)) (nI_clamp (n := n) (Nat.lt_trans (m := 200) (by omega) (by decide)))) ?_
  refine bz_ne (a := (cu_B u 0 n)) (tgt := 55) hx hb dX6_fits_6 (by decide) (fun c_6 => ?_) (fun c_6 => ?_)
  · refine lv_iconst (v := 0) hx hb dX6_fits_55 (by decide) ?_
    exact W.zret (v := bI false) hx hb hr (bI_narw _) (fun t9 ht9 hW9 => ⟨_, rfl, congrArg bI (by unfold m_fit; symm; simp [*]), ht9⟩) (fun _ h => by cases h) dX6_fits_56
  · refine lv_iload hx hb dX6_fits_9 (lv_at hl 4 rfl) ?_
    refine lv_if_lt (tgt := 25) hx hb dX6_fits_11 (by decide) (fun c_11 => ?_) (fun c_11 => ?_)
    · refine lv_iload hx hb dX6_fits_25 (lv_at hl 5 rfl) ?_
      refine lv_if_lt (tgt := 41) hx hb dX6_fits_27 (by decide) (fun c_27 => ?_) (fun c_27 => ?_)
      · refine lv_aload_n hx hb dX6_fits_41 rfl (lv_at hl 0 rfl) ?_
        refine lv_iload_n hx hb dX6_fits_42 rfl (lv_at hl 1 rfl) ?_
        refine lv_iload_n hx hb dX6_fits_43 rfl (lv_at hl 2 rfl) ?_
        refine lv_iload_n hx hb dX6_fits_44 rfl (lv_at hl 3 rfl) ?_
        refine vp_callSi (W.runV (As := [.int (nI n), .int t1, .int t2]) (rest := []) ⟨hx, hb, hml, hown, hts⟩ (c_X6_within l dC dI a k u h n hn t1 t2) (cwV 3 hts (wG_V wG_c q_698 q_700 p_13 q_7 q_701) rfl rfl rfl (by decide +kernel) ⟨Nat.le_of_ble_eq_true rfl, Nat.le_of_ble_eq_true rfl⟩) (w_roV hK hP (ci := 6) (q0 := 0) rfl (wR_g0 a k _) rfl) rfl rfl hl.1 rfl (lv_room (Nat.le_of_ble_eq_true rfl)) dX6_fits_45 ⟨Nat.le_of_ble_eq_true rfl, Nat.le_of_ble_eq_true rfl⟩) (fun r_1 hr_1 => ?_)
        subst hr_1
        refine iz_le (a := (((m_wi (m_beg u n) t1 t2 (cu_F u 2 n)) : Nat) : Int)) (tgt := 55) hx hb (by omega) (by omega) (nI_iI _) dX6_fits_48 (by decide) (fun c_48 => ?_) (fun c_48 => ?_)
        · have c_48 : ¬ 0 < m_wi (m_beg u n) t1 t2 (cu_F u 2 n) := by omega
          refine lv_iconst (v := 0) hx hb dX6_fits_55 (by decide) ?_
          exact W.zret (v := bI false) hx hb hr (bI_narw _) (fun t9 ht9 hW9 => ⟨_, rfl, congrArg bI (by unfold m_fit; symm; simp [*]), ht9⟩) (fun _ h => by cases h) dX6_fits_56
        · have c_48 : 0 < m_wi (m_beg u n) t1 t2 (cu_F u 2 n) := by omega
          refine lv_iconst (v := 1) hx hb dX6_fits_51 (by decide) ?_
          refine lv_goto (tgt := 56) hx hb dX6_fits_52 (by decide) ?_
          exact W.zret (v := bI true) hx hb hr (bI_narw _) (fun t9 ht9 hW9 => ⟨_, rfl, congrArg bI (by unfold m_fit; symm; simp [*]), ht9⟩) (fun _ h => by cases h) dX6_fits_56
      · refine lv_aload_n hx hb dX6_fits_30 rfl (lv_at hl 0 rfl) ?_
        refine va_get (D := (dC, dI)) (ci := 6) (v := .ref (a 5)) (C := RX6) (T := TX6) (N := 20) hx hb htg inX6 hown hK hP 0 (wR_g0 a k _) rfl 7 (by decide) (htg _ q_588) (fun _ h9 => h9) rfl dX6_fits_31 ?_
        refine lv_iload_n hx hb dX6_fits_34 rfl (lv_at hl 1 rfl) ?_
        refine va_iald hx hb hK hP 5 0 (wR_g5 a k _) rfl (vp_in_nI (n := n) (N := 200) (by omega) (by decide)) dX6_fits_35 ?_
        refine wtopi (nI (cu_F u 4 n)) (congrArg (fun j9 => nI (cu_F u 4 j9)) (nI_clamp (n := n) (Nat.lt_trans (m := 200) (by omega) (by decide)))) ?_
        refine lv_iload hx hb dX6_fits_36 (lv_at hl 5 rfl) ?_
        refine lv_icmp_ne (tgt := 55) hx hb dX6_fits_38 (by decide) (fun c_38 => ?_) (fun c_38 => ?_)
        · refine lv_iconst (v := 0) hx hb dX6_fits_55 (by decide) ?_
          exact W.zret (v := bI false) hx hb hr (bI_narw _) (fun t9 ht9 hW9 => ⟨_, rfl, congrArg bI (by unfold m_fit; symm; simp [*]), ht9⟩) (fun _ h => by cases h) dX6_fits_56
        · refine lv_aload_n hx hb dX6_fits_41 rfl (lv_at hl 0 rfl) ?_
          refine lv_iload_n hx hb dX6_fits_42 rfl (lv_at hl 1 rfl) ?_
          refine lv_iload_n hx hb dX6_fits_43 rfl (lv_at hl 2 rfl) ?_
          refine lv_iload_n hx hb dX6_fits_44 rfl (lv_at hl 3 rfl) ?_
          refine vp_callSi (W.runV (As := [.int (nI n), .int t1, .int t2]) (rest := []) ⟨hx, hb, hml, hown, hts⟩ (c_X6_within l dC dI a k u h n hn t1 t2) (cwV 3 hts (wG_V wG_c q_698 q_700 p_13 q_7 q_701) rfl rfl rfl (by decide +kernel) ⟨Nat.le_of_ble_eq_true rfl, Nat.le_of_ble_eq_true rfl⟩) (w_roV hK hP (ci := 6) (q0 := 0) rfl (wR_g0 a k _) rfl) rfl rfl hl.1 rfl (lv_room (Nat.le_of_ble_eq_true rfl)) dX6_fits_45 ⟨Nat.le_of_ble_eq_true rfl, Nat.le_of_ble_eq_true rfl⟩) (fun r_2 hr_2 => ?_)
          subst hr_2
          refine iz_le (a := (((m_wi (m_beg u n) t1 t2 (cu_F u 2 n)) : Nat) : Int)) (tgt := 55) hx hb (by omega) (by omega) (nI_iI _) dX6_fits_48 (by decide) (fun c_48 => ?_) (fun c_48 => ?_)
          · have c_48 : ¬ 0 < m_wi (m_beg u n) t1 t2 (cu_F u 2 n) := by omega
            refine lv_iconst (v := 0) hx hb dX6_fits_55 (by decide) ?_
            exact W.zret (v := bI false) hx hb hr (bI_narw _) (fun t9 ht9 hW9 => ⟨_, rfl, congrArg bI (by unfold m_fit; symm; simp [*]), ht9⟩) (fun _ h => by cases h) dX6_fits_56
          · have c_48 : 0 < m_wi (m_beg u n) t1 t2 (cu_F u 2 n) := by omega
            refine lv_iconst (v := 1) hx hb dX6_fits_51 (by decide) ?_
            refine lv_goto (tgt := 56) hx hb dX6_fits_52 (by decide) ?_
            exact W.zret (v := bI true) hx hb hr (bI_narw _) (fun t9 ht9 hW9 => ⟨_, rfl, congrArg bI (by unfold m_fit; symm; simp [*]), ht9⟩) (fun _ h => by cases h) dX6_fits_56
    · refine lv_aload_n hx hb dX6_fits_14 rfl (lv_at hl 0 rfl) ?_
      refine va_get (D := (dC, dI)) (ci := 6) (v := .ref (a 4)) (C := RX6) (T := TX6) (N := 20) hx hb htg inX6 hown hK hP 0 (wR_g0 a k _) rfl 6 (by decide) (htg _ q_587) (fun _ h9 => h9) rfl dX6_fits_15 ?_
      refine lv_iload_n hx hb dX6_fits_18 rfl (lv_at hl 1 rfl) ?_
      refine va_iald hx hb hK hP 4 0 (wR_g4 a k _) rfl (vp_in_nI (n := n) (N := 200) (by omega) (by decide)) dX6_fits_19 ?_
      refine wtopi (nI (cu_F u 3 n)) (congrArg (fun j9 => nI (cu_F u 3 j9)) (nI_clamp (n := n) (Nat.lt_trans (m := 200) (by omega) (by decide)))) ?_
      refine lv_iload hx hb dX6_fits_20 (lv_at hl 4 rfl) ?_
      refine lv_icmp_ne (tgt := 55) hx hb dX6_fits_22 (by decide) (fun c_22 => ?_) (fun c_22 => ?_)
      · refine lv_iconst (v := 0) hx hb dX6_fits_55 (by decide) ?_
        exact W.zret (v := bI false) hx hb hr (bI_narw _) (fun t9 ht9 hW9 => ⟨_, rfl, congrArg bI (by unfold m_fit; symm; simp [*]), ht9⟩) (fun _ h => by cases h) dX6_fits_56
      · refine lv_iload hx hb dX6_fits_25 (lv_at hl 5 rfl) ?_
        refine lv_if_lt (tgt := 41) hx hb dX6_fits_27 (by decide) (fun c_27 => ?_) (fun c_27 => ?_)
        · refine lv_aload_n hx hb dX6_fits_41 rfl (lv_at hl 0 rfl) ?_
          refine lv_iload_n hx hb dX6_fits_42 rfl (lv_at hl 1 rfl) ?_
          refine lv_iload_n hx hb dX6_fits_43 rfl (lv_at hl 2 rfl) ?_
          refine lv_iload_n hx hb dX6_fits_44 rfl (lv_at hl 3 rfl) ?_
          refine vp_callSi (W.runV (As := [.int (nI n), .int t1, .int t2]) (rest := []) ⟨hx, hb, hml, hown, hts⟩ (c_X6_within l dC dI a k u h n hn t1 t2) (cwV 3 hts (wG_V wG_c q_698 q_700 p_13 q_7 q_701) rfl rfl rfl (by decide +kernel) ⟨Nat.le_of_ble_eq_true rfl, Nat.le_of_ble_eq_true rfl⟩) (w_roV hK hP (ci := 6) (q0 := 0) rfl (wR_g0 a k _) rfl) rfl rfl hl.1 rfl (lv_room (Nat.le_of_ble_eq_true rfl)) dX6_fits_45 ⟨Nat.le_of_ble_eq_true rfl, Nat.le_of_ble_eq_true rfl⟩) (fun r_3 hr_3 => ?_)
          subst hr_3
          refine iz_le (a := (((m_wi (m_beg u n) t1 t2 (cu_F u 2 n)) : Nat) : Int)) (tgt := 55) hx hb (by omega) (by omega) (nI_iI _) dX6_fits_48 (by decide) (fun c_48 => ?_) (fun c_48 => ?_)
          · have c_48 : ¬ 0 < m_wi (m_beg u n) t1 t2 (cu_F u 2 n) := by omega
            refine lv_iconst (v := 0) hx hb dX6_fits_55 (by decide) ?_
            exact W.zret (v := bI false) hx hb hr (bI_narw _) (fun t9 ht9 hW9 => ⟨_, rfl, congrArg bI (by unfold m_fit; symm; simp [*]), ht9⟩) (fun _ h => by cases h) dX6_fits_56
          · have c_48 : 0 < m_wi (m_beg u n) t1 t2 (cu_F u 2 n) := by omega
            refine lv_iconst (v := 1) hx hb dX6_fits_51 (by decide) ?_
            refine lv_goto (tgt := 56) hx hb dX6_fits_52 (by decide) ?_
            exact W.zret (v := bI true) hx hb hr (bI_narw _) (fun t9 ht9 hW9 => ⟨_, rfl, congrArg bI (by unfold m_fit; symm; simp [*]), ht9⟩) (fun _ h => by cases h) dX6_fits_56
        · refine lv_aload_n hx hb dX6_fits_30 rfl (lv_at hl 0 rfl) ?_
          refine va_get (D := (dC, dI)) (ci := 6) (v := .ref (a 5)) (C := RX6) (T := TX6) (N := 20) hx hb htg inX6 hown hK hP 0 (wR_g0 a k _) rfl 7 (by decide) (htg _ q_588) (fun _ h9 => h9) rfl dX6_fits_31 ?_
          refine lv_iload_n hx hb dX6_fits_34 rfl (lv_at hl 1 rfl) ?_
          refine va_iald hx hb hK hP 5 0 (wR_g5 a k _) rfl (vp_in_nI (n := n) (N := 200) (by omega) (by decide)) dX6_fits_35 ?_
          refine wtopi (nI (cu_F u 4 n)) (congrArg (fun j9 => nI (cu_F u 4 j9)) (nI_clamp (n := n) (Nat.lt_trans (m := 200) (by omega) (by decide)))) ?_
          refine lv_iload hx hb dX6_fits_36 (lv_at hl 5 rfl) ?_
          refine lv_icmp_ne (tgt := 55) hx hb dX6_fits_38 (by decide) (fun c_38 => ?_) (fun c_38 => ?_)
          · refine lv_iconst (v := 0) hx hb dX6_fits_55 (by decide) ?_
            exact W.zret (v := bI false) hx hb hr (bI_narw _) (fun t9 ht9 hW9 => ⟨_, rfl, congrArg bI (by unfold m_fit; symm; simp [*]), ht9⟩) (fun _ h => by cases h) dX6_fits_56
          · refine lv_aload_n hx hb dX6_fits_41 rfl (lv_at hl 0 rfl) ?_
            refine lv_iload_n hx hb dX6_fits_42 rfl (lv_at hl 1 rfl) ?_
            refine lv_iload_n hx hb dX6_fits_43 rfl (lv_at hl 2 rfl) ?_
            refine lv_iload_n hx hb dX6_fits_44 rfl (lv_at hl 3 rfl) ?_
            refine vp_callSi (W.runV (As := [.int (nI n), .int t1, .int t2]) (rest := []) ⟨hx, hb, hml, hown, hts⟩ (c_X6_within l dC dI a k u h n hn t1 t2) (cwV 3 hts (wG_V wG_c q_698 q_700 p_13 q_7 q_701) rfl rfl rfl (by decide +kernel) ⟨Nat.le_of_ble_eq_true rfl, Nat.le_of_ble_eq_true rfl⟩) (w_roV hK hP (ci := 6) (q0 := 0) rfl (wR_g0 a k _) rfl) rfl rfl hl.1 rfl (lv_room (Nat.le_of_ble_eq_true rfl)) dX6_fits_45 ⟨Nat.le_of_ble_eq_true rfl, Nat.le_of_ble_eq_true rfl⟩) (fun r_4 hr_4 => ?_)
            subst hr_4
            refine iz_le (a := (((m_wi (m_beg u n) t1 t2 (cu_F u 2 n)) : Nat) : Int)) (tgt := 55) hx hb (by omega) (by omega) (nI_iI _) dX6_fits_48 (by decide) (fun c_48 => ?_) (fun c_48 => ?_)
            · have c_48 : ¬ 0 < m_wi (m_beg u n) t1 t2 (cu_F u 2 n) := by omega
              refine lv_iconst (v := 0) hx hb dX6_fits_55 (by decide) ?_
              exact W.zret (v := bI false) hx hb hr (bI_narw _) (fun t9 ht9 hW9 => ⟨_, rfl, congrArg bI (by unfold m_fit; symm; simp [*]), ht9⟩) (fun _ h => by cases h) dX6_fits_56
            · have c_48 : 0 < m_wi (m_beg u n) t1 t2 (cu_F u 2 n) := by omega
              refine lv_iconst (v := 1) hx hb dX6_fits_51 (by decide) ?_
              refine lv_goto (tgt := 56) hx hb dX6_fits_52 (by decide) ?_
              exact W.zret (v := bI true) hx hb hr (bI_narw _) (fun t9 ht9 hW9 => ⟨_, rfl, congrArg bI (by unfold m_fit; symm; simp [*]), ht9⟩) (fun _ h => by cases h) dX6_fits_56
set_option maxHeartbeats 4000000 in
set_option maxRecDepth 100000 in
theorem c_X6_found (l : Launch) (dC : Nat → ClassId) (dI : Nat → Nat → Nat) (a : Nat → Nat) (k : c_K) (u : c_St) (h : m_ok u) (t1 t2 pu pi : Int32) (q : Nat) (hq : q < 2147483648) : Met l yX6_found wsX6_found ({ frames := 5, cells := 0, slots := 0, locals := 115 }) (va_Pc [.ref (a 0), .int t1, .int t2, .int pu, .int pi, .int (nI q)] (w_ro (dC, dI) vwCl (wR a k u) (tC k))) (vp_Si (fun r => r = iI (m_fnd u t1 t2 pu pi q (cu_N u 0)))) 0 0 (fun _ => False) := by
  have h20 := h.1
  refine Met.ofW (cc := cX6_found) (maxL := 9) (ret := (some .int)) (by decide) rfl ?_
  intro p e s m args below meth c s₁ B hml hv
  obtain ⟨rfl, hP, hK⟩ := hv
  have hx := B.exec
  have hb := B.bytes
  have hr := B.returns
  have hts := atoms_spec (ws := wsX6_found) B.pre
  have htg : ∀ w ∈ wG, w.before _ s = true := fun w h => hts w (List.mem_cons_of_mem _ h)
  have hown : s.vm.findClass RX6 = some m.cls := findClass_of_methodNamed B.named
  have hlocks := B.notSynchronized
  have hl := lv_entry ([.ref (a 0), .int t1, .int t2, .int pu, .int pi, .int (nI q)]) (n := 9) (Nat.le_of_ble_eq_true rfl)
  rw [lg_entry_eq]
  generalize (lg_sl ([.ref (a 0), .int t1, .int t2, .int pu, .int pi, .int (nI q)]) ++ List.replicate (9 - (lg_sl ([.ref (a 0), .int t1, .int t2, .int pu, .int pi, .int (nI q)])).length) Slot.unset).toArray = ls at hl ⊢
  have hl : lv_has ls 9 [(0, .ref (a 0)), (1, .int t1), (2, .int t2), (3, .int pu), (4, .int pi), (5, .int (nI q))] := hl
  refine lv_iconst (v := 0) hx hb dX6_found_0 (by decide) ?_
  refine lv_istore (lv' := [(6, .int 0), (0, .ref (a 0)), (1, .int t1), (2, .int t2), (3, .int pu), (4, .int pi), (5, .int (nI q))]) hx hb dX6_found_1 hl (by decide) rfl (fun ls hl => ?_)
  refine w_loop (fun n : Nat => cu_N u 0 - n) (fun n ls => (n ≤ cu_N u 0 ∧ m_fnd u t1 t2 pu pi q n = -1) ∧ lv_has ls 9 [(0, .ref (a 0)), (1, .int t1), (2, .int t2), (3, .int pu), (4, .int pi), (5, .int (nI q)), (6, .int (nI n))]) ?_ (0) ls ⟨⟨Nat.zero_le _, rfl⟩, lv_sub hl [1, 2, 3, 4, 5, 6, 0] rfl⟩
  clear hl
  intro n ls hI ih
  obtain ⟨hI, hl⟩ := hI
  refine lv_iload hx hb dX6_found_3 (lv_at hl 6 rfl) ?_
  refine lv_aload_n hx hb dX6_found_5 rfl (lv_at hl 0 rfl) ?_
  refine va_get (D := (dC, dI)) (ci := 6) (v := .int (nI (cu_N u 0))) (C := RX6) (T := TX6) (N := 20) hx hb htg inX6 hown hK hP 0 (wR_g0 a k _) rfl 1 (by decide) (htg _ q_582) (fun _ h9 => h9) rfl dX6_found_6 ?_
  refine nb_ge (a := n) (b := (cu_N u 0)) (tgt := 105) hx hb (by omega) (by omega) rfl rfl dX6_found_9 (by decide) (fun c_9 => ?_) (fun c_9 => ?_)
  · refine lv_iconst (v := (-1)) hx hb dX6_found_105 (by decide) ?_
    exact W.iret (v := (-1)) hx hb hr (fun t9 ht9 hW9 => ⟨_, rfl, (show (-1 : Int32) = iI (m_fnd u t1 t2 pu pi q (cu_N u 0)) from by rw [show cu_N u 0 = n by omega, hI.2]; rfl), ht9⟩) (fun _ h => by cases h) dX6_found_106
  · refine lv_aload_n hx hb dX6_found_12 rfl (lv_at hl 0 rfl) ?_
    refine lv_iload hx hb dX6_found_13 (lv_at hl 6 rfl) ?_
    refine lv_iload_n hx hb dX6_found_15 rfl (lv_at hl 1 rfl) ?_
    refine lv_iload_n hx hb dX6_found_16 rfl (lv_at hl 2 rfl) ?_
    refine lv_iload_n hx hb dX6_found_17 rfl (lv_at hl 3 rfl) ?_
    refine lv_iload hx hb dX6_found_18 (lv_at hl 4 rfl) ?_
    refine vp_callSi (W.runV (As := [.int (nI n), .int t1, .int t2, .int pu, .int pi]) (rest := []) ⟨hx, hb, hml, hown, hts⟩ (c_X6_fits l dC dI a k u h n (by omega) t1 t2 pu pi) (cwV 5 hts (wG_V wG_c q_694 q_696 p_12 q_7 q_697) rfl rfl rfl (by decide +kernel) ⟨Nat.le_of_ble_eq_true rfl, Nat.le_of_ble_eq_true rfl⟩) (w_roV hK hP (ci := 6) (q0 := 0) rfl (wR_g0 a k _) rfl) rfl rfl hl.1 rfl (lv_room (Nat.le_of_ble_eq_true rfl)) dX6_found_20 ⟨Nat.le_of_ble_eq_true rfl, Nat.le_of_ble_eq_true rfl⟩) (fun r_1 hr_1 => ?_)
    subst hr_1
    refine bz_eq (a := (m_fit u n t1 t2 pu pi)) (tgt := 99) hx hb dX6_found_23 (by decide) (fun c_23 => ?_) (fun c_23 => ?_)
    · refine lv_iinc (v := nI (n + 1)) (lv' := [(6, .int (nI (n + 1))), (0, .ref (a 0)), (1, .int t1), (2, .int t2), (3, .int pu), (4, .int pi), (5, .int (nI q))]) hx hb dX6_found_99 hl (k := 6) rfl (nI_1 n) (by decide) rfl (fun ls hl => ?_)
      refine lv_goto (tgt := 3) hx hb dX6_found_102 (by decide) ?_
      exact ih (n + 1) ls (by omega) ⟨⟨by omega, m_fnd_n hI.2 (fun z => by rw [c_23] at z; cases z.1)⟩, lv_sub hl [1, 2, 3, 4, 5, 6, 0] rfl⟩
    · refine lv_iconst (v := 0) hx hb dX6_found_26 (by decide) ?_
      refine lv_istore (lv' := [(7, .int 0), (0, .ref (a 0)), (1, .int t1), (2, .int t2), (3, .int pu), (4, .int pi), (5, .int (nI q)), (6, .int (nI n))]) hx hb dX6_found_27 hl (by decide) rfl (fun ls hl => ?_)
      refine lv_iconst (v := 0) hx hb dX6_found_29 (by decide) ?_
      refine lv_istore (lv' := [(8, .int 0), (7, .int 0), (0, .ref (a 0)), (1, .int t1), (2, .int t2), (3, .int pu), (4, .int pi), (5, .int (nI q)), (6, .int (nI n))]) hx hb dX6_found_30 hl (by decide) rfl (fun ls hl => ?_)
      have hI0 := hI
      have ih0 := ih
      have hah := m_ah_le u t1 t2 pu pi n
      refine w_loop (fun j : Nat => cu_N u 0 - j) (fun j ls => j ≤ cu_N u 0 ∧ lv_has ls 9 [(0, .ref (a 0)), (1, .int t1), (2, .int t2), (3, .int pu), (4, .int pi), (5, .int (nI q)), (6, .int (nI n)), (7, .int (nI (m_ah u t1 t2 pu pi n j))), (8, .int (nI j))]) ?_ (0) ls ⟨Nat.zero_le _, lv_sub hl [2, 3, 4, 5, 6, 7, 8, 1, 0] rfl⟩
      clear hl
      intro j ls hI ih
      obtain ⟨hI, hl⟩ := hI
      have hahj := hah j
      refine lv_iload hx hb dX6_found_32 (lv_at hl 8 rfl) ?_
      refine lv_aload_n hx hb dX6_found_34 rfl (lv_at hl 0 rfl) ?_
      refine va_get (D := (dC, dI)) (ci := 6) (v := .int (nI (cu_N u 0))) (C := RX6) (T := TX6) (N := 20) hx hb htg inX6 hown hK hP 0 (wR_g0 a k _) rfl 1 (by decide) (htg _ q_582) (fun _ h9 => h9) rfl dX6_found_35 ?_
      refine nb_ge (a := j) (b := (cu_N u 0)) (tgt := 89) hx hb (by omega) (by omega) rfl rfl dX6_found_38 (by decide) (fun c_38 => ?_) (fun c_38 => ?_)
      · refine lv_iload hx hb dX6_found_89 (lv_at hl 7 rfl) ?_
        refine lv_iload hx hb dX6_found_91 (lv_at hl 5 rfl) ?_
        refine nb_ne (a := (m_ah u t1 t2 pu pi n j)) (b := q) (tgt := 99) hx hb (by omega) (by omega) rfl rfl dX6_found_93 (by decide) (fun c_93 => ?_) (fun c_93 => ?_)
        · refine lv_iinc (v := nI (n + 1)) (lv' := [(6, .int (nI (n + 1))), (0, .ref (a 0)), (1, .int t1), (2, .int t2), (3, .int pu), (4, .int pi), (5, .int (nI q)), (7, .int (nI (m_ah u t1 t2 pu pi n j))), (8, .int (nI j))]) hx hb dX6_found_99 hl (k := 6) rfl (nI_1 n) (by decide) rfl (fun ls hl => ?_)
          refine lv_goto (tgt := 3) hx hb dX6_found_102 (by decide) ?_
          exact ih0 (n + 1) ls (by omega) ⟨⟨by omega, m_fnd_n hI0.2 (fun z => c_93 (by rw [show j = cu_N u 0 by omega]; exact z.2))⟩, lv_sub hl [1, 2, 3, 4, 5, 6, 0] rfl⟩
        · refine lv_iload hx hb dX6_found_96 (lv_at hl 6 rfl) ?_
          exact W.iret (v := nI n) hx hb hr (fun t9 ht9 hW9 => ⟨_, rfl, (show nI n = iI (m_fnd u t1 t2 pu pi q (cu_N u 0)) from by rw [nI_iI, ← m_fnd_y hI0.2 ⟨c_23, by rw [show cu_N u 0 = j by omega]; exact c_93⟩ (cu_N u 0 - n - 1), show n + 1 + (cu_N u 0 - n - 1) = cu_N u 0 by omega]), ht9⟩) (fun _ h => by cases h) dX6_found_98
      · refine lv_iload hx hb dX6_found_41 (lv_at hl 7 rfl) ?_
        refine lv_iload hx hb dX6_found_43 (lv_at hl 8 rfl) ?_
        refine lv_iload hx hb dX6_found_45 (lv_at hl 6 rfl) ?_
        refine nb_eq (a := j) (b := n) (tgt := 79) hx hb (by omega) (by omega) rfl rfl dX6_found_47 (by decide) (fun c_47 => ?_) (fun c_47 => ?_)
        · refine lv_iconst (v := 0) hx hb dX6_found_79 (by decide) ?_
          refine lv_iadd hx hb dX6_found_80 ?_
          refine wtopi (y := nI (m_ah u t1 t2 pu pi n (j + 1))) (m_ah_f (fun z => z.1.1 c_47)) ?_
          refine lv_istore (lv' := [(7, .int (nI (m_ah u t1 t2 pu pi n (j + 1)))), (0, .ref (a 0)), (1, .int t1), (2, .int t2), (3, .int pu), (4, .int pi), (5, .int (nI q)), (6, .int (nI n)), (8, .int (nI j))]) hx hb dX6_found_81 hl (by decide) rfl (fun ls hl => ?_)
          refine lv_iinc (v := nI (j + 1)) (lv' := [(8, .int (nI (j + 1))), (7, .int (nI (m_ah u t1 t2 pu pi n (j + 1)))), (0, .ref (a 0)), (1, .int t1), (2, .int t2), (3, .int pu), (4, .int pi), (5, .int (nI q)), (6, .int (nI n))]) hx hb dX6_found_83 hl (k := 8) rfl (nI_1 j) (by decide) rfl (fun ls hl => ?_)
          refine lv_goto (tgt := 32) hx hb dX6_found_86 (by decide) ?_
          exact ih (j + 1) ls (by omega) ⟨by omega, lv_sub hl [2, 3, 4, 5, 6, 7, 8, 1, 0] rfl⟩
        · refine lv_aload_n hx hb dX6_found_50 rfl (lv_at hl 0 rfl) ?_
          refine lv_iload hx hb dX6_found_51 (lv_at hl 8 rfl) ?_
          refine lv_iload hx hb dX6_found_53 (lv_at hl 6 rfl) ?_
          refine vp_callSi (W.runV (As := [.int (nI j), .int (nI n)]) (rest := [.int (nI (m_ah u t1 t2 pu pi n j))]) ⟨hx, hb, hml, hown, hts⟩ (c_X6_goesAhead l dC dI a k u h j n (by omega) (by omega)) (cwV 2 hts (wG_V wG_c q_706 q_708 p_15 q_7 q_709) rfl rfl rfl (by decide +kernel) ⟨Nat.le_of_ble_eq_true rfl, Nat.le_of_ble_eq_true rfl⟩) (w_roV hK hP (ci := 6) (q0 := 0) rfl (wR_g0 a k _) rfl) rfl rfl hl.1 rfl (lv_room (Nat.le_of_ble_eq_true rfl)) dX6_found_55 ⟨Nat.le_of_ble_eq_true rfl, Nat.le_of_ble_eq_true rfl⟩) (fun r_2 hr_2 => ?_)
          subst hr_2
          refine bz_eq (a := (m_lt u j n)) (tgt := 79) hx hb dX6_found_58 (by decide) (fun c_58 => ?_) (fun c_58 => ?_)
          · refine lv_iconst (v := 0) hx hb dX6_found_79 (by decide) ?_
            refine lv_iadd hx hb dX6_found_80 ?_
            refine wtopi (y := nI (m_ah u t1 t2 pu pi n (j + 1))) (m_ah_f (fun z => by rw [c_58] at z; cases z.1.2)) ?_
            refine lv_istore (lv' := [(7, .int (nI (m_ah u t1 t2 pu pi n (j + 1)))), (0, .ref (a 0)), (1, .int t1), (2, .int t2), (3, .int pu), (4, .int pi), (5, .int (nI q)), (6, .int (nI n)), (8, .int (nI j))]) hx hb dX6_found_81 hl (by decide) rfl (fun ls hl => ?_)
            refine lv_iinc (v := nI (j + 1)) (lv' := [(8, .int (nI (j + 1))), (7, .int (nI (m_ah u t1 t2 pu pi n (j + 1)))), (0, .ref (a 0)), (1, .int t1), (2, .int t2), (3, .int pu), (4, .int pi), (5, .int (nI q)), (6, .int (nI n))]) hx hb dX6_found_83 hl (k := 8) rfl (nI_1 j) (by decide) rfl (fun ls hl => ?_)
            refine lv_goto (tgt := 32) hx hb dX6_found_86 (by decide) ?_
            exact ih (j + 1) ls (by omega) ⟨by omega, lv_sub hl [2, 3, 4, 5, 6, 7, 8, 1, 0] rfl⟩
          · refine lv_aload_n hx hb dX6_found_61 rfl (lv_at hl 0 rfl) ?_
            refine lv_iload hx hb dX6_found_62 (lv_at hl 8 rfl) ?_
            refine lv_iload_n hx hb dX6_found_64 rfl (lv_at hl 1 rfl) ?_
            refine lv_iload_n hx hb dX6_found_65 rfl (lv_at hl 2 rfl) ?_
            refine lv_iload_n hx hb dX6_found_66 rfl (lv_at hl 3 rfl) ?_
            refine lv_iload hx hb dX6_found_67 (lv_at hl 4 rfl) ?_
            refine vp_callSi (W.runV (As := [.int (nI j), .int t1, .int t2, .int pu, .int pi]) (rest := [.int (nI (m_ah u t1 t2 pu pi n j))]) ⟨hx, hb, hml, hown, hts⟩ (c_X6_fits l dC dI a k u h j (by omega) t1 t2 pu pi) (cwV 5 hts (wG_V wG_c q_694 q_696 p_12 q_7 q_697) rfl rfl rfl (by decide +kernel) ⟨Nat.le_of_ble_eq_true rfl, Nat.le_of_ble_eq_true rfl⟩) (w_roV hK hP (ci := 6) (q0 := 0) rfl (wR_g0 a k _) rfl) rfl rfl hl.1 rfl (lv_room (Nat.le_of_ble_eq_true rfl)) dX6_found_69 ⟨Nat.le_of_ble_eq_true rfl, Nat.le_of_ble_eq_true rfl⟩) (fun r_3 hr_3 => ?_)
            subst hr_3
            refine bz_eq (a := (m_fit u j t1 t2 pu pi)) (tgt := 79) hx hb dX6_found_72 (by decide) (fun c_72 => ?_) (fun c_72 => ?_)
            · refine lv_iconst (v := 0) hx hb dX6_found_79 (by decide) ?_
              refine lv_iadd hx hb dX6_found_80 ?_
              refine wtopi (y := nI (m_ah u t1 t2 pu pi n (j + 1))) (m_ah_f (fun z => by rw [c_72] at z; cases z.2)) ?_
              refine lv_istore (lv' := [(7, .int (nI (m_ah u t1 t2 pu pi n (j + 1)))), (0, .ref (a 0)), (1, .int t1), (2, .int t2), (3, .int pu), (4, .int pi), (5, .int (nI q)), (6, .int (nI n)), (8, .int (nI j))]) hx hb dX6_found_81 hl (by decide) rfl (fun ls hl => ?_)
              refine lv_iinc (v := nI (j + 1)) (lv' := [(8, .int (nI (j + 1))), (7, .int (nI (m_ah u t1 t2 pu pi n (j + 1)))), (0, .ref (a 0)), (1, .int t1), (2, .int t2), (3, .int pu), (4, .int pi), (5, .int (nI q)), (6, .int (nI n))]) hx hb dX6_found_83 hl (k := 8) rfl (nI_1 j) (by decide) rfl (fun ls hl => ?_)
              refine lv_goto (tgt := 32) hx hb dX6_found_86 (by decide) ?_
              exact ih (j + 1) ls (by omega) ⟨by omega, lv_sub hl [2, 3, 4, 5, 6, 7, 8, 1, 0] rfl⟩
            · refine lv_iconst (v := 1) hx hb dX6_found_75 (by decide) ?_
              refine lv_goto (tgt := 80) hx hb dX6_found_76 (by decide) ?_
              refine lv_iadd hx hb dX6_found_80 ?_
              refine wtopi (y := nI (m_ah u t1 t2 pu pi n (j + 1))) (m_ah_t c_47 c_58 c_72) ?_
              refine lv_istore (lv' := [(7, .int (nI (m_ah u t1 t2 pu pi n (j + 1)))), (0, .ref (a 0)), (1, .int t1), (2, .int t2), (3, .int pu), (4, .int pi), (5, .int (nI q)), (6, .int (nI n)), (8, .int (nI j))]) hx hb dX6_found_81 hl (by decide) rfl (fun ls hl => ?_)
              refine lv_iinc (v := nI (j + 1)) (lv' := [(8, .int (nI (j + 1))), (7, .int (nI (m_ah u t1 t2 pu pi n (j + 1)))), (0, .ref (a 0)), (1, .int t1), (2, .int t2), (3, .int pu), (4, .int pi), (5, .int (nI q)), (6, .int (nI n))]) hx hb dX6_found_83 hl (k := 8) rfl (nI_1 j) (by decide) rfl (fun ls hl => ?_)
              refine lv_goto (tgt := 32) hx hb dX6_found_86 (by decide) ?_
              exact ih (j + 1) ls (by omega) ⟨by omega, lv_sub hl [2, 3, 4, 5, 6, 7, 8, 1, 0] rfl⟩
set_option maxHeartbeats 4000000 in
set_option maxRecDepth 100000 in
theorem c_X6_isGone (l : Launch) (dC : Nat → ClassId) (dI : Nat → Nat → Nat) (a : Nat → Nat) (k : c_K) (u : c_St) (hN : cu_N u 0 ≤ 200) (pv : Int32) : Met l yX6_isGone wsX6_isGone ({ frames := 2, cells := 0, slots := 0, locals := 43 }) (va_Pc [.ref (a 0), .int pv] (w_ro (dC, dI) vwCl (wR a k u) (tC k))) (vp_Si (fun r => r = bI (isS (cu_N u 0) pv && cu_B u 0 pv.toInt.toNat))) 0 0 (fun _ => False) := by
  refine Met.ofW (cc := cX6_isGone) (maxL := 2) (ret := (some .boolean)) (by decide) rfl ?_
  intro p e s m args below meth c s₁ B hml hv
  obtain ⟨rfl, hP, hK⟩ := hv
  have hx := B.exec
  have hb := B.bytes
  have hr := B.returns
  have hts := atoms_spec (ws := wsX6_isGone) B.pre
  have htg : ∀ w ∈ wG, w.before _ s = true := fun w h => hts w (List.mem_cons_of_mem _ h)
  have hown : s.vm.findClass RX6 = some m.cls := findClass_of_methodNamed B.named
  have hlocks := B.notSynchronized
  have hl := lv_entry ([.ref (a 0), .int pv]) (n := 2) (Nat.le_of_ble_eq_true rfl)
  rw [lg_entry_eq]
  generalize (lg_sl ([.ref (a 0), .int pv]) ++ List.replicate (2 - (lg_sl ([.ref (a 0), .int pv])).length) Slot.unset).toArray = ls at hl ⊢
  have hl : lv_has ls 2 [(0, .ref (a 0)), (1, .int pv)] := hl
  refine lv_aload_n hx hb dX6_isGone_0 rfl (lv_at hl 0 rfl) ?_
  refine lv_iload_n hx hb dX6_isGone_1 rfl (lv_at hl 1 rfl) ?_
  refine vp_callSi (W.runV (As := [.int pv]) (rest := []) ⟨hx, hb, hml, hown, hts⟩ (c_X6_isSlot l dC dI a k u hN pv) (cwV 1 hts (wG_V wG_c q_714 q_716 p_16 q_7 q_717) rfl rfl rfl (by decide +kernel) ⟨Nat.le_of_ble_eq_true rfl, Nat.le_of_ble_eq_true rfl⟩) (w_roV hK hP (ci := 6) (q0 := 0) rfl (wR_g0 a k _) rfl) rfl rfl hl.1 rfl (lv_room (Nat.le_of_ble_eq_true rfl)) dX6_isGone_2 ⟨Nat.le_of_ble_eq_true rfl, Nat.le_of_ble_eq_true rfl⟩) (fun r_1 hr_1 => ?_)
  subst hr_1
  refine bz_eq (a := (isS (cu_N u 0) pv)) (tgt := 21) hx hb dX6_isGone_5 (by decide) (fun c_5 => ?_) (fun c_5 => ?_)
  · refine lv_iconst (v := 0) hx hb dX6_isGone_21 (by decide) ?_
    exact W.zret (v := bI false) hx hb hr (bI_narw _) (fun t9 ht9 hW9 => ⟨_, rfl, congrArg bI (by rw [c_5]; rfl), ht9⟩) (fun _ h => by cases h) dX6_isGone_22
  · obtain ⟨j, hj, ej⟩ := isS_of (by omega) c_5
    have ejt : pv.toInt.toNat = j := by rw [ej, nI_toInt (by omega)]; rfl
    refine lv_aload_n hx hb dX6_isGone_8 rfl (lv_at hl 0 rfl) ?_
    refine va_get (D := (dC, dI)) (ci := 6) (v := .ref (a 9)) (C := RX6) (T := TX6) (N := 20) hx hb htg inX6 hown hK hP 0 (wR_g0 a k _) rfl 9 (by decide) (htg _ q_590) (fun _ h9 => h9) rfl dX6_isGone_9 ?_
    refine lv_iload_n hx hb dX6_isGone_12 rfl (lv_at hl 1 rfl) ?_
    refine wtopi (y := nI j) ej ?_
    refine va_zald hx hb hK hP 9 2 (wR_g9 a k _) rfl (vp_in_nI (n := j) (N := 200) (show j < 200 by omega) (by decide)) dX6_isGone_13 ?_
    refine wtopi (bI (cu_B u 0 j)) (congrArg (fun j9 => bI (cu_B u 0 j9)) (nI_clamp (n := j) (Nat.lt_trans (m := 200) (show j < 200 by omega) (by decide)))) ?_
    refine bz_eq (a := (cu_B u 0 j)) (tgt := 21) hx hb dX6_isGone_14 (by decide) (fun c_14 => ?_) (fun c_14 => ?_)
    · refine lv_iconst (v := 0) hx hb dX6_isGone_21 (by decide) ?_
      exact W.zret (v := bI false) hx hb hr (bI_narw _) (fun t9 ht9 hW9 => ⟨_, rfl, congrArg bI (by rw [c_5, ejt, c_14]; rfl), ht9⟩) (fun _ h => by cases h) dX6_isGone_22
    · refine lv_iconst (v := 1) hx hb dX6_isGone_17 (by decide) ?_
      refine lv_goto (tgt := 22) hx hb dX6_isGone_18 (by decide) ?_
      exact W.zret (v := bI true) hx hb hr (bI_narw _) (fun t9 ht9 hW9 => ⟨_, rfl, congrArg bI (by rw [c_5, ejt, c_14]; rfl), ht9⟩) (fun _ h => by cases h) dX6_isGone_22
set_option maxHeartbeats 4000000 in
set_option maxRecDepth 100000 in
theorem c_X6_sumWithin (l : Launch) (dC : Nat → ClassId) (dI : Nat → Nat → Nat) (a : Nat → Nat) (k : c_K) (u : c_St) (h : m_ok u) (s0 : Int32) (n : Nat) (hn : n < cu_N u 0) (t1 t2 : Int32) : Met l yX6_sumWithin wsX6_sumWithin ({ frames := 3, cells := 0, slots := 0, locals := 65 }) (va_Pc [.ref (a 0), .int s0, .int (nI n), .int t1, .int t2] (w_ro (dC, dI) vwCl (wR a k u) (tC k))) (vp_Si (fun r => r = m_sw (fun i => cu_G u 2 (8 * n + i)) (m_beg u n) t1 t2 s0 (cu_F u 2 n))) 0 0 (fun _ => False) := by
  have h20 := h.1
  have h60 := h.2.1
  have hn2 := h.2.2.1 n hn
  have hbb := m_beg_b h hn
  have ht1 := i32_b t1
  have ht2 := i32_b t2
  refine Met.ofW (cc := cX6_sumWithin) (maxL := 7) (ret := (some .int)) (by decide) rfl ?_
  intro p e s m args below meth c s₁ B hml hv
  obtain ⟨rfl, hP, hK⟩ := hv
  have hx := B.exec
  have hb := B.bytes
  have hr := B.returns
  have hts := atoms_spec (ws := wsX6_sumWithin) B.pre
  have htg : ∀ w ∈ wG, w.before _ s = true := fun w h => hts w (List.mem_cons_of_mem _ h)
  have hown : s.vm.findClass RX6 = some m.cls := findClass_of_methodNamed B.named
  have hlocks := B.notSynchronized
  have hl := lv_entry ([.ref (a 0), .int s0, .int (nI n), .int t1, .int t2]) (n := 7) (Nat.le_of_ble_eq_true rfl)
  rw [lg_entry_eq]
  generalize (lg_sl ([.ref (a 0), .int s0, .int (nI n), .int t1, .int t2]) ++ List.replicate (7 - (lg_sl ([.ref (a 0), .int s0, .int (nI n), .int t1, .int t2])).length) Slot.unset).toArray = ls at hl ⊢
  have hl : lv_has ls 7 [(0, .ref (a 0)), (1, .int s0), (2, .int (nI n)), (3, .int t1), (4, .int t2)] := hl
  refine lv_iload_n hx hb dX6_sumWithin_0 rfl (lv_at hl 1 rfl) ?_
  refine lv_istore (lv' := [(5, .int s0), (0, .ref (a 0)), (1, .int s0), (2, .int (nI n)), (3, .int t1), (4, .int t2)]) hx hb dX6_sumWithin_1 hl (by decide) rfl (fun ls hl => ?_)
  refine lv_iconst (v := 0) hx hb dX6_sumWithin_3 (by decide) ?_
  refine lv_istore (lv' := [(6, .int 0), (5, .int s0), (0, .ref (a 0)), (1, .int s0), (2, .int (nI n)), (3, .int t1), (4, .int t2)]) hx hb dX6_sumWithin_4 hl (by decide) rfl (fun ls hl => ?_)
  refine w_loop (fun j : Nat => cu_F u 2 n - j) (fun j ls => j ≤ cu_F u 2 n ∧ lv_has ls 7 [(0, .ref (a 0)), (1, .int s0), (2, .int (nI n)), (3, .int t1), (4, .int t2), (5, .int (m_sw (fun i => cu_G u 2 (8 * n + i)) (m_beg u n) t1 t2 s0 j)), (6, .int (nI j))]) ?_ (0) ls ⟨Nat.zero_le _, lv_sub hl [2, 3, 4, 5, 6, 1, 0] rfl⟩
  clear hl
  intro j ls hI ih
  obtain ⟨hI, hl⟩ := hI
  refine lv_iload hx hb dX6_sumWithin_6 (lv_at hl 6 rfl) ?_
  refine lv_aload_n hx hb dX6_sumWithin_8 rfl (lv_at hl 0 rfl) ?_
  refine va_get (D := (dC, dI)) (ci := 6) (v := .ref (a 3)) (C := RX6) (T := TX6) (N := 20) hx hb htg inX6 hown hK hP 0 (wR_g0 a k _) rfl 4 (by decide) (htg _ q_585) (fun _ h9 => h9) rfl dX6_sumWithin_9 ?_
  refine lv_iload_n hx hb dX6_sumWithin_12 rfl (lv_at hl 2 rfl) ?_
  refine va_iald hx hb hK hP 3 0 (wR_g3 a k _) rfl (vp_in_nI (n := n) (N := 200) (by omega) (by decide)) dX6_sumWithin_13 ?_
  refine wtopi (nI (cu_F u 2 n)) (congrArg (fun j9 => nI (cu_F u 2 j9)) (nI_clamp (n := n) (Nat.lt_trans (m := 200) (by omega) (by decide)))) ?_
  refine nb_ge (a := j) (b := (cu_F u 2 n)) (tgt := 67) hx hb (by omega) (by omega) rfl rfl dX6_sumWithin_14 (by decide) (fun c_14 => ?_) (fun c_14 => ?_)
  · refine lv_iload hx hb dX6_sumWithin_67 (lv_at hl 5 rfl) ?_
    exact W.iret (v := m_sw (fun i => cu_G u 2 (8 * n + i)) (m_beg u n) t1 t2 s0 j) hx hb hr (fun t9 ht9 hW9 => ⟨_, rfl, (by rw [show cu_F u 2 n = j by omega]), ht9⟩) (fun _ h => by cases h) dX6_sumWithin_69
  · refine lv_aload_n hx hb dX6_sumWithin_17 rfl (lv_at hl 0 rfl) ?_
    refine lv_iload_n hx hb dX6_sumWithin_18 rfl (lv_at hl 2 rfl) ?_
    refine vp_callSi (W.runV (As := [.int (nI n)]) (rest := []) ⟨hx, hb, hml, hown, hts⟩ (c_X6_begin l dC dI a k u h n hn) (cwV 1 hts (wG_V wG_c q_702 q_704 p_14 q_7 q_705) rfl rfl rfl (by decide +kernel) ⟨Nat.le_of_ble_eq_true rfl, Nat.le_of_ble_eq_true rfl⟩) (w_roV hK hP (ci := 6) (q0 := 0) rfl (wR_g0 a k _) rfl) rfl rfl hl.1 rfl (lv_room (Nat.le_of_ble_eq_true rfl)) dX6_sumWithin_19 ⟨Nat.le_of_ble_eq_true rfl, Nat.le_of_ble_eq_true rfl⟩) (fun r_1 hr_1 => ?_)
    subst hr_1
    refine lv_iload hx hb dX6_sumWithin_22 (lv_at hl 6 rfl) ?_
    refine lv_iadd hx hb dX6_sumWithin_24 ?_
    refine wtopi (y := iI (m_beg u n + (j : Int))) (by rw [nI_iI, iI_add]) ?_
    refine lv_iload_n hx hb dX6_sumWithin_25 rfl (lv_at hl 3 rfl) ?_
    refine wtopi (y := iI t1.toInt) (iI_self t1) ?_
    refine ib_lt (a := (m_beg u n + (j : Int))) (b := t1.toInt) (tgt := 61) hx hb (by omega) (by omega) (by omega) (by omega) rfl rfl dX6_sumWithin_26 (by decide) (fun c_26 => ?_) (fun c_26 => ?_)
    · rw [show m_sw (fun i => cu_G u 2 (8 * n + i)) (m_beg u n) t1 t2 s0 j = m_sw (fun i => cu_G u 2 (8 * n + i)) (m_beg u n) t1 t2 s0 (j + 1) from m_sw_f (m_in_f1 c_26)] at hl
      refine lv_iinc (v := nI (j + 1)) (lv' := [(6, .int (nI (j + 1))), (0, .ref (a 0)), (1, .int s0), (2, .int (nI n)), (3, .int t1), (4, .int t2), (5, .int (m_sw (fun i => cu_G u 2 (8 * n + i)) (m_beg u n) t1 t2 s0 (j + 1)))]) hx hb dX6_sumWithin_61 hl (k := 6) rfl (nI_1 j) (by decide) rfl (fun ls hl => ?_)
      refine lv_goto (tgt := 6) hx hb dX6_sumWithin_64 (by decide) ?_
      exact ih (j + 1) ls (by omega) ⟨by omega, lv_sub hl [1, 2, 3, 4, 5, 6, 0] rfl⟩
    · refine lv_aload_n hx hb dX6_sumWithin_29 rfl (lv_at hl 0 rfl) ?_
      refine lv_iload_n hx hb dX6_sumWithin_30 rfl (lv_at hl 2 rfl) ?_
      refine vp_callSi (W.runV (As := [.int (nI n)]) (rest := []) ⟨hx, hb, hml, hown, hts⟩ (c_X6_begin l dC dI a k u h n hn) (cwV 1 hts (wG_V wG_c q_702 q_704 p_14 q_7 q_705) rfl rfl rfl (by decide +kernel) ⟨Nat.le_of_ble_eq_true rfl, Nat.le_of_ble_eq_true rfl⟩) (w_roV hK hP (ci := 6) (q0 := 0) rfl (wR_g0 a k _) rfl) rfl rfl hl.1 rfl (lv_room (Nat.le_of_ble_eq_true rfl)) dX6_sumWithin_31 ⟨Nat.le_of_ble_eq_true rfl, Nat.le_of_ble_eq_true rfl⟩) (fun r_2 hr_2 => ?_)
      subst hr_2
      refine lv_iload hx hb dX6_sumWithin_34 (lv_at hl 6 rfl) ?_
      refine lv_iadd hx hb dX6_sumWithin_36 ?_
      refine wtopi (y := iI (m_beg u n + (j : Int))) (by rw [nI_iI, iI_add]) ?_
      refine lv_iload hx hb dX6_sumWithin_37 (lv_at hl 4 rfl) ?_
      refine wtopi (y := iI t2.toInt) (iI_self t2) ?_
      refine ib_ge (a := (m_beg u n + (j : Int))) (b := t2.toInt) (tgt := 61) hx hb (by omega) (by omega) (by omega) (by omega) rfl rfl dX6_sumWithin_39 (by decide) (fun c_39 => ?_) (fun c_39 => ?_)
      · rw [show m_sw (fun i => cu_G u 2 (8 * n + i)) (m_beg u n) t1 t2 s0 j = m_sw (fun i => cu_G u 2 (8 * n + i)) (m_beg u n) t1 t2 s0 (j + 1) from m_sw_f (m_in_f2 c_39)] at hl
        refine lv_iinc (v := nI (j + 1)) (lv' := [(6, .int (nI (j + 1))), (0, .ref (a 0)), (1, .int s0), (2, .int (nI n)), (3, .int t1), (4, .int t2), (5, .int (m_sw (fun i => cu_G u 2 (8 * n + i)) (m_beg u n) t1 t2 s0 (j + 1)))]) hx hb dX6_sumWithin_61 hl (k := 6) rfl (nI_1 j) (by decide) rfl (fun ls hl => ?_)
        refine lv_goto (tgt := 6) hx hb dX6_sumWithin_64 (by decide) ?_
        exact ih (j + 1) ls (by omega) ⟨by omega, lv_sub hl [1, 2, 3, 4, 5, 6, 0] rfl⟩
      · refine lv_iload hx hb dX6_sumWithin_42 (lv_at hl 5 rfl) ?_
        refine lv_aload_n hx hb dX6_sumWithin_44 rfl (lv_at hl 0 rfl) ?_
        refine va_get (D := (dC, dI)) (ci := 6) (v := .ref (a 14)) (C := RX6) (T := TX6) (N := 20) hx hb htg inX6 hown hK hP 0 (wR_g0 a k _) rfl 5 (by decide) (htg _ q_586) (fun _ h9 => h9) rfl dX6_sumWithin_45 ?_
        refine lv_bipush (v := 8) hx hb dX6_sumWithin_48 (by decide) ?_
        refine lv_iload_n hx hb dX6_sumWithin_50 rfl (lv_at hl 2 rfl) ?_
        refine lv_imul hx hb dX6_sumWithin_51 ?_
        refine wtopi (y := nI (8 * n)) (pk_mul 8 n) ?_
        refine lv_iload hx hb dX6_sumWithin_52 (lv_at hl 6 rfl) ?_
        refine lv_iadd hx hb dX6_sumWithin_54 ?_
        refine wtopi (y := nI (8 * n + j)) (nI_add _ _) ?_
        refine va_iald hx hb hK hP 14 0 (wR_g14 a k _) rfl (vp_in_nI (n := (8 * n + j)) (N := 1600) (by omega) (by decide)) dX6_sumWithin_55 ?_
        refine wtopi (cu_G u 2 (8 * n + j)) (congrArg (fun j9 => cu_G u 2 j9) (nI_clamp (n := (8 * n + j)) (Nat.lt_trans (m := 1600) (by omega) (by decide)))) ?_
        refine vp_callSi (W.runS (As := [.int (m_sw (fun i => cu_G u 2 (8 * n + i)) (m_beg u n) t1 t2 s0 j), .int (cu_G u 2 (8 * n + j))]) (rest := []) ⟨hx, hb, hml, hown, hts⟩ (c_X6_with l dC dI a k u (m_sw (fun i => cu_G u 2 (8 * n + i)) (m_beg u n) t1 t2 s0 j) (cu_G u 2 (8 * n + j))) (cwS 2 hts (wG_S wG_c q_662 q_663 q_7 q_664) rfl rfl rfl (by decide +kernel) ⟨Nat.le_of_ble_eq_true rfl, Nat.le_of_ble_eq_true rfl⟩) (w_roS hK hP) rfl rfl hl.1 rfl (lv_room (Nat.le_of_ble_eq_true rfl)) dX6_sumWithin_56 ⟨Nat.le_of_ble_eq_true rfl, Nat.le_of_ble_eq_true rfl⟩) (fun r_3 hr_3 => ?_)
        subst hr_3
        refine lv_istore (lv' := [(5, .int (c_rot (m_sw (fun i => cu_G u 2 (8 * n + i)) (m_beg u n) t1 t2 s0 j ^^^ cu_G u 2 (8 * n + j)))), (0, .ref (a 0)), (1, .int s0), (2, .int (nI n)), (3, .int t1), (4, .int t2), (6, .int (nI j))]) hx hb dX6_sumWithin_59 hl (by decide) rfl (fun ls hl => ?_)
        rw [show c_rot (m_sw (fun i => cu_G u 2 (8 * n + i)) (m_beg u n) t1 t2 s0 j ^^^ cu_G u 2 (8 * n + j)) = m_sw (fun i => cu_G u 2 (8 * n + i)) (m_beg u n) t1 t2 s0 (j + 1) from m_sw_t (m_in_t c_26 c_39)] at hl
        refine lv_iinc (v := nI (j + 1)) (lv' := [(6, .int (nI (j + 1))), (5, .int (m_sw (fun i => cu_G u 2 (8 * n + i)) (m_beg u n) t1 t2 s0 (j + 1))), (0, .ref (a 0)), (1, .int s0), (2, .int (nI n)), (3, .int t1), (4, .int t2)]) hx hb dX6_sumWithin_61 hl (k := 6) rfl (nI_1 j) (by decide) rfl (fun ls hl => ?_)
        refine lv_goto (tgt := 6) hx hb dX6_sumWithin_64 (by decide) ?_
        exact ih (j + 1) ls (by omega) ⟨by omega, lv_sub hl [2, 3, 4, 5, 6, 1, 0] rfl⟩
end
section
/-! the reference's public methods in numbers -/
theorem inR_nat {x : Int32} {lo hi : Int32} {l9 h9 : Nat} (h : inR x lo hi = true) (e1 : lo = nI l9) (e2 : hi = nI h9) (hb : l9 ≤ h9 ∧ h9 < 2147483648) : ∃ j : Nat, l9 ≤ j ∧ j ≤ h9 ∧ x = nI j := by
  subst e1 e2
  unfold inR at h
  rw [decide_eq_true_iff, Int32.le_iff_toInt_le, Int32.le_iff_toInt_le, nI_toInt (by omega), nI_toInt (by omega)] at h
  refine ⟨x.toInt.toNat, by omega, by omega, ?_⟩
  rw [nI_iI, Int.toNat_of_nonneg (by omega)]
  exact iI_self x
def m_byte (b : Int64) (sh : Int32) : Int32 := (b >>> (sh.toInt64 &&& 63)).toInt32 &&& 255
/-- a new slot's bytes, the first k of them -/
def m_by (u : c_St) (s : Nat) (b : Int64) (n : Nat) : Nat → c_St
  | 0 => u
  | k + 1 => cs_G (m_by u s b n k) 2 (8 * s + k) (m_byte b (nI (8 * (n - 1 - k))))
theorem m_by_N (u : c_St) (s : Nat) (b : Int64) (n : Nat) : ∀ k, cu_N (m_by u s b n k) = cu_N u
  | 0 => rfl
  | k + 1 => m_by_N u s b n k
theorem m_by_F (u : c_St) (s : Nat) (b : Int64) (n : Nat) : ∀ k, cu_F (m_by u s b n k) = cu_F u
  | 0 => rfl
  | k + 1 => m_by_F u s b n k
def m_put (u : c_St) (sc tm n un ic : Nat) : c_St := cs_F (cs_F (cs_F (cs_F (cs_F u 0 (cu_N u 0) sc) 1 (cu_N u 0) tm) 2 (cu_N u 0) n) 3 (cu_N u 0) un) 4 (cu_N u 0) ic
def m_add (u : c_St) (sc tm n : Nat) (bt : Int64) (un ic : Nat) : c_St := cs_N (cs_G (m_by (m_put u sc tm n un ic) (cu_N u 0) bt n n) 0 (cu_N u 0) (m_sm (fun i => cu_G (m_by (m_put u sc tm n un ic) (cu_N u 0) bt n n) 2 (8 * cu_N u 0 + i)) 0 n)) 0 (cu_N u 0 + 1)
def m_ct (u : c_St) (m : Nat) : Bool := decide (cu_D u 0 m ≠ cu_D u 0 (m_first u (cu_F u 5 m)).toNat)
def m_cn (u : c_St) : Nat → Nat
  | 0 => 0
  | m + 1 => m_cn u m + (if m_ct u m = true then 1 else 0)
def m_con (u : c_St) (q : Nat) : Nat → Int
  | 0 => -1
  | m + 1 => if m_con u q m = -1 then (if m_ct u m = true ∧ m_cn u m = q then 100 * m_first u (cu_F u 5 m) + (m : Int) else -1) else m_con u q m
def m_sz (u : c_St) (t1 t2 : Int32) : Nat → Nat
  | 0 => 0
  | s + 1 => m_sz u t1 t2 s + (if cu_B u 0 s = true then 0 else m_wi (m_beg u s) t1 t2 (cu_F u 2 s))
def m_ex (u : c_St) (t1 t2 : Int32) : Nat → Int32
  | 0 => 0
  | k + 1 => m_sw (fun i => cu_G u 2 (8 * (m_fnd u t1 t2 (-1) (-1) k (cu_N u 0)).toNat + i)) (m_beg u (m_fnd u t1 t2 (-1) (-1) k (cu_N u 0)).toNat) t1 t2 (m_ex u t1 t2 k) (cu_F u 2 (m_fnd u t1 t2 (-1) (-1) k (cu_N u 0)).toNat)
def m_vf (u : c_St) : Nat → Int
  | 0 => -1
  | s + 1 => if m_vf u s = -1 then (if cu_B u 0 s = false ∧ m_sm (fun i => cu_G u 2 (8 * s + i)) 0 (cu_F u 2 s) ≠ cu_G u 0 s then (s : Int) else -1) else m_vf u s
def m_th (u : c_St) : Nat → Nat
  | 0 => 0
  | s + 1 => m_th u s + (if cu_B u 0 s = true then 0 else 1)
theorem m_fnd_b (u : c_St) (t1 t2 pu pi : Int32) (q : Nat) : ∀ k, -1 ≤ m_fnd u t1 t2 pu pi q k ∧ m_fnd u t1 t2 pu pi q k < (k : Int)
  | 0 => by unfold m_fnd; omega
  | k + 1 => by
    have := m_fnd_b u t1 t2 pu pi q k
    unfold m_fnd
    split
    · split <;> omega
    · omega
/-- who is found has just so many ahead -/
theorem m_fnd_q {u : c_St} {t1 t2 pu pi : Int32} {q : Nat} : ∀ k, 0 ≤ m_fnd u t1 t2 pu pi q k → m_fit u (m_fnd u t1 t2 pu pi q k).toNat t1 t2 pu pi = true ∧ m_ah u t1 t2 pu pi (m_fnd u t1 t2 pu pi q k).toNat (cu_N u 0) = q
  | 0 => by unfold m_fnd; omega
  | k + 1 => by
    have ih := m_fnd_q (u := u) (t1 := t1) (t2 := t2) (pu := pu) (pi := pi) (q := q) k
    unfold m_fnd
    split
    · split
      · rename_i h; intro _; rw [Int.toNat_natCast]; exact h
      · omega
    · exact ih

set_option maxHeartbeats 4000000 in
set_option maxRecDepth 100000 in
theorem c_X6_throwing (l : Launch) (dC : Nat → ClassId) (dI : Nat → Nat → Nat) (a : Nat → Nat) (k : c_K) (u : c_St) (sz : Nat) (b1 b2 b3 : Bool) : Met l yX6_throwing wsX6_throwing ({ frames := 0, cells := 0, slots := 0, locals := 0 }) (va_Pc [.ref (a 0), .int (bI b1), .int (bI b2), .int (bI b3)] (w_mu (dC, dI) vwCl (wR a k u) (tC k) sz)) (va_Qi (fun (r : Int32) (u1 : c_St) => r = bI (b1 || b2 || b3) ∧ u1 = cs_N u 4 (m_code b1 b2 b3)) (w_at (dC, dI) vwCl (wR a k) (tC k) (va_A (wR a k u) sz)) (va_A (wR a k u) sz)) 0 0 (va_A (wR a k u) sz) := by
  refine Met.ofW (cc := cX6_throwing) (maxL := 4) (ret := (some .boolean)) (by decide) rfl ?_
  intro p e s m args below meth c s₁ B hml hv
  obtain ⟨rfl, hsz, hP, hK, hD0⟩ := hv
  have hx := B.exec
  have hb := B.bytes
  have hr := B.returns
  have hts := atoms_spec (ws := wsX6_throwing) B.pre
  have htg : ∀ w ∈ wG, w.before _ s = true := fun w h => hts w (List.mem_cons_of_mem _ h)
  have hown : s.vm.findClass RX6 = some m.cls := findClass_of_methodNamed B.named
  have hlocks := B.notSynchronized
  subst hsz
  have hD := hD0.self (sz := s.heap.size)
  generalize hAe : va_A (wR a k u) s.heap.size = A at hD ⊢
  have hA : ∀ q : Nat, s.heap.size ≤ q → A q := fun q h => by rw [← hAe]; exact Or.inr h
  have hS : va_S A s.heap s.heap [] := va_S.rf
  have hl := lv_entry ([.ref (a 0), .int (bI b1), .int (bI b2), .int (bI b3)]) (n := 4) (Nat.le_of_ble_eq_true rfl)
  rw [lg_entry_eq]
  generalize (lg_sl ([.ref (a 0), .int (bI b1), .int (bI b2), .int (bI b3)]) ++ List.replicate (4 - (lg_sl ([.ref (a 0), .int (bI b1), .int (bI b2), .int (bI b3)])).length) Slot.unset).toArray = ls at hl ⊢
  have hl : lv_has ls 4 [(0, .ref (a 0)), (1, .int (bI b1)), (2, .int (bI b2)), (3, .int (bI b3))] := hl
  refine lv_aload_n hx hb dX6_throwing_0 rfl (lv_at hl 0 rfl) ?_
  refine lv_iload_n hx hb dX6_throwing_1 rfl (lv_at hl 1 rfl) ?_
  refine bz_eq (a := b1) (tgt := 9) hx hb dX6_throwing_2 (by decide) (fun c_2 => ?_) (fun c_2 => ?_)
  · refine lv_iload_n hx hb dX6_throwing_9 rfl (lv_at hl 2 rfl) ?_
    refine bz_eq (a := b2) (tgt := 17) hx hb dX6_throwing_10 (by decide) (fun c_10 => ?_) (fun c_10 => ?_)
    · refine lv_iload_n hx hb dX6_throwing_17 rfl (lv_at hl 3 rfl) ?_
      refine bz_eq (a := b3) (tgt := 25) hx hb dX6_throwing_18 (by decide) (fun c_18 => ?_) (fun c_18 => ?_)
      · refine lv_iconst (v := 0) hx hb dX6_throwing_25 (by decide) ?_
        refine va_put (D := (dC, dI)) (ci := 6) (v := .int 0) (ty := .int) (C := RX6) (T := TX6) (N := 20) hx hb htg inX6 tyX6 tyX6_ok nmX6 hown hK hP hD hS 0 (wR_g0 a k _) rfl 0 (by decide) (htg _ q_581) (fun _ h9 => h9) rfl (by decide +kernel) rfl rfl (Nat.le_of_ble_eq_true rfl) dX6_throwing_26 (fun H locs hP hD hS => ?_)
        have hP := w_pE (wR_n4 a k _ 0) hP
        have hD := w_dE (wR_n4 a k _ 0) hD
        refine lv_aload_n hx hb dX6_throwing_29 rfl (lv_at hl 0 rfl) ?_
        refine va_get (D := (dC, dI)) (ci := 6) (v := .int (nI (cu_N (cs_N u 4 0) 4))) (C := RX6) (T := TX6) (N := 20) hx hb htg inX6 hown hK hP 0 (wR_g0 a k _) rfl 0 (by decide) (htg _ q_581) (fun _ h9 => h9) rfl dX6_throwing_30 ?_
        refine wtopi (y := 0) rfl ?_
        refine lv_if_le (tgt := 40) hx hb dX6_throwing_33 (by decide) (fun _ => ?_) (fun h9 => absurd h9 (by decide))
        refine lv_iconst (v := 0) hx hb dX6_throwing_40 (by decide) ?_
        exact W.zret (v := bI false) hx hb hr (bI_narw _) (fun t9 ht9 hW9 => ⟨⟨_, cs_N u 4 0, rfl, ⟨congrArg bI (by simp [c_2, c_10, c_18]), by simp [m_code, c_2, c_10, c_18]⟩, by rw [ht9]; exact hP, va_K.moved hW9.alike hK, hD⟩, hS.F ht9⟩) hS.2.2 dX6_throwing_41
      · refine lv_iconst (v := 3) hx hb dX6_throwing_21 (by decide) ?_
        refine lv_goto (tgt := 26) hx hb dX6_throwing_22 (by decide) ?_
        refine va_put (D := (dC, dI)) (ci := 6) (v := .int 3) (ty := .int) (C := RX6) (T := TX6) (N := 20) hx hb htg inX6 tyX6 tyX6_ok nmX6 hown hK hP hD hS 0 (wR_g0 a k _) rfl 0 (by decide) (htg _ q_581) (fun _ h9 => h9) rfl (by decide +kernel) rfl rfl (Nat.le_of_ble_eq_true rfl) dX6_throwing_26 (fun H locs hP hD hS => ?_)
        have hP := w_pE (wR_n4 a k _ 3) hP
        have hD := w_dE (wR_n4 a k _ 3) hD
        refine lv_aload_n hx hb dX6_throwing_29 rfl (lv_at hl 0 rfl) ?_
        refine va_get (D := (dC, dI)) (ci := 6) (v := .int (nI (cu_N (cs_N u 4 3) 4))) (C := RX6) (T := TX6) (N := 20) hx hb htg inX6 hown hK hP 0 (wR_g0 a k _) rfl 0 (by decide) (htg _ q_581) (fun _ h9 => h9) rfl dX6_throwing_30 ?_
        refine wtopi (y := 3) rfl ?_
        refine lv_if_le (tgt := 40) hx hb dX6_throwing_33 (by decide) (fun h9 => absurd h9 (by decide)) (fun _ => ?_)
        refine lv_iconst (v := 1) hx hb dX6_throwing_36 (by decide) ?_
        refine lv_goto (tgt := 41) hx hb dX6_throwing_37 (by decide) ?_
        exact W.zret (v := bI true) hx hb hr (bI_narw _) (fun t9 ht9 hW9 => ⟨⟨_, cs_N u 4 3, rfl, ⟨congrArg bI (by simp [c_2, c_10, c_18]), by simp [m_code, c_2, c_10, c_18]⟩, by rw [ht9]; exact hP, va_K.moved hW9.alike hK, hD⟩, hS.F ht9⟩) hS.2.2 dX6_throwing_41
    · refine lv_iconst (v := 2) hx hb dX6_throwing_13 (by decide) ?_
      refine lv_goto (tgt := 26) hx hb dX6_throwing_14 (by decide) ?_
      refine va_put (D := (dC, dI)) (ci := 6) (v := .int 2) (ty := .int) (C := RX6) (T := TX6) (N := 20) hx hb htg inX6 tyX6 tyX6_ok nmX6 hown hK hP hD hS 0 (wR_g0 a k _) rfl 0 (by decide) (htg _ q_581) (fun _ h9 => h9) rfl (by decide +kernel) rfl rfl (Nat.le_of_ble_eq_true rfl) dX6_throwing_26 (fun H locs hP hD hS => ?_)
      have hP := w_pE (wR_n4 a k _ 2) hP
      have hD := w_dE (wR_n4 a k _ 2) hD
      refine lv_aload_n hx hb dX6_throwing_29 rfl (lv_at hl 0 rfl) ?_
      refine va_get (D := (dC, dI)) (ci := 6) (v := .int (nI (cu_N (cs_N u 4 2) 4))) (C := RX6) (T := TX6) (N := 20) hx hb htg inX6 hown hK hP 0 (wR_g0 a k _) rfl 0 (by decide) (htg _ q_581) (fun _ h9 => h9) rfl dX6_throwing_30 ?_
      refine wtopi (y := 2) rfl ?_
      refine lv_if_le (tgt := 40) hx hb dX6_throwing_33 (by decide) (fun h9 => absurd h9 (by decide)) (fun _ => ?_)
      refine lv_iconst (v := 1) hx hb dX6_throwing_36 (by decide) ?_
      refine lv_goto (tgt := 41) hx hb dX6_throwing_37 (by decide) ?_
      exact W.zret (v := bI true) hx hb hr (bI_narw _) (fun t9 ht9 hW9 => ⟨⟨_, cs_N u 4 2, rfl, ⟨congrArg bI (by simp [c_2, c_10]), by simp [m_code, c_2, c_10]⟩, by rw [ht9]; exact hP, va_K.moved hW9.alike hK, hD⟩, hS.F ht9⟩) hS.2.2 dX6_throwing_41
  · refine lv_iconst (v := 1) hx hb dX6_throwing_5 (by decide) ?_
    refine lv_goto (tgt := 26) hx hb dX6_throwing_6 (by decide) ?_
    refine va_put (D := (dC, dI)) (ci := 6) (v := .int 1) (ty := .int) (C := RX6) (T := TX6) (N := 20) hx hb htg inX6 tyX6 tyX6_ok nmX6 hown hK hP hD hS 0 (wR_g0 a k _) rfl 0 (by decide) (htg _ q_581) (fun _ h9 => h9) rfl (by decide +kernel) rfl rfl (Nat.le_of_ble_eq_true rfl) dX6_throwing_26 (fun H locs hP hD hS => ?_)
    have hP := w_pE (wR_n4 a k _ 1) hP
    have hD := w_dE (wR_n4 a k _ 1) hD
    refine lv_aload_n hx hb dX6_throwing_29 rfl (lv_at hl 0 rfl) ?_
    refine va_get (D := (dC, dI)) (ci := 6) (v := .int (nI (cu_N (cs_N u 4 1) 4))) (C := RX6) (T := TX6) (N := 20) hx hb htg inX6 hown hK hP 0 (wR_g0 a k _) rfl 0 (by decide) (htg _ q_581) (fun _ h9 => h9) rfl dX6_throwing_30 ?_
    refine wtopi (y := 1) rfl ?_
    refine lv_if_le (tgt := 40) hx hb dX6_throwing_33 (by decide) (fun h9 => absurd h9 (by decide)) (fun _ => ?_)
    refine lv_iconst (v := 1) hx hb dX6_throwing_36 (by decide) ?_
    refine lv_goto (tgt := 41) hx hb dX6_throwing_37 (by decide) ?_
    exact W.zret (v := bI true) hx hb hr (bI_narw _) (fun t9 ht9 hW9 => ⟨⟨_, cs_N u 4 1, rfl, ⟨congrArg bI (by simp [c_2]), by simp [m_code, c_2]⟩, by rw [ht9]; exact hP, va_K.moved hW9.alike hK, hD⟩, hS.F ht9⟩) hS.2.2 dX6_throwing_41
set_option maxHeartbeats 4000000 in
set_option maxRecDepth 100000 in
theorem c_X6_thrown (l : Launch) (dC : Nat → ClassId) (dI : Nat → Nat → Nat) (a : Nat → Nat) (k : c_K) (u : c_St)  : Met l yX6_thrown wsX6_thrown ({ frames := 0, cells := 0, slots := 0, locals := 0 }) (va_Pc [.ref (a 0)] (w_ro (dC, dI) vwCl (wR a k u) (tC k))) (vp_Si (fun r => r = nI (cu_N u 4))) 0 0 (fun _ => False) := by
  refine Met.ofW (cc := cX6_thrown) (maxL := 1) (ret := (some .int)) (by decide) rfl ?_
  intro p e s m args below meth c s₁ B hml hv
  obtain ⟨rfl, hP, hK⟩ := hv
  have hx := B.exec
  have hb := B.bytes
  have hr := B.returns
  have hts := atoms_spec (ws := wsX6_thrown) B.pre
  have htg : ∀ w ∈ wG, w.before _ s = true := fun w h => hts w (List.mem_cons_of_mem _ h)
  have hown : s.vm.findClass RX6 = some m.cls := findClass_of_methodNamed B.named
  have hlocks := B.notSynchronized
  have hl := lv_entry ([.ref (a 0)]) (n := 1) (Nat.le_of_ble_eq_true rfl)
  rw [lg_entry_eq]
  generalize (lg_sl ([.ref (a 0)]) ++ List.replicate (1 - (lg_sl ([.ref (a 0)])).length) Slot.unset).toArray = ls at hl ⊢
  have hl : lv_has ls 1 [(0, .ref (a 0))] := hl
  refine lv_aload_n hx hb dX6_thrown_0 rfl (lv_at hl 0 rfl) ?_
  refine va_get (D := (dC, dI)) (ci := 6) (v := .int (nI (cu_N u 4))) (C := RX6) (T := TX6) (N := 20) hx hb htg inX6 hown hK hP 0 (wR_g0 a k _) rfl 0 (by decide) (htg _ q_581) (fun _ h9 => h9) rfl dX6_thrown_1 ?_
  exact W.iret (v := nI (cu_N u 4)) hx hb hr (fun t9 ht9 hW9 => ⟨_, rfl, rfl, ht9⟩) (fun _ h => by cases h) dX6_thrown_4
set_option maxHeartbeats 4000000 in
set_option maxRecDepth 100000 in
theorem c_X6_slot (l : Launch) (dC : Nat → ClassId) (dI : Nat → Nat → Nat) (a : Nat → Nat) (k : c_K) (u : c_St) (sz : Nat) (h20 : cu_N u 0 ≤ 200) (p0 p1 p2 : Int32) (bt : Int64) (p4 p5 : Int32) : Met l yX6_slot wsX6_slot ({ frames := 2, cells := 0, slots := 0, locals := 45 }) (va_Pc [.ref (a 0), .int p0, .int p1, .int p2, .long bt, .int p4, .int p5] (w_mu (dC, dI) vwCl (wR a k u) (tC k) sz)) (va_Qi (fun (r : Int32) (u1 : c_St) => (m_code (!inR p0 0 9 || !inR p4 0 99 || !inR p5 0 49) (!inR p1 0 9999999 || !inR p2 1 8) (decide (cu_N u 0 = 200)) ≠ 0 → u1 = cs_N u 4 (m_code (!inR p0 0 9 || !inR p4 0 99 || !inR p5 0 49) (!inR p1 0 9999999 || !inR p2 1 8) (decide (cu_N u 0 = 200)))) ∧ (m_code (!inR p0 0 9 || !inR p4 0 99 || !inR p5 0 49) (!inR p1 0 9999999 || !inR p2 1 8) (decide (cu_N u 0 = 200)) = 0 → ∃ sc tm n un ic : Nat, p0 = nI sc ∧ p1 = nI tm ∧ p2 = nI n ∧ p4 = nI un ∧ p5 = nI ic ∧ sc ≤ 9 ∧ tm ≤ 9999999 ∧ 1 ≤ n ∧ n ≤ 8 ∧ un ≤ 99 ∧ ic ≤ 49 ∧ cu_N u 0 < 200 ∧ r = nI (cu_N u 0) ∧ u1 = m_add (cs_N u 4 0) sc tm n bt un ic)) (w_at (dC, dI) vwCl (wR a k) (tC k) (va_A (wR a k u) sz)) (va_A (wR a k u) sz)) 0 0 (va_A (wR a k u) sz) := by
  refine Met.ofW (cc := cX6_slot) (maxL := 11) (ret := (some .int)) (by decide) rfl ?_
  intro p e s m args below meth c s₁ B hml hv
  obtain ⟨rfl, hsz, hP, hK, hD0⟩ := hv
  have hx := B.exec
  have hb := B.bytes
  have hr := B.returns
  have hts := atoms_spec (ws := wsX6_slot) B.pre
  have htg : ∀ w ∈ wG, w.before _ s = true := fun w h => hts w (List.mem_cons_of_mem _ h)
  have hown : s.vm.findClass RX6 = some m.cls := findClass_of_methodNamed B.named
  have hlocks := B.notSynchronized
  subst hsz
  have hD := hD0.self (sz := s.heap.size)
  generalize hAe : va_A (wR a k u) s.heap.size = A at hD ⊢
  have hA : ∀ q : Nat, s.heap.size ≤ q → A q := fun q h => by rw [← hAe]; exact Or.inr h
  have hS : va_S A s.heap s.heap [] := va_S.rf
  have hl := lv_entry ([.ref (a 0), .int p0, .int p1, .int p2, .long bt, .int p4, .int p5]) (n := 11) (Nat.le_of_ble_eq_true rfl)
  rw [lg_entry_eq]
  generalize (lg_sl ([.ref (a 0), .int p0, .int p1, .int p2, .long bt, .int p4, .int p5]) ++ List.replicate (11 - (lg_sl ([.ref (a 0), .int p0, .int p1, .int p2, .long bt, .int p4, .int p5])).length) Slot.unset).toArray = ls at hl ⊢
  have hl : lv_has ls 11 [(0, .ref (a 0)), (1, .int p0), (2, .int p1), (3, .int p2), (4, .long bt), (6, .int p4), (7, .int p5)] := hl
  refine lv_iload_n hx hb dX6_slot_0 rfl (lv_at hl 1 rfl) ?_
  refine lv_iconst (v := 0) hx hb dX6_slot_1 (by decide) ?_
  refine lv_bipush (v := 9) hx hb dX6_slot_2 (by decide) ?_
  refine vp_callSi (W.runS (As := [.int p0, .int 0, .int 9]) (rest := []) ⟨hx, hb, hml, hown, hts⟩ (c_X6_in l dC dI a k u p0 0 9) (cwS 3 hts (wG_S wG_c q_650 q_651 q_7 q_652) rfl rfl rfl (by decide +kernel) ⟨Nat.le_of_ble_eq_true rfl, Nat.le_of_ble_eq_true rfl⟩) (w_roS hK hP) rfl rfl hl.1 rfl (lv_room (Nat.le_of_ble_eq_true rfl)) dX6_slot_4 ⟨Nat.le_of_ble_eq_true rfl, Nat.le_of_ble_eq_true rfl⟩) (fun r_1 hr_1 => ?_)
  subst hr_1
  refine bz_eq (a := (inR p0 0 9)) (tgt := 32) hx hb dX6_slot_7 (by decide) (fun c_7 => ?_) (fun c_7 => ?_)
  · refine lv_iconst (v := 1) hx hb dX6_slot_32 (by decide) ?_
    refine lv_goto (tgt := 37) hx hb dX6_slot_33 (by decide) ?_
    refine lv_istore (lv' := [(8, .int 1), (0, .ref (a 0)), (1, .int p0), (2, .int p1), (3, .int p2), (4, .long bt), (6, .int p4), (7, .int p5)]) hx hb dX6_slot_37 hl (by decide) rfl (fun ls hl => ?_)
    refine lv_aload_n hx hb dX6_slot_39 rfl (lv_at hl 1 rfl) ?_
    refine lv_iload hx hb dX6_slot_40 (lv_at hl 0 rfl) ?_
    refine lv_iload_n hx hb dX6_slot_42 rfl (lv_at hl 3 rfl) ?_
    refine lv_iconst (v := 0) hx hb dX6_slot_43 (by decide) ?_
    refine lv_ldc (v := 9999999) hx hb hown (htg _ q_653) dX6_slot_44 ?_
    refine vp_callSi (W.runS (As := [.int p1, .int 0, .int 9999999]) (rest := [.int 1, .ref (a 0)]) ⟨hx, hb, hml, hown, hts⟩ (c_X6_in l dC dI a k u p1 0 9999999) (cwS 3 hts (wG_S wG_c q_650 q_651 q_7 q_652) rfl rfl rfl (by decide +kernel) ⟨Nat.le_of_ble_eq_true rfl, Nat.le_of_ble_eq_true rfl⟩) (w_roS hK hP) rfl rfl hl.1 rfl (lv_room (Nat.le_of_ble_eq_true rfl)) dX6_slot_46 ⟨Nat.le_of_ble_eq_true rfl, Nat.le_of_ble_eq_true rfl⟩) (fun r_2 hr_2 => ?_)
    subst hr_2
    refine bz_eq (a := (inR p1 0 9999999)) (tgt := 62) hx hb dX6_slot_49 (by decide) (fun c_49 => ?_) (fun c_49 => ?_)
    · refine lv_iconst (v := 1) hx hb dX6_slot_62 (by decide) ?_
      refine lv_goto (tgt := 67) hx hb dX6_slot_63 (by decide) ?_
      refine lv_aload_n hx hb dX6_slot_67 rfl (lv_at hl 1 rfl) ?_
      refine va_get (D := (dC, dI)) (ci := 6) (v := .int (nI (cu_N u 0))) (C := RX6) (T := TX6) (N := 20) hx hb htg inX6 hown hK hP 0 (wR_g0 a k _) rfl 1 (by decide) (htg _ q_582) (fun _ h9 => h9) rfl dX6_slot_68 ?_
      refine lv_sipush (v := 200) hx hb dX6_slot_71 (by decide) ?_
      refine nb_ne (a := (cu_N u 0)) (b := 200) (tgt := 81) hx hb (by omega) (by omega) rfl rfl dX6_slot_74 (by decide) (fun c_74 => ?_) (fun c_74 => ?_)
      · refine lv_iconst (v := 0) hx hb dX6_slot_81 (by decide) ?_
        refine w_cali (w := wR a k) (va_runV (As := [.int 1, .int 1, .int 0]) (rest := []) ⟨hx, hb, hml, hown, hts⟩ (c_X6_throwing l dC dI a k u _ true true false) (cwV 3 hts (wG_V wG_c q_654 q_656 p_7 q_7 q_657) rfl rfl rfl (by decide +kernel) ⟨Nat.le_of_ble_eq_true rfl, Nat.le_of_ble_eq_true rfl⟩) (w_muV hK hP hD (ci := 6) (q0 := 0) rfl (wR_g0 a k _) rfl) rfl rfl hl.1 rfl (lv_room (Nat.le_of_ble_eq_true rfl)) dX6_slot_82 ⟨Nat.le_of_ble_eq_true rfl, Nat.le_of_ble_eq_true rfl⟩) hD hS hA (fun r_3 u_3 H locs hq_3 hP hD hS => ?_)
        obtain ⟨er9, eu9⟩ := hq_3
        subst er9 eu9
        refine wtopi (1) rfl ?_
        refine lv_if_eq (tgt := 90) hx hb dX6_slot_85 (by decide) (fun h9 => absurd h9 (by decide)) (fun _ => ?_)
        refine lv_iconst (v := 0) hx hb dX6_slot_88 (by decide) ?_
        exact W.iret (v := 0) hx hb hr (fun t9 ht9 hW9 => ⟨⟨_, cs_N u 4 (m_code true true false), rfl, ⟨fun _ => congrArg (cs_N u 4) (by simp [c_7, c_49, c_74]), fun h9 => absurd h9 (by simp [m_code, c_7, c_49, c_74])⟩, by rw [ht9]; exact hP, va_K.moved hW9.alike hK, hD⟩, hS.F ht9⟩) hS.2.2 dX6_slot_89
      · refine lv_iconst (v := 1) hx hb dX6_slot_77 (by decide) ?_
        refine lv_goto (tgt := 82) hx hb dX6_slot_78 (by decide) ?_
        refine w_cali (w := wR a k) (va_runV (As := [.int 1, .int 1, .int 1]) (rest := []) ⟨hx, hb, hml, hown, hts⟩ (c_X6_throwing l dC dI a k u _ true true true) (cwV 3 hts (wG_V wG_c q_654 q_656 p_7 q_7 q_657) rfl rfl rfl (by decide +kernel) ⟨Nat.le_of_ble_eq_true rfl, Nat.le_of_ble_eq_true rfl⟩) (w_muV hK hP hD (ci := 6) (q0 := 0) rfl (wR_g0 a k _) rfl) rfl rfl hl.1 rfl (lv_room (Nat.le_of_ble_eq_true rfl)) dX6_slot_82 ⟨Nat.le_of_ble_eq_true rfl, Nat.le_of_ble_eq_true rfl⟩) hD hS hA (fun r_4 u_4 H locs hq_4 hP hD hS => ?_)
        obtain ⟨er9, eu9⟩ := hq_4
        subst er9 eu9
        refine wtopi (1) rfl ?_
        refine lv_if_eq (tgt := 90) hx hb dX6_slot_85 (by decide) (fun h9 => absurd h9 (by decide)) (fun _ => ?_)
        refine lv_iconst (v := 0) hx hb dX6_slot_88 (by decide) ?_
        exact W.iret (v := 0) hx hb hr (fun t9 ht9 hW9 => ⟨⟨_, cs_N u 4 (m_code true true true), rfl, ⟨fun _ => congrArg (cs_N u 4) (by simp [c_7, c_49, c_74]), fun h9 => absurd h9 (by simp [m_code, c_7, c_49, c_74])⟩, by rw [ht9]; exact hP, va_K.moved hW9.alike hK, hD⟩, hS.F ht9⟩) hS.2.2 dX6_slot_89
    · refine lv_iload_n hx hb dX6_slot_52 rfl (lv_at hl 4 rfl) ?_
      refine lv_iconst (v := 1) hx hb dX6_slot_53 (by decide) ?_
      refine lv_bipush (v := 8) hx hb dX6_slot_54 (by decide) ?_
      refine vp_callSi (W.runS (As := [.int p2, .int 1, .int 8]) (rest := [.int 1, .ref (a 0)]) ⟨hx, hb, hml, hown, hts⟩ (c_X6_in l dC dI a k u p2 1 8) (cwS 3 hts (wG_S wG_c q_650 q_651 q_7 q_652) rfl rfl rfl (by decide +kernel) ⟨Nat.le_of_ble_eq_true rfl, Nat.le_of_ble_eq_true rfl⟩) (w_roS hK hP) rfl rfl hl.1 rfl (lv_room (Nat.le_of_ble_eq_true rfl)) dX6_slot_56 ⟨Nat.le_of_ble_eq_true rfl, Nat.le_of_ble_eq_true rfl⟩) (fun r_5 hr_5 => ?_)
      subst hr_5
      refine bz_ne (a := (inR p2 1 8)) (tgt := 66) hx hb dX6_slot_59 (by decide) (fun c_59 => ?_) (fun c_59 => ?_)
      · refine lv_iconst (v := 0) hx hb dX6_slot_66 (by decide) ?_
        refine lv_aload_n hx hb dX6_slot_67 rfl (lv_at hl 1 rfl) ?_
        refine va_get (D := (dC, dI)) (ci := 6) (v := .int (nI (cu_N u 0))) (C := RX6) (T := TX6) (N := 20) hx hb htg inX6 hown hK hP 0 (wR_g0 a k _) rfl 1 (by decide) (htg _ q_582) (fun _ h9 => h9) rfl dX6_slot_68 ?_
        refine lv_sipush (v := 200) hx hb dX6_slot_71 (by decide) ?_
        refine nb_ne (a := (cu_N u 0)) (b := 200) (tgt := 81) hx hb (by omega) (by omega) rfl rfl dX6_slot_74 (by decide) (fun c_74 => ?_) (fun c_74 => ?_)
        · refine lv_iconst (v := 0) hx hb dX6_slot_81 (by decide) ?_
          refine w_cali (w := wR a k) (va_runV (As := [.int 1, .int 0, .int 0]) (rest := []) ⟨hx, hb, hml, hown, hts⟩ (c_X6_throwing l dC dI a k u _ true false false) (cwV 3 hts (wG_V wG_c q_654 q_656 p_7 q_7 q_657) rfl rfl rfl (by decide +kernel) ⟨Nat.le_of_ble_eq_true rfl, Nat.le_of_ble_eq_true rfl⟩) (w_muV hK hP hD (ci := 6) (q0 := 0) rfl (wR_g0 a k _) rfl) rfl rfl hl.1 rfl (lv_room (Nat.le_of_ble_eq_true rfl)) dX6_slot_82 ⟨Nat.le_of_ble_eq_true rfl, Nat.le_of_ble_eq_true rfl⟩) hD hS hA (fun r_6 u_6 H locs hq_6 hP hD hS => ?_)
          obtain ⟨er9, eu9⟩ := hq_6
          subst er9 eu9
          refine wtopi (1) rfl ?_
          refine lv_if_eq (tgt := 90) hx hb dX6_slot_85 (by decide) (fun h9 => absurd h9 (by decide)) (fun _ => ?_)
          refine lv_iconst (v := 0) hx hb dX6_slot_88 (by decide) ?_
          exact W.iret (v := 0) hx hb hr (fun t9 ht9 hW9 => ⟨⟨_, cs_N u 4 (m_code true false false), rfl, ⟨fun _ => congrArg (cs_N u 4) (by simp [c_7, c_49, c_59, c_74]), fun h9 => absurd h9 (by simp [m_code, c_7, c_49, c_59, c_74])⟩, by rw [ht9]; exact hP, va_K.moved hW9.alike hK, hD⟩, hS.F ht9⟩) hS.2.2 dX6_slot_89
        · refine lv_iconst (v := 1) hx hb dX6_slot_77 (by decide) ?_
          refine lv_goto (tgt := 82) hx hb dX6_slot_78 (by decide) ?_
          refine w_cali (w := wR a k) (va_runV (As := [.int 1, .int 0, .int 1]) (rest := []) ⟨hx, hb, hml, hown, hts⟩ (c_X6_throwing l dC dI a k u _ true false true) (cwV 3 hts (wG_V wG_c q_654 q_656 p_7 q_7 q_657) rfl rfl rfl (by decide +kernel) ⟨Nat.le_of_ble_eq_true rfl, Nat.le_of_ble_eq_true rfl⟩) (w_muV hK hP hD (ci := 6) (q0 := 0) rfl (wR_g0 a k _) rfl) rfl rfl hl.1 rfl (lv_room (Nat.le_of_ble_eq_true rfl)) dX6_slot_82 ⟨Nat.le_of_ble_eq_true rfl, Nat.le_of_ble_eq_true rfl⟩) hD hS hA (fun r_7 u_7 H locs hq_7 hP hD hS => ?_)
          obtain ⟨er9, eu9⟩ := hq_7
          subst er9 eu9
          refine wtopi (1) rfl ?_
          refine lv_if_eq (tgt := 90) hx hb dX6_slot_85 (by decide) (fun h9 => absurd h9 (by decide)) (fun _ => ?_)
          refine lv_iconst (v := 0) hx hb dX6_slot_88 (by decide) ?_
          exact W.iret (v := 0) hx hb hr (fun t9 ht9 hW9 => ⟨⟨_, cs_N u 4 (m_code true false true), rfl, ⟨fun _ => congrArg (cs_N u 4) (by simp [c_7, c_49, c_59, c_74]), fun h9 => absurd h9 (by simp [m_code, c_7, c_49, c_59, c_74])⟩, by rw [ht9]; exact hP, va_K.moved hW9.alike hK, hD⟩, hS.F ht9⟩) hS.2.2 dX6_slot_89
      · refine lv_iconst (v := 1) hx hb dX6_slot_62 (by decide) ?_
        refine lv_goto (tgt := 67) hx hb dX6_slot_63 (by decide) ?_
        refine lv_aload_n hx hb dX6_slot_67 rfl (lv_at hl 1 rfl) ?_
        refine va_get (D := (dC, dI)) (ci := 6) (v := .int (nI (cu_N u 0))) (C := RX6) (T := TX6) (N := 20) hx hb htg inX6 hown hK hP 0 (wR_g0 a k _) rfl 1 (by decide) (htg _ q_582) (fun _ h9 => h9) rfl dX6_slot_68 ?_
        refine lv_sipush (v := 200) hx hb dX6_slot_71 (by decide) ?_
        refine nb_ne (a := (cu_N u 0)) (b := 200) (tgt := 81) hx hb (by omega) (by omega) rfl rfl dX6_slot_74 (by decide) (fun c_74 => ?_) (fun c_74 => ?_)
        · refine lv_iconst (v := 0) hx hb dX6_slot_81 (by decide) ?_
          refine w_cali (w := wR a k) (va_runV (As := [.int 1, .int 1, .int 0]) (rest := []) ⟨hx, hb, hml, hown, hts⟩ (c_X6_throwing l dC dI a k u _ true true false) (cwV 3 hts (wG_V wG_c q_654 q_656 p_7 q_7 q_657) rfl rfl rfl (by decide +kernel) ⟨Nat.le_of_ble_eq_true rfl, Nat.le_of_ble_eq_true rfl⟩) (w_muV hK hP hD (ci := 6) (q0 := 0) rfl (wR_g0 a k _) rfl) rfl rfl hl.1 rfl (lv_room (Nat.le_of_ble_eq_true rfl)) dX6_slot_82 ⟨Nat.le_of_ble_eq_true rfl, Nat.le_of_ble_eq_true rfl⟩) hD hS hA (fun r_8 u_8 H locs hq_8 hP hD hS => ?_)
          obtain ⟨er9, eu9⟩ := hq_8
          subst er9 eu9
          refine wtopi (1) rfl ?_
          refine lv_if_eq (tgt := 90) hx hb dX6_slot_85 (by decide) (fun h9 => absurd h9 (by decide)) (fun _ => ?_)
          refine lv_iconst (v := 0) hx hb dX6_slot_88 (by decide) ?_
          exact W.iret (v := 0) hx hb hr (fun t9 ht9 hW9 => ⟨⟨_, cs_N u 4 (m_code true true false), rfl, ⟨fun _ => congrArg (cs_N u 4) (by simp [c_7, c_49, c_59, c_74]), fun h9 => absurd h9 (by simp [m_code, c_7, c_49, c_59, c_74])⟩, by rw [ht9]; exact hP, va_K.moved hW9.alike hK, hD⟩, hS.F ht9⟩) hS.2.2 dX6_slot_89
        · refine lv_iconst (v := 1) hx hb dX6_slot_77 (by decide) ?_
          refine lv_goto (tgt := 82) hx hb dX6_slot_78 (by decide) ?_
          refine w_cali (w := wR a k) (va_runV (As := [.int 1, .int 1, .int 1]) (rest := []) ⟨hx, hb, hml, hown, hts⟩ (c_X6_throwing l dC dI a k u _ true true true) (cwV 3 hts (wG_V wG_c q_654 q_656 p_7 q_7 q_657) rfl rfl rfl (by decide +kernel) ⟨Nat.le_of_ble_eq_true rfl, Nat.le_of_ble_eq_true rfl⟩) (w_muV hK hP hD (ci := 6) (q0 := 0) rfl (wR_g0 a k _) rfl) rfl rfl hl.1 rfl (lv_room (Nat.le_of_ble_eq_true rfl)) dX6_slot_82 ⟨Nat.le_of_ble_eq_true rfl, Nat.le_of_ble_eq_true rfl⟩) hD hS hA (fun r_9 u_9 H locs hq_9 hP hD hS => ?_)
          obtain ⟨er9, eu9⟩ := hq_9
          subst er9 eu9
          refine wtopi (1) rfl ?_
          refine lv_if_eq (tgt := 90) hx hb dX6_slot_85 (by decide) (fun h9 => absurd h9 (by decide)) (fun _ => ?_)
          refine lv_iconst (v := 0) hx hb dX6_slot_88 (by decide) ?_
          exact W.iret (v := 0) hx hb hr (fun t9 ht9 hW9 => ⟨⟨_, cs_N u 4 (m_code true true true), rfl, ⟨fun _ => congrArg (cs_N u 4) (by simp [c_7, c_49, c_59, c_74]), fun h9 => absurd h9 (by simp [m_code, c_7, c_49, c_59, c_74])⟩, by rw [ht9]; exact hP, va_K.moved hW9.alike hK, hD⟩, hS.F ht9⟩) hS.2.2 dX6_slot_89
  · refine lv_iload hx hb dX6_slot_10 (lv_at hl 5 rfl) ?_
    refine lv_iconst (v := 0) hx hb dX6_slot_12 (by decide) ?_
    refine lv_bipush (v := 99) hx hb dX6_slot_13 (by decide) ?_
    refine vp_callSi (W.runS (As := [.int p4, .int 0, .int 99]) (rest := []) ⟨hx, hb, hml, hown, hts⟩ (c_X6_in l dC dI a k u p4 0 99) (cwS 3 hts (wG_S wG_c q_650 q_651 q_7 q_652) rfl rfl rfl (by decide +kernel) ⟨Nat.le_of_ble_eq_true rfl, Nat.le_of_ble_eq_true rfl⟩) (w_roS hK hP) rfl rfl hl.1 rfl (lv_room (Nat.le_of_ble_eq_true rfl)) dX6_slot_15 ⟨Nat.le_of_ble_eq_true rfl, Nat.le_of_ble_eq_true rfl⟩) (fun r_10 hr_10 => ?_)
    subst hr_10
    refine bz_eq (a := (inR p4 0 99)) (tgt := 32) hx hb dX6_slot_18 (by decide) (fun c_18 => ?_) (fun c_18 => ?_)
    · refine lv_iconst (v := 1) hx hb dX6_slot_32 (by decide) ?_
      refine lv_goto (tgt := 37) hx hb dX6_slot_33 (by decide) ?_
      refine lv_istore (lv' := [(8, .int 1), (0, .ref (a 0)), (1, .int p0), (2, .int p1), (3, .int p2), (4, .long bt), (6, .int p4), (7, .int p5)]) hx hb dX6_slot_37 hl (by decide) rfl (fun ls hl => ?_)
      refine lv_aload_n hx hb dX6_slot_39 rfl (lv_at hl 1 rfl) ?_
      refine lv_iload hx hb dX6_slot_40 (lv_at hl 0 rfl) ?_
      refine lv_iload_n hx hb dX6_slot_42 rfl (lv_at hl 3 rfl) ?_
      refine lv_iconst (v := 0) hx hb dX6_slot_43 (by decide) ?_
      refine lv_ldc (v := 9999999) hx hb hown (htg _ q_653) dX6_slot_44 ?_
      refine vp_callSi (W.runS (As := [.int p1, .int 0, .int 9999999]) (rest := [.int 1, .ref (a 0)]) ⟨hx, hb, hml, hown, hts⟩ (c_X6_in l dC dI a k u p1 0 9999999) (cwS 3 hts (wG_S wG_c q_650 q_651 q_7 q_652) rfl rfl rfl (by decide +kernel) ⟨Nat.le_of_ble_eq_true rfl, Nat.le_of_ble_eq_true rfl⟩) (w_roS hK hP) rfl rfl hl.1 rfl (lv_room (Nat.le_of_ble_eq_true rfl)) dX6_slot_46 ⟨Nat.le_of_ble_eq_true rfl, Nat.le_of_ble_eq_true rfl⟩) (fun r_11 hr_11 => ?_)
      subst hr_11
      refine bz_eq (a := (inR p1 0 9999999)) (tgt := 62) hx hb dX6_slot_49 (by decide) (fun c_49 => ?_) (fun c_49 => ?_)
      · refine lv_iconst (v := 1) hx hb dX6_slot_62 (by decide) ?_
        refine lv_goto (tgt := 67) hx hb dX6_slot_63 (by decide) ?_
        refine lv_aload_n hx hb dX6_slot_67 rfl (lv_at hl 1 rfl) ?_
        refine va_get (D := (dC, dI)) (ci := 6) (v := .int (nI (cu_N u 0))) (C := RX6) (T := TX6) (N := 20) hx hb htg inX6 hown hK hP 0 (wR_g0 a k _) rfl 1 (by decide) (htg _ q_582) (fun _ h9 => h9) rfl dX6_slot_68 ?_
        refine lv_sipush (v := 200) hx hb dX6_slot_71 (by decide) ?_
        refine nb_ne (a := (cu_N u 0)) (b := 200) (tgt := 81) hx hb (by omega) (by omega) rfl rfl dX6_slot_74 (by decide) (fun c_74 => ?_) (fun c_74 => ?_)
        · refine lv_iconst (v := 0) hx hb dX6_slot_81 (by decide) ?_
          refine w_cali (w := wR a k) (va_runV (As := [.int 1, .int 1, .int 0]) (rest := []) ⟨hx, hb, hml, hown, hts⟩ (c_X6_throwing l dC dI a k u _ true true false) (cwV 3 hts (wG_V wG_c q_654 q_656 p_7 q_7 q_657) rfl rfl rfl (by decide +kernel) ⟨Nat.le_of_ble_eq_true rfl, Nat.le_of_ble_eq_true rfl⟩) (w_muV hK hP hD (ci := 6) (q0 := 0) rfl (wR_g0 a k _) rfl) rfl rfl hl.1 rfl (lv_room (Nat.le_of_ble_eq_true rfl)) dX6_slot_82 ⟨Nat.le_of_ble_eq_true rfl, Nat.le_of_ble_eq_true rfl⟩) hD hS hA (fun r_12 u_12 H locs hq_12 hP hD hS => ?_)
          obtain ⟨er9, eu9⟩ := hq_12
          subst er9 eu9
          refine wtopi (1) rfl ?_
          refine lv_if_eq (tgt := 90) hx hb dX6_slot_85 (by decide) (fun h9 => absurd h9 (by decide)) (fun _ => ?_)
          refine lv_iconst (v := 0) hx hb dX6_slot_88 (by decide) ?_
          exact W.iret (v := 0) hx hb hr (fun t9 ht9 hW9 => ⟨⟨_, cs_N u 4 (m_code true true false), rfl, ⟨fun _ => congrArg (cs_N u 4) (by simp [c_7, c_18, c_49, c_74]), fun h9 => absurd h9 (by simp [m_code, c_7, c_18, c_49, c_74])⟩, by rw [ht9]; exact hP, va_K.moved hW9.alike hK, hD⟩, hS.F ht9⟩) hS.2.2 dX6_slot_89
        · refine lv_iconst (v := 1) hx hb dX6_slot_77 (by decide) ?_
          refine lv_goto (tgt := 82) hx hb dX6_slot_78 (by decide) ?_
          refine w_cali (w := wR a k) (va_runV (As := [.int 1, .int 1, .int 1]) (rest := []) ⟨hx, hb, hml, hown, hts⟩ (c_X6_throwing l dC dI a k u _ true true true) (cwV 3 hts (wG_V wG_c q_654 q_656 p_7 q_7 q_657) rfl rfl rfl (by decide +kernel) ⟨Nat.le_of_ble_eq_true rfl, Nat.le_of_ble_eq_true rfl⟩) (w_muV hK hP hD (ci := 6) (q0 := 0) rfl (wR_g0 a k _) rfl) rfl rfl hl.1 rfl (lv_room (Nat.le_of_ble_eq_true rfl)) dX6_slot_82 ⟨Nat.le_of_ble_eq_true rfl, Nat.le_of_ble_eq_true rfl⟩) hD hS hA (fun r_13 u_13 H locs hq_13 hP hD hS => ?_)
          obtain ⟨er9, eu9⟩ := hq_13
          subst er9 eu9
          refine wtopi (1) rfl ?_
          refine lv_if_eq (tgt := 90) hx hb dX6_slot_85 (by decide) (fun h9 => absurd h9 (by decide)) (fun _ => ?_)
          refine lv_iconst (v := 0) hx hb dX6_slot_88 (by decide) ?_
          exact W.iret (v := 0) hx hb hr (fun t9 ht9 hW9 => ⟨⟨_, cs_N u 4 (m_code true true true), rfl, ⟨fun _ => congrArg (cs_N u 4) (by simp [c_7, c_18, c_49, c_74]), fun h9 => absurd h9 (by simp [m_code, c_7, c_18, c_49, c_74])⟩, by rw [ht9]; exact hP, va_K.moved hW9.alike hK, hD⟩, hS.F ht9⟩) hS.2.2 dX6_slot_89
      · refine lv_iload_n hx hb dX6_slot_52 rfl (lv_at hl 4 rfl) ?_
        refine lv_iconst (v := 1) hx hb dX6_slot_53 (by decide) ?_
        refine lv_bipush (v := 8) hx hb dX6_slot_54 (by decide) ?_
        refine vp_callSi (W.runS (As := [.int p2, .int 1, .int 8]) (rest := [.int 1, .ref (a 0)]) ⟨hx, hb, hml, hown, hts⟩ (c_X6_in l dC dI a k u p2 1 8) (cwS 3 hts (wG_S wG_c q_650 q_651 q_7 q_652) rfl rfl rfl (by decide +kernel) ⟨Nat.le_of_ble_eq_true rfl, Nat.le_of_ble_eq_true rfl⟩) (w_roS hK hP) rfl rfl hl.1 rfl (lv_room (Nat.le_of_ble_eq_true rfl)) dX6_slot_56 ⟨Nat.le_of_ble_eq_true rfl, Nat.le_of_ble_eq_true rfl⟩) (fun r_14 hr_14 => ?_)
        subst hr_14
        refine bz_ne (a := (inR p2 1 8)) (tgt := 66) hx hb dX6_slot_59 (by decide) (fun c_59 => ?_) (fun c_59 => ?_)
        · refine lv_iconst (v := 0) hx hb dX6_slot_66 (by decide) ?_
          refine lv_aload_n hx hb dX6_slot_67 rfl (lv_at hl 1 rfl) ?_
          refine va_get (D := (dC, dI)) (ci := 6) (v := .int (nI (cu_N u 0))) (C := RX6) (T := TX6) (N := 20) hx hb htg inX6 hown hK hP 0 (wR_g0 a k _) rfl 1 (by decide) (htg _ q_582) (fun _ h9 => h9) rfl dX6_slot_68 ?_
          refine lv_sipush (v := 200) hx hb dX6_slot_71 (by decide) ?_
          refine nb_ne (a := (cu_N u 0)) (b := 200) (tgt := 81) hx hb (by omega) (by omega) rfl rfl dX6_slot_74 (by decide) (fun c_74 => ?_) (fun c_74 => ?_)
          · refine lv_iconst (v := 0) hx hb dX6_slot_81 (by decide) ?_
            refine w_cali (w := wR a k) (va_runV (As := [.int 1, .int 0, .int 0]) (rest := []) ⟨hx, hb, hml, hown, hts⟩ (c_X6_throwing l dC dI a k u _ true false false) (cwV 3 hts (wG_V wG_c q_654 q_656 p_7 q_7 q_657) rfl rfl rfl (by decide +kernel) ⟨Nat.le_of_ble_eq_true rfl, Nat.le_of_ble_eq_true rfl⟩) (w_muV hK hP hD (ci := 6) (q0 := 0) rfl (wR_g0 a k _) rfl) rfl rfl hl.1 rfl (lv_room (Nat.le_of_ble_eq_true rfl)) dX6_slot_82 ⟨Nat.le_of_ble_eq_true rfl, Nat.le_of_ble_eq_true rfl⟩) hD hS hA (fun r_15 u_15 H locs hq_15 hP hD hS => ?_)
            obtain ⟨er9, eu9⟩ := hq_15
            subst er9 eu9
            refine wtopi (1) rfl ?_
            refine lv_if_eq (tgt := 90) hx hb dX6_slot_85 (by decide) (fun h9 => absurd h9 (by decide)) (fun _ => ?_)
            refine lv_iconst (v := 0) hx hb dX6_slot_88 (by decide) ?_
            exact W.iret (v := 0) hx hb hr (fun t9 ht9 hW9 => ⟨⟨_, cs_N u 4 (m_code true false false), rfl, ⟨fun _ => congrArg (cs_N u 4) (by simp [c_7, c_18, c_49, c_59, c_74]), fun h9 => absurd h9 (by simp [m_code, c_7, c_18, c_49, c_59, c_74])⟩, by rw [ht9]; exact hP, va_K.moved hW9.alike hK, hD⟩, hS.F ht9⟩) hS.2.2 dX6_slot_89
          · refine lv_iconst (v := 1) hx hb dX6_slot_77 (by decide) ?_
            refine lv_goto (tgt := 82) hx hb dX6_slot_78 (by decide) ?_
            refine w_cali (w := wR a k) (va_runV (As := [.int 1, .int 0, .int 1]) (rest := []) ⟨hx, hb, hml, hown, hts⟩ (c_X6_throwing l dC dI a k u _ true false true) (cwV 3 hts (wG_V wG_c q_654 q_656 p_7 q_7 q_657) rfl rfl rfl (by decide +kernel) ⟨Nat.le_of_ble_eq_true rfl, Nat.le_of_ble_eq_true rfl⟩) (w_muV hK hP hD (ci := 6) (q0 := 0) rfl (wR_g0 a k _) rfl) rfl rfl hl.1 rfl (lv_room (Nat.le_of_ble_eq_true rfl)) dX6_slot_82 ⟨Nat.le_of_ble_eq_true rfl, Nat.le_of_ble_eq_true rfl⟩) hD hS hA (fun r_16 u_16 H locs hq_16 hP hD hS => ?_)
            obtain ⟨er9, eu9⟩ := hq_16
            subst er9 eu9
            refine wtopi (1) rfl ?_
            refine lv_if_eq (tgt := 90) hx hb dX6_slot_85 (by decide) (fun h9 => absurd h9 (by decide)) (fun _ => ?_)
            refine lv_iconst (v := 0) hx hb dX6_slot_88 (by decide) ?_
            exact W.iret (v := 0) hx hb hr (fun t9 ht9 hW9 => ⟨⟨_, cs_N u 4 (m_code true false true), rfl, ⟨fun _ => congrArg (cs_N u 4) (by simp [c_7, c_18, c_49, c_59, c_74]), fun h9 => absurd h9 (by simp [m_code, c_7, c_18, c_49, c_59, c_74])⟩, by rw [ht9]; exact hP, va_K.moved hW9.alike hK, hD⟩, hS.F ht9⟩) hS.2.2 dX6_slot_89
        · refine lv_iconst (v := 1) hx hb dX6_slot_62 (by decide) ?_
          refine lv_goto (tgt := 67) hx hb dX6_slot_63 (by decide) ?_
          refine lv_aload_n hx hb dX6_slot_67 rfl (lv_at hl 1 rfl) ?_
          refine va_get (D := (dC, dI)) (ci := 6) (v := .int (nI (cu_N u 0))) (C := RX6) (T := TX6) (N := 20) hx hb htg inX6 hown hK hP 0 (wR_g0 a k _) rfl 1 (by decide) (htg _ q_582) (fun _ h9 => h9) rfl dX6_slot_68 ?_
          refine lv_sipush (v := 200) hx hb dX6_slot_71 (by decide) ?_
          refine nb_ne (a := (cu_N u 0)) (b := 200) (tgt := 81) hx hb (by omega) (by omega) rfl rfl dX6_slot_74 (by decide) (fun c_74 => ?_) (fun c_74 => ?_)
          · refine lv_iconst (v := 0) hx hb dX6_slot_81 (by decide) ?_
            refine w_cali (w := wR a k) (va_runV (As := [.int 1, .int 1, .int 0]) (rest := []) ⟨hx, hb, hml, hown, hts⟩ (c_X6_throwing l dC dI a k u _ true true false) (cwV 3 hts (wG_V wG_c q_654 q_656 p_7 q_7 q_657) rfl rfl rfl (by decide +kernel) ⟨Nat.le_of_ble_eq_true rfl, Nat.le_of_ble_eq_true rfl⟩) (w_muV hK hP hD (ci := 6) (q0 := 0) rfl (wR_g0 a k _) rfl) rfl rfl hl.1 rfl (lv_room (Nat.le_of_ble_eq_true rfl)) dX6_slot_82 ⟨Nat.le_of_ble_eq_true rfl, Nat.le_of_ble_eq_true rfl⟩) hD hS hA (fun r_17 u_17 H locs hq_17 hP hD hS => ?_)
            obtain ⟨er9, eu9⟩ := hq_17
            subst er9 eu9
            refine wtopi (1) rfl ?_
            refine lv_if_eq (tgt := 90) hx hb dX6_slot_85 (by decide) (fun h9 => absurd h9 (by decide)) (fun _ => ?_)
            refine lv_iconst (v := 0) hx hb dX6_slot_88 (by decide) ?_
            exact W.iret (v := 0) hx hb hr (fun t9 ht9 hW9 => ⟨⟨_, cs_N u 4 (m_code true true false), rfl, ⟨fun _ => congrArg (cs_N u 4) (by simp [c_7, c_18, c_49, c_59, c_74]), fun h9 => absurd h9 (by simp [m_code, c_7, c_18, c_49, c_59, c_74])⟩, by rw [ht9]; exact hP, va_K.moved hW9.alike hK, hD⟩, hS.F ht9⟩) hS.2.2 dX6_slot_89
          · refine lv_iconst (v := 1) hx hb dX6_slot_77 (by decide) ?_
            refine lv_goto (tgt := 82) hx hb dX6_slot_78 (by decide) ?_
            refine w_cali (w := wR a k) (va_runV (As := [.int 1, .int 1, .int 1]) (rest := []) ⟨hx, hb, hml, hown, hts⟩ (c_X6_throwing l dC dI a k u _ true true true) (cwV 3 hts (wG_V wG_c q_654 q_656 p_7 q_7 q_657) rfl rfl rfl (by decide +kernel) ⟨Nat.le_of_ble_eq_true rfl, Nat.le_of_ble_eq_true rfl⟩) (w_muV hK hP hD (ci := 6) (q0 := 0) rfl (wR_g0 a k _) rfl) rfl rfl hl.1 rfl (lv_room (Nat.le_of_ble_eq_true rfl)) dX6_slot_82 ⟨Nat.le_of_ble_eq_true rfl, Nat.le_of_ble_eq_true rfl⟩) hD hS hA (fun r_18 u_18 H locs hq_18 hP hD hS => ?_)
            obtain ⟨er9, eu9⟩ := hq_18
            subst er9 eu9
            refine wtopi (1) rfl ?_
            refine lv_if_eq (tgt := 90) hx hb dX6_slot_85 (by decide) (fun h9 => absurd h9 (by decide)) (fun _ => ?_)
            refine lv_iconst (v := 0) hx hb dX6_slot_88 (by decide) ?_
            exact W.iret (v := 0) hx hb hr (fun t9 ht9 hW9 => ⟨⟨_, cs_N u 4 (m_code true true true), rfl, ⟨fun _ => congrArg (cs_N u 4) (by simp [c_7, c_18, c_49, c_59, c_74]), fun h9 => absurd h9 (by simp [m_code, c_7, c_18, c_49, c_59, c_74])⟩, by rw [ht9]; exact hP, va_K.moved hW9.alike hK, hD⟩, hS.F ht9⟩) hS.2.2 dX6_slot_89
    · refine lv_iload hx hb dX6_slot_21 (lv_at hl 6 rfl) ?_
      refine lv_iconst (v := 0) hx hb dX6_slot_23 (by decide) ?_
      refine lv_bipush (v := 49) hx hb dX6_slot_24 (by decide) ?_
      refine vp_callSi (W.runS (As := [.int p5, .int 0, .int 49]) (rest := []) ⟨hx, hb, hml, hown, hts⟩ (c_X6_in l dC dI a k u p5 0 49) (cwS 3 hts (wG_S wG_c q_650 q_651 q_7 q_652) rfl rfl rfl (by decide +kernel) ⟨Nat.le_of_ble_eq_true rfl, Nat.le_of_ble_eq_true rfl⟩) (w_roS hK hP) rfl rfl hl.1 rfl (lv_room (Nat.le_of_ble_eq_true rfl)) dX6_slot_26 ⟨Nat.le_of_ble_eq_true rfl, Nat.le_of_ble_eq_true rfl⟩) (fun r_19 hr_19 => ?_)
      subst hr_19
      refine bz_ne (a := (inR p5 0 49)) (tgt := 36) hx hb dX6_slot_29 (by decide) (fun c_29 => ?_) (fun c_29 => ?_)
      · refine lv_iconst (v := 0) hx hb dX6_slot_36 (by decide) ?_
        refine lv_istore (lv' := [(8, .int 0), (0, .ref (a 0)), (1, .int p0), (2, .int p1), (3, .int p2), (4, .long bt), (6, .int p4), (7, .int p5)]) hx hb dX6_slot_37 hl (by decide) rfl (fun ls hl => ?_)
        refine lv_aload_n hx hb dX6_slot_39 rfl (lv_at hl 1 rfl) ?_
        refine lv_iload hx hb dX6_slot_40 (lv_at hl 0 rfl) ?_
        refine lv_iload_n hx hb dX6_slot_42 rfl (lv_at hl 3 rfl) ?_
        refine lv_iconst (v := 0) hx hb dX6_slot_43 (by decide) ?_
        refine lv_ldc (v := 9999999) hx hb hown (htg _ q_653) dX6_slot_44 ?_
        refine vp_callSi (W.runS (As := [.int p1, .int 0, .int 9999999]) (rest := [.int 0, .ref (a 0)]) ⟨hx, hb, hml, hown, hts⟩ (c_X6_in l dC dI a k u p1 0 9999999) (cwS 3 hts (wG_S wG_c q_650 q_651 q_7 q_652) rfl rfl rfl (by decide +kernel) ⟨Nat.le_of_ble_eq_true rfl, Nat.le_of_ble_eq_true rfl⟩) (w_roS hK hP) rfl rfl hl.1 rfl (lv_room (Nat.le_of_ble_eq_true rfl)) dX6_slot_46 ⟨Nat.le_of_ble_eq_true rfl, Nat.le_of_ble_eq_true rfl⟩) (fun r_20 hr_20 => ?_)
        subst hr_20
        refine bz_eq (a := (inR p1 0 9999999)) (tgt := 62) hx hb dX6_slot_49 (by decide) (fun c_49 => ?_) (fun c_49 => ?_)
        · refine lv_iconst (v := 1) hx hb dX6_slot_62 (by decide) ?_
          refine lv_goto (tgt := 67) hx hb dX6_slot_63 (by decide) ?_
          refine lv_aload_n hx hb dX6_slot_67 rfl (lv_at hl 1 rfl) ?_
          refine va_get (D := (dC, dI)) (ci := 6) (v := .int (nI (cu_N u 0))) (C := RX6) (T := TX6) (N := 20) hx hb htg inX6 hown hK hP 0 (wR_g0 a k _) rfl 1 (by decide) (htg _ q_582) (fun _ h9 => h9) rfl dX6_slot_68 ?_
          refine lv_sipush (v := 200) hx hb dX6_slot_71 (by decide) ?_
          refine nb_ne (a := (cu_N u 0)) (b := 200) (tgt := 81) hx hb (by omega) (by omega) rfl rfl dX6_slot_74 (by decide) (fun c_74 => ?_) (fun c_74 => ?_)
          · refine lv_iconst (v := 0) hx hb dX6_slot_81 (by decide) ?_
            refine w_cali (w := wR a k) (va_runV (As := [.int 0, .int 1, .int 0]) (rest := []) ⟨hx, hb, hml, hown, hts⟩ (c_X6_throwing l dC dI a k u _ false true false) (cwV 3 hts (wG_V wG_c q_654 q_656 p_7 q_7 q_657) rfl rfl rfl (by decide +kernel) ⟨Nat.le_of_ble_eq_true rfl, Nat.le_of_ble_eq_true rfl⟩) (w_muV hK hP hD (ci := 6) (q0 := 0) rfl (wR_g0 a k _) rfl) rfl rfl hl.1 rfl (lv_room (Nat.le_of_ble_eq_true rfl)) dX6_slot_82 ⟨Nat.le_of_ble_eq_true rfl, Nat.le_of_ble_eq_true rfl⟩) hD hS hA (fun r_21 u_21 H locs hq_21 hP hD hS => ?_)
            obtain ⟨er9, eu9⟩ := hq_21
            subst er9 eu9
            refine wtopi (1) rfl ?_
            refine lv_if_eq (tgt := 90) hx hb dX6_slot_85 (by decide) (fun h9 => absurd h9 (by decide)) (fun _ => ?_)
            refine lv_iconst (v := 0) hx hb dX6_slot_88 (by decide) ?_
            exact W.iret (v := 0) hx hb hr (fun t9 ht9 hW9 => ⟨⟨_, cs_N u 4 (m_code false true false), rfl, ⟨fun _ => congrArg (cs_N u 4) (by simp [c_7, c_18, c_29, c_49, c_74]), fun h9 => absurd h9 (by simp [m_code, c_7, c_18, c_29, c_49, c_74])⟩, by rw [ht9]; exact hP, va_K.moved hW9.alike hK, hD⟩, hS.F ht9⟩) hS.2.2 dX6_slot_89
          · refine lv_iconst (v := 1) hx hb dX6_slot_77 (by decide) ?_
            refine lv_goto (tgt := 82) hx hb dX6_slot_78 (by decide) ?_
            refine w_cali (w := wR a k) (va_runV (As := [.int 0, .int 1, .int 1]) (rest := []) ⟨hx, hb, hml, hown, hts⟩ (c_X6_throwing l dC dI a k u _ false true true) (cwV 3 hts (wG_V wG_c q_654 q_656 p_7 q_7 q_657) rfl rfl rfl (by decide +kernel) ⟨Nat.le_of_ble_eq_true rfl, Nat.le_of_ble_eq_true rfl⟩) (w_muV hK hP hD (ci := 6) (q0 := 0) rfl (wR_g0 a k _) rfl) rfl rfl hl.1 rfl (lv_room (Nat.le_of_ble_eq_true rfl)) dX6_slot_82 ⟨Nat.le_of_ble_eq_true rfl, Nat.le_of_ble_eq_true rfl⟩) hD hS hA (fun r_22 u_22 H locs hq_22 hP hD hS => ?_)
            obtain ⟨er9, eu9⟩ := hq_22
            subst er9 eu9
            refine wtopi (1) rfl ?_
            refine lv_if_eq (tgt := 90) hx hb dX6_slot_85 (by decide) (fun h9 => absurd h9 (by decide)) (fun _ => ?_)
            refine lv_iconst (v := 0) hx hb dX6_slot_88 (by decide) ?_
            exact W.iret (v := 0) hx hb hr (fun t9 ht9 hW9 => ⟨⟨_, cs_N u 4 (m_code false true true), rfl, ⟨fun _ => congrArg (cs_N u 4) (by simp [c_7, c_18, c_29, c_49, c_74]), fun h9 => absurd h9 (by simp [m_code, c_7, c_18, c_29, c_49, c_74])⟩, by rw [ht9]; exact hP, va_K.moved hW9.alike hK, hD⟩, hS.F ht9⟩) hS.2.2 dX6_slot_89
        · refine lv_iload_n hx hb dX6_slot_52 rfl (lv_at hl 4 rfl) ?_
          refine lv_iconst (v := 1) hx hb dX6_slot_53 (by decide) ?_
          refine lv_bipush (v := 8) hx hb dX6_slot_54 (by decide) ?_
          refine vp_callSi (W.runS (As := [.int p2, .int 1, .int 8]) (rest := [.int 0, .ref (a 0)]) ⟨hx, hb, hml, hown, hts⟩ (c_X6_in l dC dI a k u p2 1 8) (cwS 3 hts (wG_S wG_c q_650 q_651 q_7 q_652) rfl rfl rfl (by decide +kernel) ⟨Nat.le_of_ble_eq_true rfl, Nat.le_of_ble_eq_true rfl⟩) (w_roS hK hP) rfl rfl hl.1 rfl (lv_room (Nat.le_of_ble_eq_true rfl)) dX6_slot_56 ⟨Nat.le_of_ble_eq_true rfl, Nat.le_of_ble_eq_true rfl⟩) (fun r_23 hr_23 => ?_)
          subst hr_23
          refine bz_ne (a := (inR p2 1 8)) (tgt := 66) hx hb dX6_slot_59 (by decide) (fun c_59 => ?_) (fun c_59 => ?_)
          · refine lv_iconst (v := 0) hx hb dX6_slot_66 (by decide) ?_
            refine lv_aload_n hx hb dX6_slot_67 rfl (lv_at hl 1 rfl) ?_
            refine va_get (D := (dC, dI)) (ci := 6) (v := .int (nI (cu_N u 0))) (C := RX6) (T := TX6) (N := 20) hx hb htg inX6 hown hK hP 0 (wR_g0 a k _) rfl 1 (by decide) (htg _ q_582) (fun _ h9 => h9) rfl dX6_slot_68 ?_
            refine lv_sipush (v := 200) hx hb dX6_slot_71 (by decide) ?_
            refine nb_ne (a := (cu_N u 0)) (b := 200) (tgt := 81) hx hb (by omega) (by omega) rfl rfl dX6_slot_74 (by decide) (fun c_74 => ?_) (fun c_74 => ?_)
            · refine lv_iconst (v := 0) hx hb dX6_slot_81 (by decide) ?_
              refine w_cali (w := wR a k) (va_runV (As := [.int 0, .int 0, .int 0]) (rest := []) ⟨hx, hb, hml, hown, hts⟩ (c_X6_throwing l dC dI a k u _ false false false) (cwV 3 hts (wG_V wG_c q_654 q_656 p_7 q_7 q_657) rfl rfl rfl (by decide +kernel) ⟨Nat.le_of_ble_eq_true rfl, Nat.le_of_ble_eq_true rfl⟩) (w_muV hK hP hD (ci := 6) (q0 := 0) rfl (wR_g0 a k _) rfl) rfl rfl hl.1 rfl (lv_room (Nat.le_of_ble_eq_true rfl)) dX6_slot_82 ⟨Nat.le_of_ble_eq_true rfl, Nat.le_of_ble_eq_true rfl⟩) hD hS hA (fun r_24 u_24 H locs hq_24 hP hD hS => ?_)
              obtain ⟨er9, eu9⟩ := hq_24
              subst er9 eu9
              refine wtopi (0) rfl ?_
              refine lv_if_eq (tgt := 90) hx hb dX6_slot_85 (by decide) (fun _ => ?_) (fun h9 => absurd h9 (by decide))
              obtain ⟨sc, l_sc, h_sc, e_sc⟩ := inR_nat (l9 := 0) (h9 := 9) c_7 rfl rfl (by decide)
              subst e_sc
              obtain ⟨un, l_un, h_un, e_un⟩ := inR_nat (l9 := 0) (h9 := 99) c_18 rfl rfl (by decide)
              subst e_un
              obtain ⟨ic, l_ic, h_ic, e_ic⟩ := inR_nat (l9 := 0) (h9 := 49) c_29 rfl rfl (by decide)
              subst e_ic
              obtain ⟨tm, l_tm, h_tm, e_tm⟩ := inR_nat (l9 := 0) (h9 := 9999999) c_49 rfl rfl (by decide)
              subst e_tm
              obtain ⟨n, l_n, h_n, e_n⟩ := inR_nat (l9 := 1) (h9 := 8) c_59 rfl rfl (by decide)
              subst e_n
              have hN2 : cu_N u 0 < 200 := by omega
              refine lv_aload_n hx hb dX6_slot_90 rfl (lv_at hl 1 rfl) ?_
              refine va_get (D := (dC, dI)) (ci := 6) (v := .int (nI (cu_N (cs_N u 4 (m_code false false false)) 0))) (C := RX6) (T := TX6) (N := 20) hx hb htg inX6 hown hK hP 0 (wR_g0 a k _) rfl 1 (by decide) (htg _ q_582) (fun _ h9 => h9) rfl dX6_slot_91 ?_
              refine wtopi (y := nI (cu_N u 0)) rfl ?_
              refine lv_istore (lv' := [(9, .int (nI (cu_N u 0))), (8, .int 0), (0, .ref (a 0)), (1, .int (nI sc)), (2, .int (nI tm)), (3, .int (nI n)), (4, .long bt), (6, .int (nI un)), (7, .int (nI ic))]) hx hb dX6_slot_94 hl (by decide) rfl (fun ls hl => ?_)
              refine lv_aload_n hx hb dX6_slot_96 rfl (lv_at hl 2 rfl) ?_
              refine va_get (D := (dC, dI)) (ci := 6) (v := .ref (a 1)) (C := RX6) (T := TX6) (N := 20) hx hb htg inX6 hown hK hP 0 (wR_g0 a k _) rfl 2 (by decide) (htg _ q_583) (fun _ h9 => h9) rfl dX6_slot_97 ?_
              refine lv_iload hx hb dX6_slot_100 (lv_at hl 0 rfl) ?_
              refine lv_iload_n hx hb dX6_slot_102 rfl (lv_at hl 3 rfl) ?_
              refine va_iast hx hb hK hP hD hS 1 0 (wR_g1 a k _) rfl (vp_in_nI (n := (cu_N u 0)) (N := 200) hN2 (by decide)) dX6_slot_103 (fun H locs hP hD hS => ?_)
              have hP := w_pE (wR_s1 a k _ (cu_N u 0) sc (Nat.lt_trans (m := 200) hN2 (by decide))) hP
              have hD := w_dE (wR_s1 a k _ (cu_N u 0) sc (Nat.lt_trans (m := 200) hN2 (by decide))) hD
              refine lv_aload_n hx hb dX6_slot_104 rfl (lv_at hl 2 rfl) ?_
              refine va_get (D := (dC, dI)) (ci := 6) (v := .ref (a 2)) (C := RX6) (T := TX6) (N := 20) hx hb htg inX6 hown hK hP 0 (wR_g0 a k _) rfl 3 (by decide) (htg _ q_584) (fun _ h9 => h9) rfl dX6_slot_105 ?_
              refine lv_iload hx hb dX6_slot_108 (lv_at hl 0 rfl) ?_
              refine lv_iload_n hx hb dX6_slot_110 rfl (lv_at hl 4 rfl) ?_
              refine va_iast hx hb hK hP hD hS 2 0 (wR_g2 a k _) rfl (vp_in_nI (n := (cu_N u 0)) (N := 200) hN2 (by decide)) dX6_slot_111 (fun H locs hP hD hS => ?_)
              have hP := w_pE (wR_s2 a k _ (cu_N u 0) tm (Nat.lt_trans (m := 200) hN2 (by decide))) hP
              have hD := w_dE (wR_s2 a k _ (cu_N u 0) tm (Nat.lt_trans (m := 200) hN2 (by decide))) hD
              refine lv_aload_n hx hb dX6_slot_112 rfl (lv_at hl 2 rfl) ?_
              refine va_get (D := (dC, dI)) (ci := 6) (v := .ref (a 3)) (C := RX6) (T := TX6) (N := 20) hx hb htg inX6 hown hK hP 0 (wR_g0 a k _) rfl 4 (by decide) (htg _ q_585) (fun _ h9 => h9) rfl dX6_slot_113 ?_
              refine lv_iload hx hb dX6_slot_116 (lv_at hl 0 rfl) ?_
              refine lv_iload_n hx hb dX6_slot_118 rfl (lv_at hl 5 rfl) ?_
              refine va_iast hx hb hK hP hD hS 3 0 (wR_g3 a k _) rfl (vp_in_nI (n := (cu_N u 0)) (N := 200) hN2 (by decide)) dX6_slot_119 (fun H locs hP hD hS => ?_)
              have hP := w_pE (wR_s3 a k _ (cu_N u 0) n (Nat.lt_trans (m := 200) hN2 (by decide))) hP
              have hD := w_dE (wR_s3 a k _ (cu_N u 0) n (Nat.lt_trans (m := 200) hN2 (by decide))) hD
              refine lv_aload_n hx hb dX6_slot_120 rfl (lv_at hl 2 rfl) ?_
              refine va_get (D := (dC, dI)) (ci := 6) (v := .ref (a 4)) (C := RX6) (T := TX6) (N := 20) hx hb htg inX6 hown hK hP 0 (wR_g0 a k _) rfl 6 (by decide) (htg _ q_587) (fun _ h9 => h9) rfl dX6_slot_121 ?_
              refine lv_iload hx hb dX6_slot_124 (lv_at hl 0 rfl) ?_
              refine lv_iload hx hb dX6_slot_126 (lv_at hl 7 rfl) ?_
              refine va_iast hx hb hK hP hD hS 4 0 (wR_g4 a k _) rfl (vp_in_nI (n := (cu_N u 0)) (N := 200) hN2 (by decide)) dX6_slot_128 (fun H locs hP hD hS => ?_)
              have hP := w_pE (wR_s4 a k _ (cu_N u 0) un (Nat.lt_trans (m := 200) hN2 (by decide))) hP
              have hD := w_dE (wR_s4 a k _ (cu_N u 0) un (Nat.lt_trans (m := 200) hN2 (by decide))) hD
              refine lv_aload_n hx hb dX6_slot_129 rfl (lv_at hl 2 rfl) ?_
              refine va_get (D := (dC, dI)) (ci := 6) (v := .ref (a 5)) (C := RX6) (T := TX6) (N := 20) hx hb htg inX6 hown hK hP 0 (wR_g0 a k _) rfl 7 (by decide) (htg _ q_588) (fun _ h9 => h9) rfl dX6_slot_130 ?_
              refine lv_iload hx hb dX6_slot_133 (lv_at hl 0 rfl) ?_
              refine lv_iload hx hb dX6_slot_135 (lv_at hl 8 rfl) ?_
              refine va_iast hx hb hK hP hD hS 5 0 (wR_g5 a k _) rfl (vp_in_nI (n := (cu_N u 0)) (N := 200) hN2 (by decide)) dX6_slot_137 (fun H locs hP hD hS => ?_)
              have hP := w_pE (wR_s5 a k _ (cu_N u 0) ic (Nat.lt_trans (m := 200) hN2 (by decide))) hP
              have hD := w_dE (wR_s5 a k _ (cu_N u 0) ic (Nat.lt_trans (m := 200) hN2 (by decide))) hD
              refine lv_iconst (v := 0) hx hb dX6_slot_138 (by decide) ?_
              refine lv_istore (lv' := [(10, .int 0), (9, .int (nI (cu_N u 0))), (8, .int 0), (0, .ref (a 0)), (1, .int (nI sc)), (2, .int (nI tm)), (3, .int (nI n)), (4, .long bt), (6, .int (nI un)), (7, .int (nI ic))]) hx hb dX6_slot_139 hl (by decide) rfl (fun ls hl => ?_)
              refine w_loopH (fun j : Nat => n - j) (fun j H locs ls => j ≤ n ∧ va_P (dC, dI) vwCl (wR a k (m_by (m_put (cs_N u 4 0) sc tm n un ic) (cu_N u 0) bt n j)) H ∧ va_D A (wR a k (m_by (m_put (cs_N u 4 0) sc tm n un ic) (cu_N u 0) bt n j)) ∧ va_S A s.heap H locs ∧ lv_has ls 11 [(0, .ref (a 0)), (3, .int (nI n)), (4, .long bt), (9, .int (nI (cu_N u 0))), (10, .int (nI j))]) ?_ 0 _ _ ls ⟨Nat.zero_le _, hP, hD, hS, lv_sub hl [3, 6, 7, 1, 0] rfl⟩
              clear hP hD hS hl
              intro j H locs ls hI ih
              obtain ⟨hj, hP, hD, hS, hl⟩ := hI
              refine lv_iload hx hb dX6_slot_141 (lv_at hl 4 rfl) ?_
              refine lv_iload_n hx hb dX6_slot_143 rfl (lv_at hl 1 rfl) ?_
              refine nb_ge (a := j) (b := n) (tgt := 183) hx hb (by omega) (by omega) rfl rfl dX6_slot_144 (by decide) (fun c_144 => ?_) (fun c_144 => ?_)
              · have ejn : j = n := by omega
                subst ejn
                refine lv_aload_n hx hb dX6_slot_183 rfl (lv_at hl 0 rfl) ?_
                refine va_get (D := (dC, dI)) (ci := 6) (v := .ref (a 12)) (C := RX6) (T := TX6) (N := 20) hx hb htg inX6 hown hK hP 0 (wR_g0 a k _) rfl 8 (by decide) (htg _ q_589) (fun _ h9 => h9) rfl dX6_slot_184 ?_
                refine lv_iload hx hb dX6_slot_187 (lv_at hl 3 rfl) ?_
                refine lv_aload_n hx hb dX6_slot_189 rfl (lv_at hl 0 rfl) ?_
                refine lv_iload hx hb dX6_slot_190 (lv_at hl 3 rfl) ?_
                have eF : cu_F (m_by (m_put (cs_N u 4 0) sc tm j un ic) (cu_N u 0) bt j j) 2 (cu_N u 0) = j := by rw [m_by_F]; simp [m_put, cx_FF, cx_NN, cx_FN, cx_NF]
                refine vp_callSi (W.runV (As := [.int (nI (cu_N u 0))]) (rest := [.int (nI (cu_N u 0)), .ref (a 12)]) ⟨hx, hb, hml, hown, hts⟩ (c_X6_sumOf l dC dI a k (m_by (m_put (cs_N u 4 0) sc tm j un ic) (cu_N u 0) bt j j) (cu_N u 0) hN2 (by rw [eF]; omega)) (cwV 1 hts (wG_V wG_c q_658 q_660 p_8 q_7 q_661) rfl rfl rfl (by decide +kernel) ⟨Nat.le_of_ble_eq_true rfl, Nat.le_of_ble_eq_true rfl⟩) (w_roV hK hP (ci := 6) (q0 := 0) rfl (wR_g0 a k _) rfl) rfl rfl hl.1 rfl (lv_room (Nat.le_of_ble_eq_true rfl)) dX6_slot_192 ⟨Nat.le_of_ble_eq_true rfl, Nat.le_of_ble_eq_true rfl⟩) (fun r_25 hr_25 => ?_)
                subst hr_25
                refine wtopi (m_sm (fun i => cu_G (m_by (m_put (cs_N u 4 0) sc tm j un ic) (cu_N u 0) bt j j) 2 (8 * cu_N u 0 + i)) 0 j) (by rw [eF]) ?_
                refine va_iast hx hb hK hP hD hS 12 0 (wR_g12 a k _) rfl (vp_in_nI (n := (cu_N u 0)) (N := 200) hN2 (by decide)) dX6_slot_195 (fun H locs hP hD hS => ?_)
                have hP := w_pE (wR_s12 a k _ (cu_N u 0) (m_sm (fun i => cu_G (m_by (m_put (cs_N u 4 0) sc tm j un ic) (cu_N u 0) bt j j) 2 (8 * cu_N u 0 + i)) 0 j) (Nat.lt_trans (m := 200) hN2 (by decide))) hP
                have hD := w_dE (wR_s12 a k _ (cu_N u 0) (m_sm (fun i => cu_G (m_by (m_put (cs_N u 4 0) sc tm j un ic) (cu_N u 0) bt j j) 2 (8 * cu_N u 0 + i)) 0 j) (Nat.lt_trans (m := 200) hN2 (by decide))) hD
                refine lv_aload_n hx hb dX6_slot_196 rfl (lv_at hl 0 rfl) ?_
                refine lv_dup hx hb dX6_slot_197 rfl ?_
                have eN : cu_N (cs_G (m_by (m_put (cs_N u 4 0) sc tm j un ic) (cu_N u 0) bt j j) 0 (cu_N u 0) (m_sm (fun i => cu_G (m_by (m_put (cs_N u 4 0) sc tm j un ic) (cu_N u 0) bt j j) 2 (8 * cu_N u 0 + i)) 0 j)) 0 = cu_N u 0 := by show cu_N (m_by _ _ _ _ _) 0 = _; rw [m_by_N]; rfl
                refine va_get (D := (dC, dI)) (ci := 6) (v := .int (nI (cu_N (cs_G (m_by (m_put (cs_N u 4 0) sc tm j un ic) (cu_N u 0) bt j j) 0 (cu_N u 0) (m_sm (fun i => cu_G (m_by (m_put (cs_N u 4 0) sc tm j un ic) (cu_N u 0) bt j j) 2 (8 * cu_N u 0 + i)) 0 j)) 0))) (C := RX6) (T := TX6) (N := 20) hx hb htg inX6 hown hK hP 0 (wR_g0 a k _) rfl 1 (by decide) (htg _ q_582) (fun _ h9 => h9) rfl dX6_slot_198 ?_
                refine wtopi (y := nI (cu_N u 0)) (congrArg nI eN) ?_
                refine lv_iconst (v := 1) hx hb dX6_slot_201 (by decide) ?_
                refine lv_iadd hx hb dX6_slot_202 ?_
                refine wtopi (y := nI (cu_N u 0 + 1)) (nI_1 (cu_N u 0)) ?_
                refine va_put (D := (dC, dI)) (ci := 6) (v := .int (nI (cu_N u 0 + 1))) (ty := .int) (C := RX6) (T := TX6) (N := 20) hx hb htg inX6 tyX6 tyX6_ok nmX6 hown hK hP hD hS 0 (wR_g0 a k _) rfl 1 (by decide) (htg _ q_582) (fun _ h9 => h9) rfl (by decide +kernel) rfl rfl (Nat.le_of_ble_eq_true rfl) dX6_slot_203 (fun H locs hP hD hS => ?_)
                have hP := w_pE (wR_n0 a k _ (cu_N u 0 + 1)) hP
                have hD := w_dE (wR_n0 a k _ (cu_N u 0 + 1)) hD
                refine lv_iload hx hb dX6_slot_206 (lv_at hl 3 rfl) ?_
                exact W.iret (v := nI (cu_N u 0)) hx hb hr (fun t9 ht9 hW9 => ⟨⟨_, cs_N (cs_G (m_by (m_put (cs_N u 4 0) sc tm j un ic) (cu_N u 0) bt j j) 0 (cu_N u 0) (m_sm (fun i => cu_G (m_by (m_put (cs_N u 4 0) sc tm j un ic) (cu_N u 0) bt j j) 2 (8 * cu_N u 0 + i)) 0 j)) 0 (cu_N u 0 + 1), rfl, ⟨fun h9 => absurd (by simp [m_code, c_7, c_18, c_29, c_49, c_59, c_74]) h9, fun _ => ⟨sc, tm, j, un, ic, rfl, rfl, rfl, rfl, rfl, h_sc, h_tm, l_n, h_n, h_un, h_ic, hN2, rfl, rfl⟩⟩, by rw [ht9]; exact hP, va_K.moved hW9.alike hK, hD⟩, hS.F ht9⟩) hS.2.2 dX6_slot_208
              · refine lv_aload_n hx hb dX6_slot_147 rfl (lv_at hl 0 rfl) ?_
                refine va_get (D := (dC, dI)) (ci := 6) (v := .ref (a 14)) (C := RX6) (T := TX6) (N := 20) hx hb htg inX6 hown hK hP 0 (wR_g0 a k _) rfl 5 (by decide) (htg _ q_586) (fun _ h9 => h9) rfl dX6_slot_148 ?_
                refine lv_bipush (v := 8) hx hb dX6_slot_151 (by decide) ?_
                refine lv_iload hx hb dX6_slot_153 (lv_at hl 3 rfl) ?_
                refine lv_imul hx hb dX6_slot_155 ?_
                refine wtopi (y := nI (8 * cu_N u 0)) (pk_mul 8 (cu_N u 0)) ?_
                refine lv_iload hx hb dX6_slot_156 (lv_at hl 4 rfl) ?_
                refine lv_iadd hx hb dX6_slot_158 ?_
                refine wtopi (y := nI (8 * cu_N u 0 + j)) (nI_add _ _) ?_
                refine lv_lload hx hb dX6_slot_159 (lv_at hl 2 rfl) ?_
                refine lv_bipush (v := 8) hx hb dX6_slot_161 (by decide) ?_
                refine lv_iload_n hx hb dX6_slot_163 rfl (lv_at hl 1 rfl) ?_
                refine lv_iconst (v := 1) hx hb dX6_slot_164 (by decide) ?_
                refine lv_isub hx hb dX6_slot_165 ?_
                refine wtopi (y := nI (n - 1)) (pk_sub (a := n) (b := 1) (by omega)) ?_
                refine lv_iload hx hb dX6_slot_166 (lv_at hl 4 rfl) ?_
                refine lv_isub hx hb dX6_slot_168 ?_
                refine wtopi (y := nI (n - 1 - j)) (pk_sub (a := n - 1) (b := j) (by omega)) ?_
                refine lv_imul hx hb dX6_slot_169 ?_
                refine wtopi (y := nI (8 * (n - 1 - j))) (pk_mul 8 (n - 1 - j)) ?_
                refine lv_lshr hx hb dX6_slot_170 rfl ?_
                refine lv_l2i hx hb dX6_slot_171 rfl ?_
                refine lv_sipush (v := 255) hx hb dX6_slot_172 (by decide) ?_
                refine lv_iand hx hb dX6_slot_175 ?_
                refine wtopi (y := m_byte bt (nI (8 * (n - 1 - j)))) rfl ?_
                refine va_iast hx hb hK hP hD hS 14 0 (wR_g14 a k _) rfl (vp_in_nI (n := (8 * cu_N u 0 + j)) (N := 1600) (show 8 * cu_N u 0 + j < 1600 by omega) (by decide)) dX6_slot_176 (fun H locs hP hD hS => ?_)
                have hP := w_pE (wR_s14 a k _ (8 * cu_N u 0 + j) (m_byte bt (nI (8 * (n - 1 - j)))) (Nat.lt_trans (m := 1600) (show 8 * cu_N u 0 + j < 1600 by omega) (by decide))) hP
                have hD := w_dE (wR_s14 a k _ (8 * cu_N u 0 + j) (m_byte bt (nI (8 * (n - 1 - j)))) (Nat.lt_trans (m := 1600) (show 8 * cu_N u 0 + j < 1600 by omega) (by decide))) hD
                refine lv_iinc (v := nI (j + 1)) (lv' := [(10, .int (nI (j + 1))), (0, .ref (a 0)), (3, .int (nI n)), (4, .long bt), (9, .int (nI (cu_N u 0)))]) hx hb dX6_slot_177 hl (k := 4) rfl (nI_1 j) (by decide) rfl (fun ls hl => ?_)
                refine lv_goto (tgt := 141) hx hb dX6_slot_180 (by decide) ?_
                exact ih (j + 1) H locs ls (by omega) ⟨by omega, hP, hD, hS, lv_sub hl [1, 2, 3, 4, 0] rfl⟩
            · refine lv_iconst (v := 1) hx hb dX6_slot_77 (by decide) ?_
              refine lv_goto (tgt := 82) hx hb dX6_slot_78 (by decide) ?_
              refine w_cali (w := wR a k) (va_runV (As := [.int 0, .int 0, .int 1]) (rest := []) ⟨hx, hb, hml, hown, hts⟩ (c_X6_throwing l dC dI a k u _ false false true) (cwV 3 hts (wG_V wG_c q_654 q_656 p_7 q_7 q_657) rfl rfl rfl (by decide +kernel) ⟨Nat.le_of_ble_eq_true rfl, Nat.le_of_ble_eq_true rfl⟩) (w_muV hK hP hD (ci := 6) (q0 := 0) rfl (wR_g0 a k _) rfl) rfl rfl hl.1 rfl (lv_room (Nat.le_of_ble_eq_true rfl)) dX6_slot_82 ⟨Nat.le_of_ble_eq_true rfl, Nat.le_of_ble_eq_true rfl⟩) hD hS hA (fun r_26 u_26 H locs hq_26 hP hD hS => ?_)
              obtain ⟨er9, eu9⟩ := hq_26
              subst er9 eu9
              refine wtopi (1) rfl ?_
              refine lv_if_eq (tgt := 90) hx hb dX6_slot_85 (by decide) (fun h9 => absurd h9 (by decide)) (fun _ => ?_)
              refine lv_iconst (v := 0) hx hb dX6_slot_88 (by decide) ?_
              exact W.iret (v := 0) hx hb hr (fun t9 ht9 hW9 => ⟨⟨_, cs_N u 4 (m_code false false true), rfl, ⟨fun _ => congrArg (cs_N u 4) (by simp [c_7, c_18, c_29, c_49, c_59, c_74]), fun h9 => absurd h9 (by simp [m_code, c_7, c_18, c_29, c_49, c_59, c_74])⟩, by rw [ht9]; exact hP, va_K.moved hW9.alike hK, hD⟩, hS.F ht9⟩) hS.2.2 dX6_slot_89
          · refine lv_iconst (v := 1) hx hb dX6_slot_62 (by decide) ?_
            refine lv_goto (tgt := 67) hx hb dX6_slot_63 (by decide) ?_
            refine lv_aload_n hx hb dX6_slot_67 rfl (lv_at hl 1 rfl) ?_
            refine va_get (D := (dC, dI)) (ci := 6) (v := .int (nI (cu_N u 0))) (C := RX6) (T := TX6) (N := 20) hx hb htg inX6 hown hK hP 0 (wR_g0 a k _) rfl 1 (by decide) (htg _ q_582) (fun _ h9 => h9) rfl dX6_slot_68 ?_
            refine lv_sipush (v := 200) hx hb dX6_slot_71 (by decide) ?_
            refine nb_ne (a := (cu_N u 0)) (b := 200) (tgt := 81) hx hb (by omega) (by omega) rfl rfl dX6_slot_74 (by decide) (fun c_74 => ?_) (fun c_74 => ?_)
            · refine lv_iconst (v := 0) hx hb dX6_slot_81 (by decide) ?_
              refine w_cali (w := wR a k) (va_runV (As := [.int 0, .int 1, .int 0]) (rest := []) ⟨hx, hb, hml, hown, hts⟩ (c_X6_throwing l dC dI a k u _ false true false) (cwV 3 hts (wG_V wG_c q_654 q_656 p_7 q_7 q_657) rfl rfl rfl (by decide +kernel) ⟨Nat.le_of_ble_eq_true rfl, Nat.le_of_ble_eq_true rfl⟩) (w_muV hK hP hD (ci := 6) (q0 := 0) rfl (wR_g0 a k _) rfl) rfl rfl hl.1 rfl (lv_room (Nat.le_of_ble_eq_true rfl)) dX6_slot_82 ⟨Nat.le_of_ble_eq_true rfl, Nat.le_of_ble_eq_true rfl⟩) hD hS hA (fun r_27 u_27 H locs hq_27 hP hD hS => ?_)
              obtain ⟨er9, eu9⟩ := hq_27
              subst er9 eu9
              refine wtopi (1) rfl ?_
              refine lv_if_eq (tgt := 90) hx hb dX6_slot_85 (by decide) (fun h9 => absurd h9 (by decide)) (fun _ => ?_)
              refine lv_iconst (v := 0) hx hb dX6_slot_88 (by decide) ?_
              exact W.iret (v := 0) hx hb hr (fun t9 ht9 hW9 => ⟨⟨_, cs_N u 4 (m_code false true false), rfl, ⟨fun _ => congrArg (cs_N u 4) (by simp [c_7, c_18, c_29, c_49, c_59, c_74]), fun h9 => absurd h9 (by simp [m_code, c_7, c_18, c_29, c_49, c_59, c_74])⟩, by rw [ht9]; exact hP, va_K.moved hW9.alike hK, hD⟩, hS.F ht9⟩) hS.2.2 dX6_slot_89
            · refine lv_iconst (v := 1) hx hb dX6_slot_77 (by decide) ?_
              refine lv_goto (tgt := 82) hx hb dX6_slot_78 (by decide) ?_
              refine w_cali (w := wR a k) (va_runV (As := [.int 0, .int 1, .int 1]) (rest := []) ⟨hx, hb, hml, hown, hts⟩ (c_X6_throwing l dC dI a k u _ false true true) (cwV 3 hts (wG_V wG_c q_654 q_656 p_7 q_7 q_657) rfl rfl rfl (by decide +kernel) ⟨Nat.le_of_ble_eq_true rfl, Nat.le_of_ble_eq_true rfl⟩) (w_muV hK hP hD (ci := 6) (q0 := 0) rfl (wR_g0 a k _) rfl) rfl rfl hl.1 rfl (lv_room (Nat.le_of_ble_eq_true rfl)) dX6_slot_82 ⟨Nat.le_of_ble_eq_true rfl, Nat.le_of_ble_eq_true rfl⟩) hD hS hA (fun r_28 u_28 H locs hq_28 hP hD hS => ?_)
              obtain ⟨er9, eu9⟩ := hq_28
              subst er9 eu9
              refine wtopi (1) rfl ?_
              refine lv_if_eq (tgt := 90) hx hb dX6_slot_85 (by decide) (fun h9 => absurd h9 (by decide)) (fun _ => ?_)
              refine lv_iconst (v := 0) hx hb dX6_slot_88 (by decide) ?_
              exact W.iret (v := 0) hx hb hr (fun t9 ht9 hW9 => ⟨⟨_, cs_N u 4 (m_code false true true), rfl, ⟨fun _ => congrArg (cs_N u 4) (by simp [c_7, c_18, c_29, c_49, c_59, c_74]), fun h9 => absurd h9 (by simp [m_code, c_7, c_18, c_29, c_49, c_59, c_74])⟩, by rw [ht9]; exact hP, va_K.moved hW9.alike hK, hD⟩, hS.F ht9⟩) hS.2.2 dX6_slot_89
      · refine lv_iconst (v := 1) hx hb dX6_slot_32 (by decide) ?_
        refine lv_goto (tgt := 37) hx hb dX6_slot_33 (by decide) ?_
        refine lv_istore (lv' := [(8, .int 1), (0, .ref (a 0)), (1, .int p0), (2, .int p1), (3, .int p2), (4, .long bt), (6, .int p4), (7, .int p5)]) hx hb dX6_slot_37 hl (by decide) rfl (fun ls hl => ?_)
        refine lv_aload_n hx hb dX6_slot_39 rfl (lv_at hl 1 rfl) ?_
        refine lv_iload hx hb dX6_slot_40 (lv_at hl 0 rfl) ?_
        refine lv_iload_n hx hb dX6_slot_42 rfl (lv_at hl 3 rfl) ?_
        refine lv_iconst (v := 0) hx hb dX6_slot_43 (by decide) ?_
        refine lv_ldc (v := 9999999) hx hb hown (htg _ q_653) dX6_slot_44 ?_
        refine vp_callSi (W.runS (As := [.int p1, .int 0, .int 9999999]) (rest := [.int 1, .ref (a 0)]) ⟨hx, hb, hml, hown, hts⟩ (c_X6_in l dC dI a k u p1 0 9999999) (cwS 3 hts (wG_S wG_c q_650 q_651 q_7 q_652) rfl rfl rfl (by decide +kernel) ⟨Nat.le_of_ble_eq_true rfl, Nat.le_of_ble_eq_true rfl⟩) (w_roS hK hP) rfl rfl hl.1 rfl (lv_room (Nat.le_of_ble_eq_true rfl)) dX6_slot_46 ⟨Nat.le_of_ble_eq_true rfl, Nat.le_of_ble_eq_true rfl⟩) (fun r_29 hr_29 => ?_)
        subst hr_29
        refine bz_eq (a := (inR p1 0 9999999)) (tgt := 62) hx hb dX6_slot_49 (by decide) (fun c_49 => ?_) (fun c_49 => ?_)
        · refine lv_iconst (v := 1) hx hb dX6_slot_62 (by decide) ?_
          refine lv_goto (tgt := 67) hx hb dX6_slot_63 (by decide) ?_
          refine lv_aload_n hx hb dX6_slot_67 rfl (lv_at hl 1 rfl) ?_
          refine va_get (D := (dC, dI)) (ci := 6) (v := .int (nI (cu_N u 0))) (C := RX6) (T := TX6) (N := 20) hx hb htg inX6 hown hK hP 0 (wR_g0 a k _) rfl 1 (by decide) (htg _ q_582) (fun _ h9 => h9) rfl dX6_slot_68 ?_
          refine lv_sipush (v := 200) hx hb dX6_slot_71 (by decide) ?_
          refine nb_ne (a := (cu_N u 0)) (b := 200) (tgt := 81) hx hb (by omega) (by omega) rfl rfl dX6_slot_74 (by decide) (fun c_74 => ?_) (fun c_74 => ?_)
          · refine lv_iconst (v := 0) hx hb dX6_slot_81 (by decide) ?_
            refine w_cali (w := wR a k) (va_runV (As := [.int 1, .int 1, .int 0]) (rest := []) ⟨hx, hb, hml, hown, hts⟩ (c_X6_throwing l dC dI a k u _ true true false) (cwV 3 hts (wG_V wG_c q_654 q_656 p_7 q_7 q_657) rfl rfl rfl (by decide +kernel) ⟨Nat.le_of_ble_eq_true rfl, Nat.le_of_ble_eq_true rfl⟩) (w_muV hK hP hD (ci := 6) (q0 := 0) rfl (wR_g0 a k _) rfl) rfl rfl hl.1 rfl (lv_room (Nat.le_of_ble_eq_true rfl)) dX6_slot_82 ⟨Nat.le_of_ble_eq_true rfl, Nat.le_of_ble_eq_true rfl⟩) hD hS hA (fun r_30 u_30 H locs hq_30 hP hD hS => ?_)
            obtain ⟨er9, eu9⟩ := hq_30
            subst er9 eu9
            refine wtopi (1) rfl ?_
            refine lv_if_eq (tgt := 90) hx hb dX6_slot_85 (by decide) (fun h9 => absurd h9 (by decide)) (fun _ => ?_)
            refine lv_iconst (v := 0) hx hb dX6_slot_88 (by decide) ?_
            exact W.iret (v := 0) hx hb hr (fun t9 ht9 hW9 => ⟨⟨_, cs_N u 4 (m_code true true false), rfl, ⟨fun _ => congrArg (cs_N u 4) (by simp [c_7, c_18, c_29, c_49, c_74]), fun h9 => absurd h9 (by simp [m_code, c_7, c_18, c_29, c_49, c_74])⟩, by rw [ht9]; exact hP, va_K.moved hW9.alike hK, hD⟩, hS.F ht9⟩) hS.2.2 dX6_slot_89
          · refine lv_iconst (v := 1) hx hb dX6_slot_77 (by decide) ?_
            refine lv_goto (tgt := 82) hx hb dX6_slot_78 (by decide) ?_
            refine w_cali (w := wR a k) (va_runV (As := [.int 1, .int 1, .int 1]) (rest := []) ⟨hx, hb, hml, hown, hts⟩ (c_X6_throwing l dC dI a k u _ true true true) (cwV 3 hts (wG_V wG_c q_654 q_656 p_7 q_7 q_657) rfl rfl rfl (by decide +kernel) ⟨Nat.le_of_ble_eq_true rfl, Nat.le_of_ble_eq_true rfl⟩) (w_muV hK hP hD (ci := 6) (q0 := 0) rfl (wR_g0 a k _) rfl) rfl rfl hl.1 rfl (lv_room (Nat.le_of_ble_eq_true rfl)) dX6_slot_82 ⟨Nat.le_of_ble_eq_true rfl, Nat.le_of_ble_eq_true rfl⟩) hD hS hA (fun r_31 u_31 H locs hq_31 hP hD hS => ?_)
            obtain ⟨er9, eu9⟩ := hq_31
            subst er9 eu9
            refine wtopi (1) rfl ?_
            refine lv_if_eq (tgt := 90) hx hb dX6_slot_85 (by decide) (fun h9 => absurd h9 (by decide)) (fun _ => ?_)
            refine lv_iconst (v := 0) hx hb dX6_slot_88 (by decide) ?_
            exact W.iret (v := 0) hx hb hr (fun t9 ht9 hW9 => ⟨⟨_, cs_N u 4 (m_code true true true), rfl, ⟨fun _ => congrArg (cs_N u 4) (by simp [c_7, c_18, c_29, c_49, c_74]), fun h9 => absurd h9 (by simp [m_code, c_7, c_18, c_29, c_49, c_74])⟩, by rw [ht9]; exact hP, va_K.moved hW9.alike hK, hD⟩, hS.F ht9⟩) hS.2.2 dX6_slot_89
        · refine lv_iload_n hx hb dX6_slot_52 rfl (lv_at hl 4 rfl) ?_
          refine lv_iconst (v := 1) hx hb dX6_slot_53 (by decide) ?_
          refine lv_bipush (v := 8) hx hb dX6_slot_54 (by decide) ?_
          refine vp_callSi (W.runS (As := [.int p2, .int 1, .int 8]) (rest := [.int 1, .ref (a 0)]) ⟨hx, hb, hml, hown, hts⟩ (c_X6_in l dC dI a k u p2 1 8) (cwS 3 hts (wG_S wG_c q_650 q_651 q_7 q_652) rfl rfl rfl (by decide +kernel) ⟨Nat.le_of_ble_eq_true rfl, Nat.le_of_ble_eq_true rfl⟩) (w_roS hK hP) rfl rfl hl.1 rfl (lv_room (Nat.le_of_ble_eq_true rfl)) dX6_slot_56 ⟨Nat.le_of_ble_eq_true rfl, Nat.le_of_ble_eq_true rfl⟩) (fun r_32 hr_32 => ?_)
          subst hr_32
          refine bz_ne (a := (inR p2 1 8)) (tgt := 66) hx hb dX6_slot_59 (by decide) (fun c_59 => ?_) (fun c_59 => ?_)
          · refine lv_iconst (v := 0) hx hb dX6_slot_66 (by decide) ?_
            refine lv_aload_n hx hb dX6_slot_67 rfl (lv_at hl 1 rfl) ?_
            refine va_get (D := (dC, dI)) (ci := 6) (v := .int (nI (cu_N u 0))) (C := RX6) (T := TX6) (N := 20) hx hb htg inX6 hown hK hP 0 (wR_g0 a k _) rfl 1 (by decide) (htg _ q_582) (fun _ h9 => h9) rfl dX6_slot_68 ?_
            refine lv_sipush (v := 200) hx hb dX6_slot_71 (by decide) ?_
            refine nb_ne (a := (cu_N u 0)) (b := 200) (tgt := 81) hx hb (by omega) (by omega) rfl rfl dX6_slot_74 (by decide) (fun c_74 => ?_) (fun c_74 => ?_)
            · refine lv_iconst (v := 0) hx hb dX6_slot_81 (by decide) ?_
              refine w_cali (w := wR a k) (va_runV (As := [.int 1, .int 0, .int 0]) (rest := []) ⟨hx, hb, hml, hown, hts⟩ (c_X6_throwing l dC dI a k u _ true false false) (cwV 3 hts (wG_V wG_c q_654 q_656 p_7 q_7 q_657) rfl rfl rfl (by decide +kernel) ⟨Nat.le_of_ble_eq_true rfl, Nat.le_of_ble_eq_true rfl⟩) (w_muV hK hP hD (ci := 6) (q0 := 0) rfl (wR_g0 a k _) rfl) rfl rfl hl.1 rfl (lv_room (Nat.le_of_ble_eq_true rfl)) dX6_slot_82 ⟨Nat.le_of_ble_eq_true rfl, Nat.le_of_ble_eq_true rfl⟩) hD hS hA (fun r_33 u_33 H locs hq_33 hP hD hS => ?_)
              obtain ⟨er9, eu9⟩ := hq_33
              subst er9 eu9
              refine wtopi (1) rfl ?_
              refine lv_if_eq (tgt := 90) hx hb dX6_slot_85 (by decide) (fun h9 => absurd h9 (by decide)) (fun _ => ?_)
              refine lv_iconst (v := 0) hx hb dX6_slot_88 (by decide) ?_
              exact W.iret (v := 0) hx hb hr (fun t9 ht9 hW9 => ⟨⟨_, cs_N u 4 (m_code true false false), rfl, ⟨fun _ => congrArg (cs_N u 4) (by simp [c_7, c_18, c_29, c_49, c_59, c_74]), fun h9 => absurd h9 (by simp [m_code, c_7, c_18, c_29, c_49, c_59, c_74])⟩, by rw [ht9]; exact hP, va_K.moved hW9.alike hK, hD⟩, hS.F ht9⟩) hS.2.2 dX6_slot_89
            · refine lv_iconst (v := 1) hx hb dX6_slot_77 (by decide) ?_
              refine lv_goto (tgt := 82) hx hb dX6_slot_78 (by decide) ?_
              refine w_cali (w := wR a k) (va_runV (As := [.int 1, .int 0, .int 1]) (rest := []) ⟨hx, hb, hml, hown, hts⟩ (c_X6_throwing l dC dI a k u _ true false true) (cwV 3 hts (wG_V wG_c q_654 q_656 p_7 q_7 q_657) rfl rfl rfl (by decide +kernel) ⟨Nat.le_of_ble_eq_true rfl, Nat.le_of_ble_eq_true rfl⟩) (w_muV hK hP hD (ci := 6) (q0 := 0) rfl (wR_g0 a k _) rfl) rfl rfl hl.1 rfl (lv_room (Nat.le_of_ble_eq_true rfl)) dX6_slot_82 ⟨Nat.le_of_ble_eq_true rfl, Nat.le_of_ble_eq_true rfl⟩) hD hS hA (fun r_34 u_34 H locs hq_34 hP hD hS => ?_)
              obtain ⟨er9, eu9⟩ := hq_34
              subst er9 eu9
              refine wtopi (1) rfl ?_
              refine lv_if_eq (tgt := 90) hx hb dX6_slot_85 (by decide) (fun h9 => absurd h9 (by decide)) (fun _ => ?_)
              refine lv_iconst (v := 0) hx hb dX6_slot_88 (by decide) ?_
              exact W.iret (v := 0) hx hb hr (fun t9 ht9 hW9 => ⟨⟨_, cs_N u 4 (m_code true false true), rfl, ⟨fun _ => congrArg (cs_N u 4) (by simp [c_7, c_18, c_29, c_49, c_59, c_74]), fun h9 => absurd h9 (by simp [m_code, c_7, c_18, c_29, c_49, c_59, c_74])⟩, by rw [ht9]; exact hP, va_K.moved hW9.alike hK, hD⟩, hS.F ht9⟩) hS.2.2 dX6_slot_89
          · refine lv_iconst (v := 1) hx hb dX6_slot_62 (by decide) ?_
            refine lv_goto (tgt := 67) hx hb dX6_slot_63 (by decide) ?_
            refine lv_aload_n hx hb dX6_slot_67 rfl (lv_at hl 1 rfl) ?_
            refine va_get (D := (dC, dI)) (ci := 6) (v := .int (nI (cu_N u 0))) (C := RX6) (T := TX6) (N := 20) hx hb htg inX6 hown hK hP 0 (wR_g0 a k _) rfl 1 (by decide) (htg _ q_582) (fun _ h9 => h9) rfl dX6_slot_68 ?_
            refine lv_sipush (v := 200) hx hb dX6_slot_71 (by decide) ?_
            refine nb_ne (a := (cu_N u 0)) (b := 200) (tgt := 81) hx hb (by omega) (by omega) rfl rfl dX6_slot_74 (by decide) (fun c_74 => ?_) (fun c_74 => ?_)
            · refine lv_iconst (v := 0) hx hb dX6_slot_81 (by decide) ?_
              refine w_cali (w := wR a k) (va_runV (As := [.int 1, .int 1, .int 0]) (rest := []) ⟨hx, hb, hml, hown, hts⟩ (c_X6_throwing l dC dI a k u _ true true false) (cwV 3 hts (wG_V wG_c q_654 q_656 p_7 q_7 q_657) rfl rfl rfl (by decide +kernel) ⟨Nat.le_of_ble_eq_true rfl, Nat.le_of_ble_eq_true rfl⟩) (w_muV hK hP hD (ci := 6) (q0 := 0) rfl (wR_g0 a k _) rfl) rfl rfl hl.1 rfl (lv_room (Nat.le_of_ble_eq_true rfl)) dX6_slot_82 ⟨Nat.le_of_ble_eq_true rfl, Nat.le_of_ble_eq_true rfl⟩) hD hS hA (fun r_35 u_35 H locs hq_35 hP hD hS => ?_)
              obtain ⟨er9, eu9⟩ := hq_35
              subst er9 eu9
              refine wtopi (1) rfl ?_
              refine lv_if_eq (tgt := 90) hx hb dX6_slot_85 (by decide) (fun h9 => absurd h9 (by decide)) (fun _ => ?_)
              refine lv_iconst (v := 0) hx hb dX6_slot_88 (by decide) ?_
              exact W.iret (v := 0) hx hb hr (fun t9 ht9 hW9 => ⟨⟨_, cs_N u 4 (m_code true true false), rfl, ⟨fun _ => congrArg (cs_N u 4) (by simp [c_7, c_18, c_29, c_49, c_59, c_74]), fun h9 => absurd h9 (by simp [m_code, c_7, c_18, c_29, c_49, c_59, c_74])⟩, by rw [ht9]; exact hP, va_K.moved hW9.alike hK, hD⟩, hS.F ht9⟩) hS.2.2 dX6_slot_89
            · refine lv_iconst (v := 1) hx hb dX6_slot_77 (by decide) ?_
              refine lv_goto (tgt := 82) hx hb dX6_slot_78 (by decide) ?_
              refine w_cali (w := wR a k) (va_runV (As := [.int 1, .int 1, .int 1]) (rest := []) ⟨hx, hb, hml, hown, hts⟩ (c_X6_throwing l dC dI a k u _ true true true) (cwV 3 hts (wG_V wG_c q_654 q_656 p_7 q_7 q_657) rfl rfl rfl (by decide +kernel) ⟨Nat.le_of_ble_eq_true rfl, Nat.le_of_ble_eq_true rfl⟩) (w_muV hK hP hD (ci := 6) (q0 := 0) rfl (wR_g0 a k _) rfl) rfl rfl hl.1 rfl (lv_room (Nat.le_of_ble_eq_true rfl)) dX6_slot_82 ⟨Nat.le_of_ble_eq_true rfl, Nat.le_of_ble_eq_true rfl⟩) hD hS hA (fun r_36 u_36 H locs hq_36 hP hD hS => ?_)
              obtain ⟨er9, eu9⟩ := hq_36
              subst er9 eu9
              refine wtopi (1) rfl ?_
              refine lv_if_eq (tgt := 90) hx hb dX6_slot_85 (by decide) (fun h9 => absurd h9 (by decide)) (fun _ => ?_)
              refine lv_iconst (v := 0) hx hb dX6_slot_88 (by decide) ?_
              exact W.iret (v := 0) hx hb hr (fun t9 ht9 hW9 => ⟨⟨_, cs_N u 4 (m_code true true true), rfl, ⟨fun _ => congrArg (cs_N u 4) (by simp [c_7, c_18, c_29, c_49, c_59, c_74]), fun h9 => absurd h9 (by simp [m_code, c_7, c_18, c_29, c_49, c_59, c_74])⟩, by rw [ht9]; exact hP, va_K.moved hW9.alike hK, hD⟩, hS.F ht9⟩) hS.2.2 dX6_slot_89
set_option maxHeartbeats 4000000 in
set_option maxRecDepth 100000 in
theorem c_X6_mark (l : Launch) (dC : Nat → ClassId) (dI : Nat → Nat → Nat) (a : Nat → Nat) (k : c_K) (u : c_St) (sz : Nat) (h60 : cu_N u 1 ≤ 60) (p0 p1 p2 : Int32) : Met l yX6_mark wsX6_mark ({ frames := 1, cells := 0, slots := 0, locals := 23 }) (va_Pc [.ref (a 0), .int p0, .int p1, .int p2] (w_mu (dC, dI) vwCl (wR a k u) (tC k) sz)) (va_Qi (fun (r : Int32) (u1 : c_St) => (m_code (!inR p0 0 9) (!inR p1 0 9999999 || !inR p2 0 9999999) (decide (cu_N u 1 = 60)) ≠ 0 → u1 = cs_N u 4 (m_code (!inR p0 0 9) (!inR p1 0 9999999 || !inR p2 0 9999999) (decide (cu_N u 1 = 60)))) ∧ (m_code (!inR p0 0 9) (!inR p1 0 9999999 || !inR p2 0 9999999) (decide (cu_N u 1 = 60)) = 0 → ∃ sc ck tr : Nat, p0 = nI sc ∧ p1 = nI ck ∧ p2 = nI tr ∧ sc ≤ 9 ∧ ck ≤ 9999999 ∧ tr ≤ 9999999 ∧ cu_N u 1 < 60 ∧ r = nI (cu_N u 1) ∧ u1 = cs_N (cs_D (cs_F (cs_N u 4 0) 5 (cu_N u 1) sc) 0 (cu_N u 1) ((tr : Int) - (ck : Int))) 1 (cu_N u 1 + 1))) (w_at (dC, dI) vwCl (wR a k) (tC k) (va_A (wR a k u) sz)) (va_A (wR a k u) sz)) 0 0 (va_A (wR a k u) sz) := by
  refine Met.ofW (cc := cX6_mark) (maxL := 4) (ret := (some .int)) (by decide) rfl ?_
  intro p e s m args below meth c s₁ B hml hv
  obtain ⟨rfl, hsz, hP, hK, hD0⟩ := hv
  have hx := B.exec
  have hb := B.bytes
  have hr := B.returns
  have hts := atoms_spec (ws := wsX6_mark) B.pre
  have htg : ∀ w ∈ wG, w.before _ s = true := fun w h => hts w (List.mem_cons_of_mem _ h)
  have hown : s.vm.findClass RX6 = some m.cls := findClass_of_methodNamed B.named
  have hlocks := B.notSynchronized
  subst hsz
  have hD := hD0.self (sz := s.heap.size)
  generalize hAe : va_A (wR a k u) s.heap.size = A at hD ⊢
  have hA : ∀ q : Nat, s.heap.size ≤ q → A q := fun q h => by rw [← hAe]; exact Or.inr h
  have hS : va_S A s.heap s.heap [] := va_S.rf
  have hl := lv_entry ([.ref (a 0), .int p0, .int p1, .int p2]) (n := 4) (Nat.le_of_ble_eq_true rfl)
  rw [lg_entry_eq]
  generalize (lg_sl ([.ref (a 0), .int p0, .int p1, .int p2]) ++ List.replicate (4 - (lg_sl ([.ref (a 0), .int p0, .int p1, .int p2])).length) Slot.unset).toArray = ls at hl ⊢
  have hl : lv_has ls 4 [(0, .ref (a 0)), (1, .int p0), (2, .int p1), (3, .int p2)] := hl
  refine lv_aload_n hx hb dX6_mark_0 rfl (lv_at hl 0 rfl) ?_
  refine lv_iload_n hx hb dX6_mark_1 rfl (lv_at hl 1 rfl) ?_
  refine lv_iconst (v := 0) hx hb dX6_mark_2 (by decide) ?_
  refine lv_bipush (v := 9) hx hb dX6_mark_3 (by decide) ?_
  refine vp_callSi (W.runS (As := [.int p0, .int 0, .int 9]) (rest := [.ref (a 0)]) ⟨hx, hb, hml, hown, hts⟩ (c_X6_in l dC dI a k u p0 0 9) (cwS 3 hts (wG_S wG_c q_650 q_651 q_7 q_652) rfl rfl rfl (by decide +kernel) ⟨Nat.le_of_ble_eq_true rfl, Nat.le_of_ble_eq_true rfl⟩) (w_roS hK hP) rfl rfl hl.1 rfl (lv_room (Nat.le_of_ble_eq_true rfl)) dX6_mark_5 ⟨Nat.le_of_ble_eq_true rfl, Nat.le_of_ble_eq_true rfl⟩) (fun r_1 hr_1 => ?_)
  subst hr_1
  refine bz_ne (a := (inR p0 0 9)) (tgt := 15) hx hb dX6_mark_8 (by decide) (fun c_8 => ?_) (fun c_8 => ?_)
  · refine lv_iconst (v := 0) hx hb dX6_mark_15 (by decide) ?_
    refine lv_iload_n hx hb dX6_mark_16 rfl (lv_at hl 2 rfl) ?_
    refine lv_iconst (v := 0) hx hb dX6_mark_17 (by decide) ?_
    refine lv_ldc (v := 9999999) hx hb hown (htg _ q_653) dX6_mark_18 ?_
    refine vp_callSi (W.runS (As := [.int p1, .int 0, .int 9999999]) (rest := [.int 0, .ref (a 0)]) ⟨hx, hb, hml, hown, hts⟩ (c_X6_in l dC dI a k u p1 0 9999999) (cwS 3 hts (wG_S wG_c q_650 q_651 q_7 q_652) rfl rfl rfl (by decide +kernel) ⟨Nat.le_of_ble_eq_true rfl, Nat.le_of_ble_eq_true rfl⟩) (w_roS hK hP) rfl rfl hl.1 rfl (lv_room (Nat.le_of_ble_eq_true rfl)) dX6_mark_20 ⟨Nat.le_of_ble_eq_true rfl, Nat.le_of_ble_eq_true rfl⟩) (fun r_2 hr_2 => ?_)
    subst hr_2
    refine bz_eq (a := (inR p1 0 9999999)) (tgt := 36) hx hb dX6_mark_23 (by decide) (fun c_23 => ?_) (fun c_23 => ?_)
    · refine lv_iconst (v := 1) hx hb dX6_mark_36 (by decide) ?_
      refine lv_goto (tgt := 41) hx hb dX6_mark_37 (by decide) ?_
      refine lv_aload_n hx hb dX6_mark_41 rfl (lv_at hl 0 rfl) ?_
      refine va_get (D := (dC, dI)) (ci := 6) (v := .int (nI (cu_N u 1))) (C := RX6) (T := TX6) (N := 20) hx hb htg inX6 hown hK hP 0 (wR_g0 a k _) rfl 10 (by decide) (htg _ q_591) (fun _ h9 => h9) rfl dX6_mark_42 ?_
      refine lv_bipush (v := 60) hx hb dX6_mark_45 (by decide) ?_
      refine nb_ne (a := (cu_N u 1)) (b := 60) (tgt := 54) hx hb (by omega) (by omega) rfl rfl dX6_mark_47 (by decide) (fun c_47 => ?_) (fun c_47 => ?_)
      · refine lv_iconst (v := 0) hx hb dX6_mark_54 (by decide) ?_
        refine w_cali (w := wR a k) (va_runV (As := [.int 0, .int 1, .int 0]) (rest := []) ⟨hx, hb, hml, hown, hts⟩ (c_X6_throwing l dC dI a k u _ false true false) (cwV 3 hts (wG_V wG_c q_654 q_656 p_7 q_7 q_657) rfl rfl rfl (by decide +kernel) ⟨Nat.le_of_ble_eq_true rfl, Nat.le_of_ble_eq_true rfl⟩) (w_muV hK hP hD (ci := 6) (q0 := 0) rfl (wR_g0 a k _) rfl) rfl rfl hl.1 rfl (lv_room (Nat.le_of_ble_eq_true rfl)) dX6_mark_55 ⟨Nat.le_of_ble_eq_true rfl, Nat.le_of_ble_eq_true rfl⟩) hD hS hA (fun r_3 u_3 H locs hq_3 hP hD hS => ?_)
        obtain ⟨er9, eu9⟩ := hq_3
        subst er9 eu9
        refine wtopi (1) rfl ?_
        refine lv_if_eq (tgt := 63) hx hb dX6_mark_58 (by decide) (fun h9 => absurd h9 (by decide)) (fun _ => ?_)
        refine lv_iconst (v := 0) hx hb dX6_mark_61 (by decide) ?_
        exact W.iret (v := 0) hx hb hr (fun t9 ht9 hW9 => ⟨⟨_, cs_N u 4 (m_code false true false), rfl, ⟨fun _ => congrArg (cs_N u 4) (by simp [c_8, c_23, c_47]), fun h9 => absurd h9 (by simp [m_code, c_8, c_23, c_47])⟩, by rw [ht9]; exact hP, va_K.moved hW9.alike hK, hD⟩, hS.F ht9⟩) hS.2.2 dX6_mark_62
      · refine lv_iconst (v := 1) hx hb dX6_mark_50 (by decide) ?_
        refine lv_goto (tgt := 55) hx hb dX6_mark_51 (by decide) ?_
        refine w_cali (w := wR a k) (va_runV (As := [.int 0, .int 1, .int 1]) (rest := []) ⟨hx, hb, hml, hown, hts⟩ (c_X6_throwing l dC dI a k u _ false true true) (cwV 3 hts (wG_V wG_c q_654 q_656 p_7 q_7 q_657) rfl rfl rfl (by decide +kernel) ⟨Nat.le_of_ble_eq_true rfl, Nat.le_of_ble_eq_true rfl⟩) (w_muV hK hP hD (ci := 6) (q0 := 0) rfl (wR_g0 a k _) rfl) rfl rfl hl.1 rfl (lv_room (Nat.le_of_ble_eq_true rfl)) dX6_mark_55 ⟨Nat.le_of_ble_eq_true rfl, Nat.le_of_ble_eq_true rfl⟩) hD hS hA (fun r_4 u_4 H locs hq_4 hP hD hS => ?_)
        obtain ⟨er9, eu9⟩ := hq_4
        subst er9 eu9
        refine wtopi (1) rfl ?_
        refine lv_if_eq (tgt := 63) hx hb dX6_mark_58 (by decide) (fun h9 => absurd h9 (by decide)) (fun _ => ?_)
        refine lv_iconst (v := 0) hx hb dX6_mark_61 (by decide) ?_
        exact W.iret (v := 0) hx hb hr (fun t9 ht9 hW9 => ⟨⟨_, cs_N u 4 (m_code false true true), rfl, ⟨fun _ => congrArg (cs_N u 4) (by simp [c_8, c_23, c_47]), fun h9 => absurd h9 (by simp [m_code, c_8, c_23, c_47])⟩, by rw [ht9]; exact hP, va_K.moved hW9.alike hK, hD⟩, hS.F ht9⟩) hS.2.2 dX6_mark_62
    · refine lv_iload_n hx hb dX6_mark_26 rfl (lv_at hl 3 rfl) ?_
      refine lv_iconst (v := 0) hx hb dX6_mark_27 (by decide) ?_
      refine lv_ldc (v := 9999999) hx hb hown (htg _ q_653) dX6_mark_28 ?_
      refine vp_callSi (W.runS (As := [.int p2, .int 0, .int 9999999]) (rest := [.int 0, .ref (a 0)]) ⟨hx, hb, hml, hown, hts⟩ (c_X6_in l dC dI a k u p2 0 9999999) (cwS 3 hts (wG_S wG_c q_650 q_651 q_7 q_652) rfl rfl rfl (by decide +kernel) ⟨Nat.le_of_ble_eq_true rfl, Nat.le_of_ble_eq_true rfl⟩) (w_roS hK hP) rfl rfl hl.1 rfl (lv_room (Nat.le_of_ble_eq_true rfl)) dX6_mark_30 ⟨Nat.le_of_ble_eq_true rfl, Nat.le_of_ble_eq_true rfl⟩) (fun r_5 hr_5 => ?_)
      subst hr_5
      refine bz_ne (a := (inR p2 0 9999999)) (tgt := 40) hx hb dX6_mark_33 (by decide) (fun c_33 => ?_) (fun c_33 => ?_)
      · refine lv_iconst (v := 0) hx hb dX6_mark_40 (by decide) ?_
        refine lv_aload_n hx hb dX6_mark_41 rfl (lv_at hl 0 rfl) ?_
        refine va_get (D := (dC, dI)) (ci := 6) (v := .int (nI (cu_N u 1))) (C := RX6) (T := TX6) (N := 20) hx hb htg inX6 hown hK hP 0 (wR_g0 a k _) rfl 10 (by decide) (htg _ q_591) (fun _ h9 => h9) rfl dX6_mark_42 ?_
        refine lv_bipush (v := 60) hx hb dX6_mark_45 (by decide) ?_
        refine nb_ne (a := (cu_N u 1)) (b := 60) (tgt := 54) hx hb (by omega) (by omega) rfl rfl dX6_mark_47 (by decide) (fun c_47 => ?_) (fun c_47 => ?_)
        · refine lv_iconst (v := 0) hx hb dX6_mark_54 (by decide) ?_
          refine w_cali (w := wR a k) (va_runV (As := [.int 0, .int 0, .int 0]) (rest := []) ⟨hx, hb, hml, hown, hts⟩ (c_X6_throwing l dC dI a k u _ false false false) (cwV 3 hts (wG_V wG_c q_654 q_656 p_7 q_7 q_657) rfl rfl rfl (by decide +kernel) ⟨Nat.le_of_ble_eq_true rfl, Nat.le_of_ble_eq_true rfl⟩) (w_muV hK hP hD (ci := 6) (q0 := 0) rfl (wR_g0 a k _) rfl) rfl rfl hl.1 rfl (lv_room (Nat.le_of_ble_eq_true rfl)) dX6_mark_55 ⟨Nat.le_of_ble_eq_true rfl, Nat.le_of_ble_eq_true rfl⟩) hD hS hA (fun r_6 u_6 H locs hq_6 hP hD hS => ?_)
          obtain ⟨er9, eu9⟩ := hq_6
          subst er9 eu9
          refine wtopi (0) rfl ?_
          refine lv_if_eq (tgt := 63) hx hb dX6_mark_58 (by decide) (fun _ => ?_) (fun h9 => absurd h9 (by decide))
          obtain ⟨sc, l_sc, h_sc, e_sc⟩ := inR_nat (l9 := 0) (h9 := 9) c_8 rfl rfl (by decide)
          subst e_sc
          obtain ⟨ck, l_ck, h_ck, e_ck⟩ := inR_nat (l9 := 0) (h9 := 9999999) c_23 rfl rfl (by decide)
          subst e_ck
          obtain ⟨tr, l_tr, h_tr, e_tr⟩ := inR_nat (l9 := 0) (h9 := 9999999) c_33 rfl rfl (by decide)
          subst e_tr
          have hN2 : cu_N u 1 < 60 := by omega
          refine lv_aload_n hx hb dX6_mark_63 rfl (lv_at hl 0 rfl) ?_
          refine va_get (D := (dC, dI)) (ci := 6) (v := .ref (a 6)) (C := RX6) (T := TX6) (N := 20) hx hb htg inX6 hown hK hP 0 (wR_g0 a k _) rfl 11 (by decide) (htg _ q_592) (fun _ h9 => h9) rfl dX6_mark_64 ?_
          refine lv_aload_n hx hb dX6_mark_67 rfl (lv_at hl 0 rfl) ?_
          refine va_get (D := (dC, dI)) (ci := 6) (v := .int (nI (cu_N (cs_N u 4 (m_code false false false)) 1))) (C := RX6) (T := TX6) (N := 20) hx hb htg inX6 hown hK hP 0 (wR_g0 a k _) rfl 10 (by decide) (htg _ q_591) (fun _ h9 => h9) rfl dX6_mark_68 ?_
          refine wtopi (y := nI (cu_N u 1)) rfl ?_
          refine lv_iload_n hx hb dX6_mark_71 rfl (lv_at hl 1 rfl) ?_
          refine va_iast hx hb hK hP hD hS 6 0 (wR_g6 a k _) rfl (vp_in_nI (n := (cu_N u 1)) (N := 60) hN2 (by decide)) dX6_mark_72 (fun H locs hP hD hS => ?_)
          have hP := w_pE (wR_s6 a k _ (cu_N u 1) sc (Nat.lt_trans (m := 60) hN2 (by decide))) hP
          have hD := w_dE (wR_s6 a k _ (cu_N u 1) sc (Nat.lt_trans (m := 60) hN2 (by decide))) hD
          refine lv_aload_n hx hb dX6_mark_73 rfl (lv_at hl 0 rfl) ?_
          refine va_get (D := (dC, dI)) (ci := 6) (v := .ref (a 15)) (C := RX6) (T := TX6) (N := 20) hx hb htg inX6 hown hK hP 0 (wR_g0 a k _) rfl 12 (by decide) (htg _ q_593) (fun _ h9 => h9) rfl dX6_mark_74 ?_
          refine lv_aload_n hx hb dX6_mark_77 rfl (lv_at hl 0 rfl) ?_
          refine va_get (D := (dC, dI)) (ci := 6) (v := .int (nI (cu_N (cs_F (cs_N u 4 (m_code false false false)) 5 (cu_N u 1) sc) 1))) (C := RX6) (T := TX6) (N := 20) hx hb htg inX6 hown hK hP 0 (wR_g0 a k _) rfl 10 (by decide) (htg _ q_591) (fun _ h9 => h9) rfl dX6_mark_78 ?_
          refine wtopi (y := nI (cu_N u 1)) rfl ?_
          refine lv_iload_n hx hb dX6_mark_81 rfl (lv_at hl 3 rfl) ?_
          refine lv_iload_n hx hb dX6_mark_82 rfl (lv_at hl 2 rfl) ?_
          refine lv_isub hx hb dX6_mark_83 ?_
          refine wtopi (y := iI ((tr : Int) - (ck : Int))) (by rw [nI_iI, nI_iI, iI_sub]) ?_
          refine va_iast hx hb hK hP hD hS 15 0 (wR_g15 a k _) rfl (vp_in_nI (n := (cu_N u 1)) (N := 60) hN2 (by decide)) dX6_mark_84 (fun H locs hP hD hS => ?_)
          have hP := w_pE (wR_s15 a k _ (cu_N u 1) ((tr : Int) - (ck : Int)) (Nat.lt_trans (m := 60) hN2 (by decide))) hP
          have hD := w_dE (wR_s15 a k _ (cu_N u 1) ((tr : Int) - (ck : Int)) (Nat.lt_trans (m := 60) hN2 (by decide))) hD
          refine lv_aload_n hx hb dX6_mark_85 rfl (lv_at hl 0 rfl) ?_
          refine lv_dup hx hb dX6_mark_86 rfl ?_
          refine va_get (D := (dC, dI)) (ci := 6) (v := .int (nI (cu_N (cs_D (cs_F (cs_N u 4 (m_code false false false)) 5 (cu_N u 1) sc) 0 (cu_N u 1) ((tr : Int) - (ck : Int))) 1))) (C := RX6) (T := TX6) (N := 20) hx hb htg inX6 hown hK hP 0 (wR_g0 a k _) rfl 10 (by decide) (htg _ q_591) (fun _ h9 => h9) rfl dX6_mark_87 ?_
          refine lv_iconst (v := 1) hx hb dX6_mark_90 (by decide) ?_
          refine lv_iadd hx hb dX6_mark_91 ?_
          refine wtopi (y := nI (cu_N u 1 + 1)) (nI_1 (cu_N u 1)) ?_
          refine va_put (D := (dC, dI)) (ci := 6) (v := .int (nI (cu_N u 1 + 1))) (ty := .int) (C := RX6) (T := TX6) (N := 20) hx hb htg inX6 tyX6 tyX6_ok nmX6 hown hK hP hD hS 0 (wR_g0 a k _) rfl 10 (by decide) (htg _ q_591) (fun _ h9 => h9) rfl (by decide +kernel) rfl rfl (Nat.le_of_ble_eq_true rfl) dX6_mark_92 (fun H locs hP hD hS => ?_)
          have hP := w_pE (wR_n1 a k _ (cu_N u 1 + 1)) hP
          have hD := w_dE (wR_n1 a k _ (cu_N u 1 + 1)) hD
          refine lv_aload_n hx hb dX6_mark_95 rfl (lv_at hl 0 rfl) ?_
          refine va_get (D := (dC, dI)) (ci := 6) (v := .int (nI (cu_N (cs_N (cs_D (cs_F (cs_N u 4 (m_code false false false)) 5 (cu_N u 1) sc) 0 (cu_N u 1) ((tr : Int) - (ck : Int))) 1 (cu_N u 1 + 1)) 1))) (C := RX6) (T := TX6) (N := 20) hx hb htg inX6 hown hK hP 0 (wR_g0 a k _) rfl 10 (by decide) (htg _ q_591) (fun _ h9 => h9) rfl dX6_mark_96 ?_
          refine wtopi (y := nI (cu_N u 1 + 1)) rfl ?_
          refine lv_iconst (v := 1) hx hb dX6_mark_99 (by decide) ?_
          refine lv_isub hx hb dX6_mark_100 ?_
          refine wtopi (y := nI (cu_N u 1)) (pk_sub (a := cu_N u 1 + 1) (b := 1) (by omega)) ?_
          exact W.iret (v := nI (cu_N u 1)) hx hb hr (fun t9 ht9 hW9 => ⟨⟨_, cs_N (cs_D (cs_F (cs_N u 4 (m_code false false false)) 5 (cu_N u 1) sc) 0 (cu_N u 1) ((tr : Int) - (ck : Int))) 1 (cu_N u 1 + 1), rfl, ⟨fun h9 => absurd (by simp [m_code, c_8, c_23, c_33, c_47]) h9, fun _ => ⟨sc, ck, tr, rfl, rfl, rfl, h_sc, h_ck, h_tr, hN2, rfl, rfl⟩⟩, by rw [ht9]; exact hP, va_K.moved hW9.alike hK, hD⟩, hS.F ht9⟩) hS.2.2 dX6_mark_101
        · refine lv_iconst (v := 1) hx hb dX6_mark_50 (by decide) ?_
          refine lv_goto (tgt := 55) hx hb dX6_mark_51 (by decide) ?_
          refine w_cali (w := wR a k) (va_runV (As := [.int 0, .int 0, .int 1]) (rest := []) ⟨hx, hb, hml, hown, hts⟩ (c_X6_throwing l dC dI a k u _ false false true) (cwV 3 hts (wG_V wG_c q_654 q_656 p_7 q_7 q_657) rfl rfl rfl (by decide +kernel) ⟨Nat.le_of_ble_eq_true rfl, Nat.le_of_ble_eq_true rfl⟩) (w_muV hK hP hD (ci := 6) (q0 := 0) rfl (wR_g0 a k _) rfl) rfl rfl hl.1 rfl (lv_room (Nat.le_of_ble_eq_true rfl)) dX6_mark_55 ⟨Nat.le_of_ble_eq_true rfl, Nat.le_of_ble_eq_true rfl⟩) hD hS hA (fun r_7 u_7 H locs hq_7 hP hD hS => ?_)
          obtain ⟨er9, eu9⟩ := hq_7
          subst er9 eu9
          refine wtopi (1) rfl ?_
          refine lv_if_eq (tgt := 63) hx hb dX6_mark_58 (by decide) (fun h9 => absurd h9 (by decide)) (fun _ => ?_)
          refine lv_iconst (v := 0) hx hb dX6_mark_61 (by decide) ?_
          exact W.iret (v := 0) hx hb hr (fun t9 ht9 hW9 => ⟨⟨_, cs_N u 4 (m_code false false true), rfl, ⟨fun _ => congrArg (cs_N u 4) (by simp [c_8, c_23, c_33, c_47]), fun h9 => absurd h9 (by simp [m_code, c_8, c_23, c_33, c_47])⟩, by rw [ht9]; exact hP, va_K.moved hW9.alike hK, hD⟩, hS.F ht9⟩) hS.2.2 dX6_mark_62
      · refine lv_iconst (v := 1) hx hb dX6_mark_36 (by decide) ?_
        refine lv_goto (tgt := 41) hx hb dX6_mark_37 (by decide) ?_
        refine lv_aload_n hx hb dX6_mark_41 rfl (lv_at hl 0 rfl) ?_
        refine va_get (D := (dC, dI)) (ci := 6) (v := .int (nI (cu_N u 1))) (C := RX6) (T := TX6) (N := 20) hx hb htg inX6 hown hK hP 0 (wR_g0 a k _) rfl 10 (by decide) (htg _ q_591) (fun _ h9 => h9) rfl dX6_mark_42 ?_
        refine lv_bipush (v := 60) hx hb dX6_mark_45 (by decide) ?_
        refine nb_ne (a := (cu_N u 1)) (b := 60) (tgt := 54) hx hb (by omega) (by omega) rfl rfl dX6_mark_47 (by decide) (fun c_47 => ?_) (fun c_47 => ?_)
        · refine lv_iconst (v := 0) hx hb dX6_mark_54 (by decide) ?_
          refine w_cali (w := wR a k) (va_runV (As := [.int 0, .int 1, .int 0]) (rest := []) ⟨hx, hb, hml, hown, hts⟩ (c_X6_throwing l dC dI a k u _ false true false) (cwV 3 hts (wG_V wG_c q_654 q_656 p_7 q_7 q_657) rfl rfl rfl (by decide +kernel) ⟨Nat.le_of_ble_eq_true rfl, Nat.le_of_ble_eq_true rfl⟩) (w_muV hK hP hD (ci := 6) (q0 := 0) rfl (wR_g0 a k _) rfl) rfl rfl hl.1 rfl (lv_room (Nat.le_of_ble_eq_true rfl)) dX6_mark_55 ⟨Nat.le_of_ble_eq_true rfl, Nat.le_of_ble_eq_true rfl⟩) hD hS hA (fun r_8 u_8 H locs hq_8 hP hD hS => ?_)
          obtain ⟨er9, eu9⟩ := hq_8
          subst er9 eu9
          refine wtopi (1) rfl ?_
          refine lv_if_eq (tgt := 63) hx hb dX6_mark_58 (by decide) (fun h9 => absurd h9 (by decide)) (fun _ => ?_)
          refine lv_iconst (v := 0) hx hb dX6_mark_61 (by decide) ?_
          exact W.iret (v := 0) hx hb hr (fun t9 ht9 hW9 => ⟨⟨_, cs_N u 4 (m_code false true false), rfl, ⟨fun _ => congrArg (cs_N u 4) (by simp [c_8, c_23, c_33, c_47]), fun h9 => absurd h9 (by simp [m_code, c_8, c_23, c_33, c_47])⟩, by rw [ht9]; exact hP, va_K.moved hW9.alike hK, hD⟩, hS.F ht9⟩) hS.2.2 dX6_mark_62
        · refine lv_iconst (v := 1) hx hb dX6_mark_50 (by decide) ?_
          refine lv_goto (tgt := 55) hx hb dX6_mark_51 (by decide) ?_
          refine w_cali (w := wR a k) (va_runV (As := [.int 0, .int 1, .int 1]) (rest := []) ⟨hx, hb, hml, hown, hts⟩ (c_X6_throwing l dC dI a k u _ false true true) (cwV 3 hts (wG_V wG_c q_654 q_656 p_7 q_7 q_657) rfl rfl rfl (by decide +kernel) ⟨Nat.le_of_ble_eq_true rfl, Nat.le_of_ble_eq_true rfl⟩) (w_muV hK hP hD (ci := 6) (q0 := 0) rfl (wR_g0 a k _) rfl) rfl rfl hl.1 rfl (lv_room (Nat.le_of_ble_eq_true rfl)) dX6_mark_55 ⟨Nat.le_of_ble_eq_true rfl, Nat.le_of_ble_eq_true rfl⟩) hD hS hA (fun r_9 u_9 H locs hq_9 hP hD hS => ?_)
          obtain ⟨er9, eu9⟩ := hq_9
          subst er9 eu9
          refine wtopi (1) rfl ?_
          refine lv_if_eq (tgt := 63) hx hb dX6_mark_58 (by decide) (fun h9 => absurd h9 (by decide)) (fun _ => ?_)
          refine lv_iconst (v := 0) hx hb dX6_mark_61 (by decide) ?_
          exact W.iret (v := 0) hx hb hr (fun t9 ht9 hW9 => ⟨⟨_, cs_N u 4 (m_code false true true), rfl, ⟨fun _ => congrArg (cs_N u 4) (by simp [c_8, c_23, c_33, c_47]), fun h9 => absurd h9 (by simp [m_code, c_8, c_23, c_33, c_47])⟩, by rw [ht9]; exact hP, va_K.moved hW9.alike hK, hD⟩, hS.F ht9⟩) hS.2.2 dX6_mark_62
  · refine lv_iconst (v := 1) hx hb dX6_mark_11 (by decide) ?_
    refine lv_goto (tgt := 16) hx hb dX6_mark_12 (by decide) ?_
    refine lv_iload_n hx hb dX6_mark_16 rfl (lv_at hl 2 rfl) ?_
    refine lv_iconst (v := 0) hx hb dX6_mark_17 (by decide) ?_
    refine lv_ldc (v := 9999999) hx hb hown (htg _ q_653) dX6_mark_18 ?_
    refine vp_callSi (W.runS (As := [.int p1, .int 0, .int 9999999]) (rest := [.int 1, .ref (a 0)]) ⟨hx, hb, hml, hown, hts⟩ (c_X6_in l dC dI a k u p1 0 9999999) (cwS 3 hts (wG_S wG_c q_650 q_651 q_7 q_652) rfl rfl rfl (by decide +kernel) ⟨Nat.le_of_ble_eq_true rfl, Nat.le_of_ble_eq_true rfl⟩) (w_roS hK hP) rfl rfl hl.1 rfl (lv_room (Nat.le_of_ble_eq_true rfl)) dX6_mark_20 ⟨Nat.le_of_ble_eq_true rfl, Nat.le_of_ble_eq_true rfl⟩) (fun r_10 hr_10 => ?_)
    subst hr_10
    refine bz_eq (a := (inR p1 0 9999999)) (tgt := 36) hx hb dX6_mark_23 (by decide) (fun c_23 => ?_) (fun c_23 => ?_)
    · refine lv_iconst (v := 1) hx hb dX6_mark_36 (by decide) ?_
      refine lv_goto (tgt := 41) hx hb dX6_mark_37 (by decide) ?_
      refine lv_aload_n hx hb dX6_mark_41 rfl (lv_at hl 0 rfl) ?_
      refine va_get (D := (dC, dI)) (ci := 6) (v := .int (nI (cu_N u 1))) (C := RX6) (T := TX6) (N := 20) hx hb htg inX6 hown hK hP 0 (wR_g0 a k _) rfl 10 (by decide) (htg _ q_591) (fun _ h9 => h9) rfl dX6_mark_42 ?_
      refine lv_bipush (v := 60) hx hb dX6_mark_45 (by decide) ?_
      refine nb_ne (a := (cu_N u 1)) (b := 60) (tgt := 54) hx hb (by omega) (by omega) rfl rfl dX6_mark_47 (by decide) (fun c_47 => ?_) (fun c_47 => ?_)
      · refine lv_iconst (v := 0) hx hb dX6_mark_54 (by decide) ?_
        refine w_cali (w := wR a k) (va_runV (As := [.int 1, .int 1, .int 0]) (rest := []) ⟨hx, hb, hml, hown, hts⟩ (c_X6_throwing l dC dI a k u _ true true false) (cwV 3 hts (wG_V wG_c q_654 q_656 p_7 q_7 q_657) rfl rfl rfl (by decide +kernel) ⟨Nat.le_of_ble_eq_true rfl, Nat.le_of_ble_eq_true rfl⟩) (w_muV hK hP hD (ci := 6) (q0 := 0) rfl (wR_g0 a k _) rfl) rfl rfl hl.1 rfl (lv_room (Nat.le_of_ble_eq_true rfl)) dX6_mark_55 ⟨Nat.le_of_ble_eq_true rfl, Nat.le_of_ble_eq_true rfl⟩) hD hS hA (fun r_11 u_11 H locs hq_11 hP hD hS => ?_)
        obtain ⟨er9, eu9⟩ := hq_11
        subst er9 eu9
        refine wtopi (1) rfl ?_
        refine lv_if_eq (tgt := 63) hx hb dX6_mark_58 (by decide) (fun h9 => absurd h9 (by decide)) (fun _ => ?_)
        refine lv_iconst (v := 0) hx hb dX6_mark_61 (by decide) ?_
        exact W.iret (v := 0) hx hb hr (fun t9 ht9 hW9 => ⟨⟨_, cs_N u 4 (m_code true true false), rfl, ⟨fun _ => congrArg (cs_N u 4) (by simp [c_8, c_23, c_47]), fun h9 => absurd h9 (by simp [m_code, c_8, c_23, c_47])⟩, by rw [ht9]; exact hP, va_K.moved hW9.alike hK, hD⟩, hS.F ht9⟩) hS.2.2 dX6_mark_62
      · refine lv_iconst (v := 1) hx hb dX6_mark_50 (by decide) ?_
        refine lv_goto (tgt := 55) hx hb dX6_mark_51 (by decide) ?_
        refine w_cali (w := wR a k) (va_runV (As := [.int 1, .int 1, .int 1]) (rest := []) ⟨hx, hb, hml, hown, hts⟩ (c_X6_throwing l dC dI a k u _ true true true) (cwV 3 hts (wG_V wG_c q_654 q_656 p_7 q_7 q_657) rfl rfl rfl (by decide +kernel) ⟨Nat.le_of_ble_eq_true rfl, Nat.le_of_ble_eq_true rfl⟩) (w_muV hK hP hD (ci := 6) (q0 := 0) rfl (wR_g0 a k _) rfl) rfl rfl hl.1 rfl (lv_room (Nat.le_of_ble_eq_true rfl)) dX6_mark_55 ⟨Nat.le_of_ble_eq_true rfl, Nat.le_of_ble_eq_true rfl⟩) hD hS hA (fun r_12 u_12 H locs hq_12 hP hD hS => ?_)
        obtain ⟨er9, eu9⟩ := hq_12
        subst er9 eu9
        refine wtopi (1) rfl ?_
        refine lv_if_eq (tgt := 63) hx hb dX6_mark_58 (by decide) (fun h9 => absurd h9 (by decide)) (fun _ => ?_)
        refine lv_iconst (v := 0) hx hb dX6_mark_61 (by decide) ?_
        exact W.iret (v := 0) hx hb hr (fun t9 ht9 hW9 => ⟨⟨_, cs_N u 4 (m_code true true true), rfl, ⟨fun _ => congrArg (cs_N u 4) (by simp [c_8, c_23, c_47]), fun h9 => absurd h9 (by simp [m_code, c_8, c_23, c_47])⟩, by rw [ht9]; exact hP, va_K.moved hW9.alike hK, hD⟩, hS.F ht9⟩) hS.2.2 dX6_mark_62
    · refine lv_iload_n hx hb dX6_mark_26 rfl (lv_at hl 3 rfl) ?_
      refine lv_iconst (v := 0) hx hb dX6_mark_27 (by decide) ?_
      refine lv_ldc (v := 9999999) hx hb hown (htg _ q_653) dX6_mark_28 ?_
      refine vp_callSi (W.runS (As := [.int p2, .int 0, .int 9999999]) (rest := [.int 1, .ref (a 0)]) ⟨hx, hb, hml, hown, hts⟩ (c_X6_in l dC dI a k u p2 0 9999999) (cwS 3 hts (wG_S wG_c q_650 q_651 q_7 q_652) rfl rfl rfl (by decide +kernel) ⟨Nat.le_of_ble_eq_true rfl, Nat.le_of_ble_eq_true rfl⟩) (w_roS hK hP) rfl rfl hl.1 rfl (lv_room (Nat.le_of_ble_eq_true rfl)) dX6_mark_30 ⟨Nat.le_of_ble_eq_true rfl, Nat.le_of_ble_eq_true rfl⟩) (fun r_13 hr_13 => ?_)
      subst hr_13
      refine bz_ne (a := (inR p2 0 9999999)) (tgt := 40) hx hb dX6_mark_33 (by decide) (fun c_33 => ?_) (fun c_33 => ?_)
      · refine lv_iconst (v := 0) hx hb dX6_mark_40 (by decide) ?_
        refine lv_aload_n hx hb dX6_mark_41 rfl (lv_at hl 0 rfl) ?_
        refine va_get (D := (dC, dI)) (ci := 6) (v := .int (nI (cu_N u 1))) (C := RX6) (T := TX6) (N := 20) hx hb htg inX6 hown hK hP 0 (wR_g0 a k _) rfl 10 (by decide) (htg _ q_591) (fun _ h9 => h9) rfl dX6_mark_42 ?_
        refine lv_bipush (v := 60) hx hb dX6_mark_45 (by decide) ?_
        refine nb_ne (a := (cu_N u 1)) (b := 60) (tgt := 54) hx hb (by omega) (by omega) rfl rfl dX6_mark_47 (by decide) (fun c_47 => ?_) (fun c_47 => ?_)
        · refine lv_iconst (v := 0) hx hb dX6_mark_54 (by decide) ?_
          refine w_cali (w := wR a k) (va_runV (As := [.int 1, .int 0, .int 0]) (rest := []) ⟨hx, hb, hml, hown, hts⟩ (c_X6_throwing l dC dI a k u _ true false false) (cwV 3 hts (wG_V wG_c q_654 q_656 p_7 q_7 q_657) rfl rfl rfl (by decide +kernel) ⟨Nat.le_of_ble_eq_true rfl, Nat.le_of_ble_eq_true rfl⟩) (w_muV hK hP hD (ci := 6) (q0 := 0) rfl (wR_g0 a k _) rfl) rfl rfl hl.1 rfl (lv_room (Nat.le_of_ble_eq_true rfl)) dX6_mark_55 ⟨Nat.le_of_ble_eq_true rfl, Nat.le_of_ble_eq_true rfl⟩) hD hS hA (fun r_14 u_14 H locs hq_14 hP hD hS => ?_)
          obtain ⟨er9, eu9⟩ := hq_14
          subst er9 eu9
          refine wtopi (1) rfl ?_
          refine lv_if_eq (tgt := 63) hx hb dX6_mark_58 (by decide) (fun h9 => absurd h9 (by decide)) (fun _ => ?_)
          refine lv_iconst (v := 0) hx hb dX6_mark_61 (by decide) ?_
          exact W.iret (v := 0) hx hb hr (fun t9 ht9 hW9 => ⟨⟨_, cs_N u 4 (m_code true false false), rfl, ⟨fun _ => congrArg (cs_N u 4) (by simp [c_8, c_23, c_33, c_47]), fun h9 => absurd h9 (by simp [m_code, c_8, c_23, c_33, c_47])⟩, by rw [ht9]; exact hP, va_K.moved hW9.alike hK, hD⟩, hS.F ht9⟩) hS.2.2 dX6_mark_62
        · refine lv_iconst (v := 1) hx hb dX6_mark_50 (by decide) ?_
          refine lv_goto (tgt := 55) hx hb dX6_mark_51 (by decide) ?_
          refine w_cali (w := wR a k) (va_runV (As := [.int 1, .int 0, .int 1]) (rest := []) ⟨hx, hb, hml, hown, hts⟩ (c_X6_throwing l dC dI a k u _ true false true) (cwV 3 hts (wG_V wG_c q_654 q_656 p_7 q_7 q_657) rfl rfl rfl (by decide +kernel) ⟨Nat.le_of_ble_eq_true rfl, Nat.le_of_ble_eq_true rfl⟩) (w_muV hK hP hD (ci := 6) (q0 := 0) rfl (wR_g0 a k _) rfl) rfl rfl hl.1 rfl (lv_room (Nat.le_of_ble_eq_true rfl)) dX6_mark_55 ⟨Nat.le_of_ble_eq_true rfl, Nat.le_of_ble_eq_true rfl⟩) hD hS hA (fun r_15 u_15 H locs hq_15 hP hD hS => ?_)
          obtain ⟨er9, eu9⟩ := hq_15
          subst er9 eu9
          refine wtopi (1) rfl ?_
          refine lv_if_eq (tgt := 63) hx hb dX6_mark_58 (by decide) (fun h9 => absurd h9 (by decide)) (fun _ => ?_)
          refine lv_iconst (v := 0) hx hb dX6_mark_61 (by decide) ?_
          exact W.iret (v := 0) hx hb hr (fun t9 ht9 hW9 => ⟨⟨_, cs_N u 4 (m_code true false true), rfl, ⟨fun _ => congrArg (cs_N u 4) (by simp [c_8, c_23, c_33, c_47]), fun h9 => absurd h9 (by simp [m_code, c_8, c_23, c_33, c_47])⟩, by rw [ht9]; exact hP, va_K.moved hW9.alike hK, hD⟩, hS.F ht9⟩) hS.2.2 dX6_mark_62
      · refine lv_iconst (v := 1) hx hb dX6_mark_36 (by decide) ?_
        refine lv_goto (tgt := 41) hx hb dX6_mark_37 (by decide) ?_
        refine lv_aload_n hx hb dX6_mark_41 rfl (lv_at hl 0 rfl) ?_
        refine va_get (D := (dC, dI)) (ci := 6) (v := .int (nI (cu_N u 1))) (C := RX6) (T := TX6) (N := 20) hx hb htg inX6 hown hK hP 0 (wR_g0 a k _) rfl 10 (by decide) (htg _ q_591) (fun _ h9 => h9) rfl dX6_mark_42 ?_
        refine lv_bipush (v := 60) hx hb dX6_mark_45 (by decide) ?_
        refine nb_ne (a := (cu_N u 1)) (b := 60) (tgt := 54) hx hb (by omega) (by omega) rfl rfl dX6_mark_47 (by decide) (fun c_47 => ?_) (fun c_47 => ?_)
        · refine lv_iconst (v := 0) hx hb dX6_mark_54 (by decide) ?_
          refine w_cali (w := wR a k) (va_runV (As := [.int 1, .int 1, .int 0]) (rest := []) ⟨hx, hb, hml, hown, hts⟩ (c_X6_throwing l dC dI a k u _ true true false) (cwV 3 hts (wG_V wG_c q_654 q_656 p_7 q_7 q_657) rfl rfl rfl (by decide +kernel) ⟨Nat.le_of_ble_eq_true rfl, Nat.le_of_ble_eq_true rfl⟩) (w_muV hK hP hD (ci := 6) (q0 := 0) rfl (wR_g0 a k _) rfl) rfl rfl hl.1 rfl (lv_room (Nat.le_of_ble_eq_true rfl)) dX6_mark_55 ⟨Nat.le_of_ble_eq_true rfl, Nat.le_of_ble_eq_true rfl⟩) hD hS hA (fun r_16 u_16 H locs hq_16 hP hD hS => ?_)
          obtain ⟨er9, eu9⟩ := hq_16
          subst er9 eu9
          refine wtopi (1) rfl ?_
          refine lv_if_eq (tgt := 63) hx hb dX6_mark_58 (by decide) (fun h9 => absurd h9 (by decide)) (fun _ => ?_)
          refine lv_iconst (v := 0) hx hb dX6_mark_61 (by decide) ?_
          exact W.iret (v := 0) hx hb hr (fun t9 ht9 hW9 => ⟨⟨_, cs_N u 4 (m_code true true false), rfl, ⟨fun _ => congrArg (cs_N u 4) (by simp [c_8, c_23, c_33, c_47]), fun h9 => absurd h9 (by simp [m_code, c_8, c_23, c_33, c_47])⟩, by rw [ht9]; exact hP, va_K.moved hW9.alike hK, hD⟩, hS.F ht9⟩) hS.2.2 dX6_mark_62
        · refine lv_iconst (v := 1) hx hb dX6_mark_50 (by decide) ?_
          refine lv_goto (tgt := 55) hx hb dX6_mark_51 (by decide) ?_
          refine w_cali (w := wR a k) (va_runV (As := [.int 1, .int 1, .int 1]) (rest := []) ⟨hx, hb, hml, hown, hts⟩ (c_X6_throwing l dC dI a k u _ true true true) (cwV 3 hts (wG_V wG_c q_654 q_656 p_7 q_7 q_657) rfl rfl rfl (by decide +kernel) ⟨Nat.le_of_ble_eq_true rfl, Nat.le_of_ble_eq_true rfl⟩) (w_muV hK hP hD (ci := 6) (q0 := 0) rfl (wR_g0 a k _) rfl) rfl rfl hl.1 rfl (lv_room (Nat.le_of_ble_eq_true rfl)) dX6_mark_55 ⟨Nat.le_of_ble_eq_true rfl, Nat.le_of_ble_eq_true rfl⟩) hD hS hA (fun r_17 u_17 H locs hq_17 hP hD hS => ?_)
          obtain ⟨er9, eu9⟩ := hq_17
          subst er9 eu9
          refine wtopi (1) rfl ?_
          refine lv_if_eq (tgt := 63) hx hb dX6_mark_58 (by decide) (fun h9 => absurd h9 (by decide)) (fun _ => ?_)
          refine lv_iconst (v := 0) hx hb dX6_mark_61 (by decide) ?_
          exact W.iret (v := 0) hx hb hr (fun t9 ht9 hW9 => ⟨⟨_, cs_N u 4 (m_code true true true), rfl, ⟨fun _ => congrArg (cs_N u 4) (by simp [c_8, c_23, c_33, c_47]), fun h9 => absurd h9 (by simp [m_code, c_8, c_23, c_33, c_47])⟩, by rw [ht9]; exact hP, va_K.moved hW9.alike hK, hD⟩, hS.F ht9⟩) hS.2.2 dX6_mark_62
set_option maxHeartbeats 4000000 in
set_option maxRecDepth 100000 in
theorem c_X6_offset (l : Launch) (dC : Nat → ClassId) (dI : Nat → Nat → Nat) (a : Nat → Nat) (k : c_K) (u : c_St) (sz : Nat) (h : m_ok u) (p0 : Int32) : Met l yX6_offset wsX6_offset ({ frames := 2, cells := 0, slots := 0, locals := 44 }) (va_Pc [.ref (a 0), .int p0] (w_mu (dC, dI) vwCl (wR a k u) (tC k) sz)) (va_Qi (fun (r : Int32) (u1 : c_St) => u1 = cs_N u 4 (m_code (!inR p0 0 9) false false) ∧ (m_code (!inR p0 0 9) false false = 0 → ∃ sc : Nat, p0 = nI sc ∧ sc ≤ 9 ∧ r = iI (m_off u1 sc))) (w_at (dC, dI) vwCl (wR a k) (tC k) (va_A (wR a k u) sz)) (va_A (wR a k u) sz)) 0 0 (va_A (wR a k u) sz) := by
  refine Met.ofW (cc := cX6_offset) (maxL := 2) (ret := (some .int)) (by decide) rfl ?_
  intro p e s m args below meth c s₁ B hml hv
  obtain ⟨rfl, hsz, hP, hK, hD0⟩ := hv
  have hx := B.exec
  have hb := B.bytes
  have hr := B.returns
  have hts := atoms_spec (ws := wsX6_offset) B.pre
  have htg : ∀ w ∈ wG, w.before _ s = true := fun w h => hts w (List.mem_cons_of_mem _ h)
  have hown : s.vm.findClass RX6 = some m.cls := findClass_of_methodNamed B.named
  have hlocks := B.notSynchronized
  subst hsz
  have hD := hD0.self (sz := s.heap.size)
  generalize hAe : va_A (wR a k u) s.heap.size = A at hD ⊢
  have hA : ∀ q : Nat, s.heap.size ≤ q → A q := fun q h => by rw [← hAe]; exact Or.inr h
  have hS : va_S A s.heap s.heap [] := va_S.rf
  have hl := lv_entry ([.ref (a 0), .int p0]) (n := 2) (Nat.le_of_ble_eq_true rfl)
  rw [lg_entry_eq]
  generalize (lg_sl ([.ref (a 0), .int p0]) ++ List.replicate (2 - (lg_sl ([.ref (a 0), .int p0])).length) Slot.unset).toArray = ls at hl ⊢
  have hl : lv_has ls 2 [(0, .ref (a 0)), (1, .int p0)] := hl
  have h60 := h.2.1
  refine lv_aload_n hx hb dX6_offset_0 rfl (lv_at hl 0 rfl) ?_
  refine lv_iload_n hx hb dX6_offset_1 rfl (lv_at hl 1 rfl) ?_
  refine lv_iconst (v := 0) hx hb dX6_offset_2 (by decide) ?_
  refine lv_bipush (v := 9) hx hb dX6_offset_3 (by decide) ?_
  refine vp_callSi (W.runS (As := [.int p0, .int 0, .int 9]) (rest := [.ref (a 0)]) ⟨hx, hb, hml, hown, hts⟩ (c_X6_in l dC dI a k u p0 0 9) (cwS 3 hts (wG_S wG_c q_650 q_651 q_7 q_652) rfl rfl rfl (by decide +kernel) ⟨Nat.le_of_ble_eq_true rfl, Nat.le_of_ble_eq_true rfl⟩) (w_roS hK hP) rfl rfl hl.1 rfl (lv_room (Nat.le_of_ble_eq_true rfl)) dX6_offset_5 ⟨Nat.le_of_ble_eq_true rfl, Nat.le_of_ble_eq_true rfl⟩) (fun r_1 hr_1 => ?_)
  subst hr_1
  refine bz_ne (a := (inR p0 0 9)) (tgt := 15) hx hb dX6_offset_8 (by decide) (fun c_8 => ?_) (fun c_8 => ?_)
  · refine lv_iconst (v := 0) hx hb dX6_offset_15 (by decide) ?_
    refine lv_iconst (v := 0) hx hb dX6_offset_16 (by decide) ?_
    refine lv_iconst (v := 0) hx hb dX6_offset_17 (by decide) ?_
    refine w_cali (w := wR a k) (va_runV (As := [.int 0, .int 0, .int 0]) (rest := []) ⟨hx, hb, hml, hown, hts⟩ (c_X6_throwing l dC dI a k u _ false false false) (cwV 3 hts (wG_V wG_c q_654 q_656 p_7 q_7 q_657) rfl rfl rfl (by decide +kernel) ⟨Nat.le_of_ble_eq_true rfl, Nat.le_of_ble_eq_true rfl⟩) (w_muV hK hP hD (ci := 6) (q0 := 0) rfl (wR_g0 a k _) rfl) rfl rfl hl.1 rfl (lv_room (Nat.le_of_ble_eq_true rfl)) dX6_offset_18 ⟨Nat.le_of_ble_eq_true rfl, Nat.le_of_ble_eq_true rfl⟩) hD hS hA (fun r_2 u_2 H locs hq_2 hP hD hS => ?_)
    obtain ⟨er9, eu9⟩ := hq_2
    subst er9 eu9
    refine wtopi (0) rfl ?_
    refine lv_if_eq (tgt := 26) hx hb dX6_offset_21 (by decide) (fun _ => ?_) (fun h9 => absurd h9 (by decide))
    obtain ⟨sc, l_sc, h_sc, e_sc⟩ := inR_nat (l9 := 0) (h9 := 9) c_8 rfl rfl (by decide)
    subst e_sc
    obtain ⟨v, ev⟩ : ∃ v, v = cs_N u 4 (m_code false false false) := ⟨_, rfl⟩
    rw [← ev] at hP hD
    have hv : m_ok v := by rw [ev]; exact h
    have evN : ∀ k, k ≠ 4 → cu_N v k = cu_N u k := fun k hk => by rw [ev, cx_NN, if_neg hk]
    have evF : cu_F v = cu_F u := by rw [ev]; rfl
    have evB : cu_B v = cu_B u := by rw [ev]; rfl
    have evG : cu_G v = cu_G u := by rw [ev]; rfl
    have evD : cu_D v = cu_D u := by rw [ev]; rfl
    have v0 := evN 0 (by decide)
    have v1 := evN 1 (by decide)
    have v2 := evN 2 (by decide)
    have v3 := evN 3 (by decide)
    refine lv_aload_n hx hb dX6_offset_26 rfl (lv_at hl 0 rfl) ?_
    refine lv_iload_n hx hb dX6_offset_27 rfl (lv_at hl 1 rfl) ?_
    refine vp_callSi (W.runV (As := [.int (nI sc)]) (rest := []) ⟨hx, hb, hml, hown, hts⟩ (c_X6_offsetOf l dC dI a k v hv.2.1 sc (by omega) (fun j hj => (hv.2.2.2 j hj).1)) (cwV 1 hts (wG_V wG_c q_674 q_676 p_9 q_7 q_677) rfl rfl rfl (by decide +kernel) ⟨Nat.le_of_ble_eq_true rfl, Nat.le_of_ble_eq_true rfl⟩) (w_roV hK hP (ci := 6) (q0 := 0) rfl (wR_g0 a k _) rfl) rfl rfl hl.1 rfl (lv_room (Nat.le_of_ble_eq_true rfl)) dX6_offset_28 ⟨Nat.le_of_ble_eq_true rfl, Nat.le_of_ble_eq_true rfl⟩) (fun r_3 hr_3 => ?_)
    subst hr_3
    exact W.iret (v := iI (m_off v sc)) hx hb hr (fun t9 ht9 hW9 => ⟨⟨_, v, rfl, ⟨by rw [ev]; exact congrArg (cs_N u 4) (by simp [c_8]), fun h9 => ⟨sc, rfl, h_sc, rfl⟩⟩, by rw [ht9]; exact hP, va_K.moved hW9.alike hK, hD⟩, hS.F ht9⟩) hS.2.2 dX6_offset_31
  · refine lv_iconst (v := 1) hx hb dX6_offset_11 (by decide) ?_
    refine lv_goto (tgt := 16) hx hb dX6_offset_12 (by decide) ?_
    refine lv_iconst (v := 0) hx hb dX6_offset_16 (by decide) ?_
    refine lv_iconst (v := 0) hx hb dX6_offset_17 (by decide) ?_
    refine w_cali (w := wR a k) (va_runV (As := [.int 1, .int 0, .int 0]) (rest := []) ⟨hx, hb, hml, hown, hts⟩ (c_X6_throwing l dC dI a k u _ true false false) (cwV 3 hts (wG_V wG_c q_654 q_656 p_7 q_7 q_657) rfl rfl rfl (by decide +kernel) ⟨Nat.le_of_ble_eq_true rfl, Nat.le_of_ble_eq_true rfl⟩) (w_muV hK hP hD (ci := 6) (q0 := 0) rfl (wR_g0 a k _) rfl) rfl rfl hl.1 rfl (lv_room (Nat.le_of_ble_eq_true rfl)) dX6_offset_18 ⟨Nat.le_of_ble_eq_true rfl, Nat.le_of_ble_eq_true rfl⟩) hD hS hA (fun r_4 u_4 H locs hq_4 hP hD hS => ?_)
    obtain ⟨er9, eu9⟩ := hq_4
    subst er9 eu9
    refine wtopi (1) rfl ?_
    refine lv_if_eq (tgt := 26) hx hb dX6_offset_21 (by decide) (fun h9 => absurd h9 (by decide)) (fun _ => ?_)
    refine lv_iconst (v := 0) hx hb dX6_offset_24 (by decide) ?_
    exact W.iret (v := 0) hx hb hr (fun t9 ht9 hW9 => ⟨⟨_, cs_N u 4 (m_code true false false), rfl, ⟨congrArg (cs_N u 4) (by simp [c_8]), fun h9 => absurd h9 (by simp [m_code, c_8])⟩, by rw [ht9]; exact hP, va_K.moved hW9.alike hK, hD⟩, hS.F ht9⟩) hS.2.2 dX6_offset_25
theorem m_cn_le (u : c_St) : ∀ k, m_cn u k ≤ k
  | 0 => Nat.le_refl _
  | k + 1 => by
    have := m_cn_le u k
    show m_cn u k + _ ≤ _
    split <;> omega
theorem m_ct_f {u : c_St} {j : Nat} (h : cu_D u 0 j = cu_D u 0 (m_first u (cu_F u 5 j)).toNat) : m_ct u j = false := decide_eq_false (fun q => q h)
theorem m_ct_t {u : c_St} {j : Nat} (h : cu_D u 0 j ≠ cu_D u 0 (m_first u (cu_F u 5 j)).toNat) : m_ct u j = true := decide_eq_true h
theorem m_cn_f {u : c_St} {j : Nat} (h : m_ct u j = false) : m_cn u (j + 1) = m_cn u j := by
  show m_cn u j + _ = _
  rw [if_neg (by rw [h]; decide)]; rfl
theorem m_cn_t {u : c_St} {j : Nat} (h : m_ct u j = true) : m_cn u (j + 1) = m_cn u j + 1 := by
  show m_cn u j + _ = _
  rw [if_pos h]
theorem m_con_n {u : c_St} {q k : Nat} (h : m_con u q k = -1) (h2 : ¬ (m_ct u k = true ∧ m_cn u k = q)) : m_con u q (k + 1) = -1 := by
  unfold m_con
  rw [if_pos h, if_neg h2]
theorem m_con_y {u : c_St} {q k : Nat} (hf : 0 ≤ m_first u (cu_F u 5 k)) (h : m_con u q k = -1) (h2 : m_ct u k = true ∧ m_cn u k = q) : ∀ d, m_con u q (k + 1 + d) = 100 * m_first u (cu_F u 5 k) + (k : Int)
  | 0 => by
    show m_con u q (k + 1) = _
    unfold m_con
    rw [if_pos h, if_pos h2]
  | d + 1 => by
    have h3 := m_con_y hf h h2 d
    show (if m_con u q (k + 1 + d) = -1 then _ else m_con u q (k + 1 + d)) = _
    rw [h3, if_neg (by omega)]
/-- a mark's source has a first mark -/
theorem m_first_0 {u : c_St} {j : Nat} (hj : j < cu_N u 1) : 0 ≤ m_first u (cu_F u 5 j) := by
  have key : ∀ k, j < k → m_scan u (cu_F u 5 j) k ≠ -1 := by
    intro k
    induction k with
    | zero => intro h; omega
    | succ k ih =>
      intro h q
      unfold m_scan at q
      by_cases hk : j = k
      · subst hk
        split at q
        · rw [if_pos rfl] at q; omega
        · contradiction
      · have := ih (by omega)
        rw [if_neg this] at q
        exact this q
  have h1 := key _ hj
  have h2 := m_first_b u (cu_F u 5 j)
  unfold m_first at *
  omega
set_option maxHeartbeats 4000000 in
set_option maxRecDepth 100000 in
theorem c_X6_contradiction (l : Launch) (dC : Nat → ClassId) (dI : Nat → Nat → Nat) (a : Nat → Nat) (k : c_K) (u : c_St) (sz : Nat) (h : m_ok u) (p0 : Int32) : Met l yX6_contradiction wsX6_contradiction ({ frames := 1, cells := 0, slots := 0, locals := 23 }) (va_Pc [.ref (a 0), .int p0] (w_mu (dC, dI) vwCl (wR a k u) (tC k) sz)) (va_Qi (fun (r : Int32) (u1 : c_St) => u1 = cs_N u 4 (m_code (decide (p0 < 0)) false false) ∧ (m_code (decide (p0 < 0)) false false = 0 → ∃ q : Nat, q < 2147483648 ∧ p0 = nI q ∧ r = iI (m_con u1 q (cu_N u1 1)))) (w_at (dC, dI) vwCl (wR a k) (tC k) (va_A (wR a k u) sz)) (va_A (wR a k u) sz)) 0 0 (va_A (wR a k u) sz) := by
  refine Met.ofW (cc := cX6_contradiction) (maxL := 5) (ret := (some .int)) (by decide) rfl ?_
  intro p e s m args below meth c s₁ B hml hv
  obtain ⟨rfl, hsz, hP, hK, hD0⟩ := hv
  have hx := B.exec
  have hb := B.bytes
  have hr := B.returns
  have hts := atoms_spec (ws := wsX6_contradiction) B.pre
  have htg : ∀ w ∈ wG, w.before _ s = true := fun w h => hts w (List.mem_cons_of_mem _ h)
  have hown : s.vm.findClass RX6 = some m.cls := findClass_of_methodNamed B.named
  have hlocks := B.notSynchronized
  subst hsz
  have hD := hD0.self (sz := s.heap.size)
  generalize hAe : va_A (wR a k u) s.heap.size = A at hD ⊢
  have hA : ∀ q : Nat, s.heap.size ≤ q → A q := fun q h => by rw [← hAe]; exact Or.inr h
  have hS : va_S A s.heap s.heap [] := va_S.rf
  have hl := lv_entry ([.ref (a 0), .int p0]) (n := 5) (Nat.le_of_ble_eq_true rfl)
  rw [lg_entry_eq]
  generalize (lg_sl ([.ref (a 0), .int p0]) ++ List.replicate (5 - (lg_sl ([.ref (a 0), .int p0])).length) Slot.unset).toArray = ls at hl ⊢
  have hl : lv_has ls 5 [(0, .ref (a 0)), (1, .int p0)] := hl
  refine lv_aload_n hx hb dX6_contradiction_0 rfl (lv_at hl 0 rfl) ?_
  refine lv_iload_n hx hb dX6_contradiction_1 rfl (lv_at hl 1 rfl) ?_
  refine lv_if_ge (tgt := 9) hx hb dX6_contradiction_2 (by decide) (fun c_2 => ?_) (fun c_2 => ?_)
  · have c_2 : ¬ p0 < 0 := by
      rw [Int32.lt_iff_toInt_lt]
      rw [Int32.le_iff_toInt_le] at c_2
      omega
    refine lv_iconst (v := 0) hx hb dX6_contradiction_9 (by decide) ?_
    refine lv_iconst (v := 0) hx hb dX6_contradiction_10 (by decide) ?_
    refine lv_iconst (v := 0) hx hb dX6_contradiction_11 (by decide) ?_
    refine w_cali (w := wR a k) (va_runV (As := [.int 0, .int 0, .int 0]) (rest := []) ⟨hx, hb, hml, hown, hts⟩ (c_X6_throwing l dC dI a k u _ false false false) (cwV 3 hts (wG_V wG_c q_654 q_656 p_7 q_7 q_657) rfl rfl rfl (by decide +kernel) ⟨Nat.le_of_ble_eq_true rfl, Nat.le_of_ble_eq_true rfl⟩) (w_muV hK hP hD (ci := 6) (q0 := 0) rfl (wR_g0 a k _) rfl) rfl rfl hl.1 rfl (lv_room (Nat.le_of_ble_eq_true rfl)) dX6_contradiction_12 ⟨Nat.le_of_ble_eq_true rfl, Nat.le_of_ble_eq_true rfl⟩) hD hS hA (fun r_1 u_1 H locs hq_1 hP hD hS => ?_)
    obtain ⟨er9, eu9⟩ := hq_1
    subst er9 eu9
    refine wtopi (0) rfl ?_
    refine lv_if_eq (tgt := 20) hx hb dX6_contradiction_15 (by decide) (fun _ => ?_) (fun h9 => absurd h9 (by decide))
    obtain ⟨q, hq, eq9⟩ := nI_of (x := p0) c_2
    subst eq9
    obtain ⟨v, ev⟩ : ∃ v, v = cs_N u 4 (m_code false false false) := ⟨_, rfl⟩
    rw [← ev] at hP hD
    have hv : m_ok v := by rw [ev]; exact h
    have evN : ∀ k, k ≠ 4 → cu_N v k = cu_N u k := fun k hk => by rw [ev, cx_NN, if_neg hk]
    have evF : cu_F v = cu_F u := by rw [ev]; rfl
    have evB : cu_B v = cu_B u := by rw [ev]; rfl
    have evG : cu_G v = cu_G u := by rw [ev]; rfl
    have evD : cu_D v = cu_D u := by rw [ev]; rfl
    have v0 := evN 0 (by decide)
    have v1 := evN 1 (by decide)
    have v2 := evN 2 (by decide)
    have v3 := evN 3 (by decide)
    have h60 := hv.2.1
    refine lv_iload_n hx hb dX6_contradiction_20 rfl (lv_at hl 1 rfl) ?_
    refine lv_istore_n (lv' := [(2, .int (nI q)), (0, .ref (a 0)), (1, .int (nI q))]) hx hb dX6_contradiction_21 rfl hl (by decide) rfl (fun ls hl => ?_)
    refine lv_iconst (v := 0) hx hb dX6_contradiction_22 (by decide) ?_
    refine lv_istore_n (lv' := [(3, .int 0), (2, .int (nI q)), (0, .ref (a 0)), (1, .int (nI q))]) hx hb dX6_contradiction_23 rfl hl (by decide) rfl (fun ls hl => ?_)
    refine w_loop (fun j : Nat => cu_N v 1 - j) (fun j ls => (j ≤ cu_N v 1 ∧ m_con v q j = -1 ∧ m_cn v j ≤ q) ∧ lv_has ls 5 [(0, .ref (a 0)), (2, .int (nI (q - m_cn v j))), (3, .int (nI j))]) ?_ 0 ls ⟨⟨Nat.zero_le _, rfl, Nat.zero_le _⟩, lv_sub hl [2, 1, 0] rfl⟩
    clear hl
    intro j ls hI ih
    obtain ⟨hI, hl⟩ := hI
    refine lv_iload_n hx hb dX6_contradiction_24 rfl (lv_at hl 2 rfl) ?_
    refine lv_aload_n hx hb dX6_contradiction_25 rfl (lv_at hl 0 rfl) ?_
    refine va_get (D := (dC, dI)) (ci := 6) (v := .int (nI (cu_N v 1))) (C := RX6) (T := TX6) (N := 20) hx hb htg inX6 hown hK hP 0 (wR_g0 a k _) rfl 10 (by decide) (htg _ q_591) (fun _ h9 => h9) rfl dX6_contradiction_26 ?_
    refine nb_ge (a := j) (b := (cu_N v 1)) (tgt := 81) hx hb (by omega) (by omega) rfl rfl dX6_contradiction_29 (by decide) (fun c_29 => ?_) (fun c_29 => ?_)
    · refine lv_iconst (v := (-1)) hx hb dX6_contradiction_81 (by decide) ?_
      exact W.iret (v := (-1)) hx hb hr (fun t9 ht9 hW9 => ⟨⟨_, v, rfl, ⟨by rw [ev]; exact congrArg (cs_N u 4) (by simp [c_2]), fun h9 => ⟨q, hq, rfl, by rw [show cu_N v 1 = j by omega, hI.2.1]; rfl⟩⟩, by rw [ht9]; exact hP, va_K.moved hW9.alike hK, hD⟩, hS.F ht9⟩) hS.2.2 dX6_contradiction_82
    · have hfb := m_first_b v (cu_F v 5 j)
      have hf0 := m_first_0 (u := v) (j := j) (by omega)
      have hvj := hv.2.2.2 j (by omega)
      have hvf := hv.2.2.2 (m_first v (cu_F v 5 j)).toNat (by omega)
      refine lv_aload_n hx hb dX6_contradiction_32 rfl (lv_at hl 0 rfl) ?_
      refine lv_aload_n hx hb dX6_contradiction_33 rfl (lv_at hl 0 rfl) ?_
      refine va_get (D := (dC, dI)) (ci := 6) (v := .ref (a 6)) (C := RX6) (T := TX6) (N := 20) hx hb htg inX6 hown hK hP 0 (wR_g0 a k _) rfl 11 (by decide) (htg _ q_592) (fun _ h9 => h9) rfl dX6_contradiction_34 ?_
      refine lv_iload_n hx hb dX6_contradiction_37 rfl (lv_at hl 2 rfl) ?_
      refine va_iald hx hb hK hP 6 0 (wR_g6 a k _) rfl (vp_in_nI (n := j) (N := 60) (show j < 60 by omega) (by decide)) dX6_contradiction_38 ?_
      refine wtopi (nI (cu_F v 5 j)) (congrArg (fun j9 => nI (cu_F v 5 j9)) (nI_clamp (n := j) (Nat.lt_trans (m := 60) (show j < 60 by omega) (by decide)))) ?_
      refine vp_callSi (W.runV (As := [.int (nI (cu_F v 5 j))]) (rest := []) ⟨hx, hb, hml, hown, hts⟩ (c_X6_firstMark l dC dI a k v hv.2.1 (cu_F v 5 j) (hv.2.2.2 j (by omega)).1 (fun j hj => (hv.2.2.2 j hj).1)) (cwV 1 hts (wG_V wG_c q_678 q_680 p_10 q_7 q_681) rfl rfl rfl (by decide +kernel) ⟨Nat.le_of_ble_eq_true rfl, Nat.le_of_ble_eq_true rfl⟩) (w_roV hK hP (ci := 6) (q0 := 0) rfl (wR_g0 a k _) rfl) rfl rfl hl.1 rfl (lv_room (Nat.le_of_ble_eq_true rfl)) dX6_contradiction_39 ⟨Nat.le_of_ble_eq_true rfl, Nat.le_of_ble_eq_true rfl⟩) (fun r_2 hr_2 => ?_)
      subst hr_2
      refine lv_istore (lv' := [(4, .int (iI (m_first v (cu_F v 5 j)))), (0, .ref (a 0)), (2, .int (nI (q - m_cn v j))), (3, .int (nI j))]) hx hb dX6_contradiction_42 hl (by decide) rfl (fun ls hl => ?_)
      refine lv_aload_n hx hb dX6_contradiction_44 rfl (lv_at hl 1 rfl) ?_
      refine va_get (D := (dC, dI)) (ci := 6) (v := .ref (a 15)) (C := RX6) (T := TX6) (N := 20) hx hb htg inX6 hown hK hP 0 (wR_g0 a k _) rfl 12 (by decide) (htg _ q_593) (fun _ h9 => h9) rfl dX6_contradiction_45 ?_
      refine lv_iload_n hx hb dX6_contradiction_48 rfl (lv_at hl 3 rfl) ?_
      refine va_iald hx hb hK hP 15 0 (wR_g15 a k _) rfl (vp_in_nI (n := j) (N := 60) (show j < 60 by omega) (by decide)) dX6_contradiction_49 ?_
      refine wtopi (iI (cu_D v 0 j)) (congrArg (fun j9 => iI (cu_D v 0 j9)) (nI_clamp (n := j) (Nat.lt_trans (m := 60) (show j < 60 by omega) (by decide)))) ?_
      refine lv_aload_n hx hb dX6_contradiction_50 rfl (lv_at hl 1 rfl) ?_
      refine va_get (D := (dC, dI)) (ci := 6) (v := .ref (a 15)) (C := RX6) (T := TX6) (N := 20) hx hb htg inX6 hown hK hP 0 (wR_g0 a k _) rfl 12 (by decide) (htg _ q_593) (fun _ h9 => h9) rfl dX6_contradiction_51 ?_
      refine lv_iload hx hb dX6_contradiction_54 (lv_at hl 0 rfl) ?_
      refine wtopi (y := nI ((m_first v (cu_F v 5 j)).toNat)) (show iI _ = nI _ from by rw [nI_iI, Int.toNat_of_nonneg hf0]) ?_
      refine va_iald hx hb hK hP 15 0 (wR_g15 a k _) rfl (vp_in_nI (n := ((m_first v (cu_F v 5 j)).toNat)) (N := 60) (show (m_first v (cu_F v 5 j)).toNat < 60 by omega) (by decide)) dX6_contradiction_56 ?_
      refine wtopi (iI (cu_D v 0 ((m_first v (cu_F v 5 j)).toNat))) (congrArg (fun j9 => iI (cu_D v 0 j9)) (nI_clamp (n := ((m_first v (cu_F v 5 j)).toNat)) (Nat.lt_trans (m := 60) (show (m_first v (cu_F v 5 j)).toNat < 60 by omega) (by decide)))) ?_
      refine ib_eq (a := (cu_D v 0 j)) (b := (cu_D v 0 ((m_first v (cu_F v 5 j)).toNat))) (tgt := 75) hx hb (by omega) (by omega) (by omega) (by omega) rfl rfl dX6_contradiction_57 (by decide) (fun c_57 => ?_) (fun c_57 => ?_)
      · have hct := m_ct_f c_57
        refine lv_iinc (v := nI (j + 1)) (lv' := [(3, .int (nI (j + 1))), (4, .int (iI (m_first v (cu_F v 5 j)))), (0, .ref (a 0)), (2, .int (nI (q - m_cn v j)))]) hx hb dX6_contradiction_75 hl (k := 3) rfl (nI_1 j) (by decide) rfl (fun ls hl => ?_)
        refine lv_goto (tgt := 24) hx hb dX6_contradiction_78 (by decide) ?_
        exact ih (j + 1) ls (by omega) ⟨⟨by omega, m_con_n hI.2.1 (fun z => by rw [hct] at z; cases z.1), by rw [m_cn_f hct]; exact hI.2.2⟩, lv_sub hl [2, 3, 0] (by rw [m_cn_f hct]; rfl)⟩
      · have hct := m_ct_t c_57
        refine lv_iload_n hx hb dX6_contradiction_60 rfl (lv_at hl 2 rfl) ?_
        refine iz_ne (a := (((q - m_cn v j) : Nat) : Int)) (tgt := 72) hx hb (by omega) (by omega) (nI_iI _) dX6_contradiction_61 (by decide) (fun c_61 => ?_) (fun c_61 => ?_)
        · have c_61 : q - m_cn v j ≠ 0 := by omega
          refine lv_iinc (v := nI (q - m_cn v j - 1)) (lv' := [(2, .int (nI (q - m_cn v j - 1))), (4, .int (iI (m_first v (cu_F v 5 j)))), (0, .ref (a 0)), (3, .int (nI j))]) hx hb dX6_contradiction_72 hl (k := 2) rfl (show nI (q - m_cn v j) + (-1) = nI (q - m_cn v j - 1) from by rw [show q - m_cn v j = q - m_cn v j - 1 + 1 by omega]; exact pk_m1 _) (by decide) rfl (fun ls hl => ?_)
          refine lv_iinc (v := nI (j + 1)) (lv' := [(3, .int (nI (j + 1))), (2, .int (nI (q - m_cn v j - 1))), (4, .int (iI (m_first v (cu_F v 5 j)))), (0, .ref (a 0))]) hx hb dX6_contradiction_75 hl (k := 3) rfl (nI_1 j) (by decide) rfl (fun ls hl => ?_)
          refine lv_goto (tgt := 24) hx hb dX6_contradiction_78 (by decide) ?_
          exact ih (j + 1) ls (by omega) ⟨⟨by omega, m_con_n hI.2.1 (fun z => by omega), by rw [m_cn_t hct]; omega⟩, lv_sub hl [3, 1, 0] (by rw [m_cn_t hct, show q - (m_cn v j + 1) = q - m_cn v j - 1 by omega]; rfl)⟩
        · have c_61 : q - m_cn v j = 0 := by omega
          refine lv_bipush (v := 100) hx hb dX6_contradiction_64 (by decide) ?_
          refine lv_iload hx hb dX6_contradiction_66 (lv_at hl 0 rfl) ?_
          refine lv_imul hx hb dX6_contradiction_68 ?_
          refine wtopi (y := iI (100 * m_first v (cu_F v 5 j))) (iI_mul 100 _) ?_
          refine lv_iload_n hx hb dX6_contradiction_69 rfl (lv_at hl 3 rfl) ?_
          refine lv_iadd hx hb dX6_contradiction_70 ?_
          refine wtopi (y := iI (100 * m_first v (cu_F v 5 j) + (j : Int))) (by rw [nI_iI, iI_add]) ?_
          exact W.iret (v := iI (100 * m_first v (cu_F v 5 j) + (j : Int))) hx hb hr (fun t9 ht9 hW9 => ⟨⟨_, v, rfl, ⟨by rw [ev]; exact congrArg (cs_N u 4) (by simp [c_2]), fun h9 => ⟨q, hq, rfl, by rw [← m_con_y hf0 hI.2.1 ⟨hct, by omega⟩ (cu_N v 1 - j - 1), show j + 1 + (cu_N v 1 - j - 1) = cu_N v 1 by omega]⟩⟩, by rw [ht9]; exact hP, va_K.moved hW9.alike hK, hD⟩, hS.F ht9⟩) hS.2.2 dX6_contradiction_71
  · have c_2 : p0 < 0 := by
      rw [Int32.lt_iff_toInt_lt]
      rw [Int32.le_iff_toInt_le] at c_2
      omega
    refine lv_iconst (v := 1) hx hb dX6_contradiction_5 (by decide) ?_
    refine lv_goto (tgt := 10) hx hb dX6_contradiction_6 (by decide) ?_
    refine lv_iconst (v := 0) hx hb dX6_contradiction_10 (by decide) ?_
    refine lv_iconst (v := 0) hx hb dX6_contradiction_11 (by decide) ?_
    refine w_cali (w := wR a k) (va_runV (As := [.int 1, .int 0, .int 0]) (rest := []) ⟨hx, hb, hml, hown, hts⟩ (c_X6_throwing l dC dI a k u _ true false false) (cwV 3 hts (wG_V wG_c q_654 q_656 p_7 q_7 q_657) rfl rfl rfl (by decide +kernel) ⟨Nat.le_of_ble_eq_true rfl, Nat.le_of_ble_eq_true rfl⟩) (w_muV hK hP hD (ci := 6) (q0 := 0) rfl (wR_g0 a k _) rfl) rfl rfl hl.1 rfl (lv_room (Nat.le_of_ble_eq_true rfl)) dX6_contradiction_12 ⟨Nat.le_of_ble_eq_true rfl, Nat.le_of_ble_eq_true rfl⟩) hD hS hA (fun r_3 u_3 H locs hq_3 hP hD hS => ?_)
    obtain ⟨er9, eu9⟩ := hq_3
    subst er9 eu9
    refine wtopi (1) rfl ?_
    refine lv_if_eq (tgt := 20) hx hb dX6_contradiction_15 (by decide) (fun h9 => absurd h9 (by decide)) (fun _ => ?_)
    refine lv_iconst (v := 0) hx hb dX6_contradiction_18 (by decide) ?_
    exact W.iret (v := 0) hx hb hr (fun t9 ht9 hW9 => ⟨⟨_, cs_N u 4 (m_code true false false), rfl, ⟨congrArg (cs_N u 4) (by simp [c_2]), fun h9 => absurd h9 (by simp [m_code, c_2])⟩, by rw [ht9]; exact hP, va_K.moved hW9.alike hK, hD⟩, hS.F ht9⟩) hS.2.2 dX6_contradiction_19
set_option maxHeartbeats 4000000 in
set_option maxRecDepth 100000 in
theorem c_X6_find (l : Launch) (dC : Nat → ClassId) (dI : Nat → Nat → Nat) (a : Nat → Nat) (k : c_K) (u : c_St) (sz : Nat) (h : m_ok u) (p0 p1 p2 p3 p4 : Int32) : Met l yX6_find wsX6_find ({ frames := 6, cells := 0, slots := 0, locals := 143 }) (va_Pc [.ref (a 0), .int p0, .int p1, .int p2, .int p3, .int p4] (w_mu (dC, dI) vwCl (wR a k u) (tC k) sz)) (va_Qi (fun (r : Int32) (u1 : c_St) => u1 = cs_N u 4 (m_code (!inR p2 (-1) 99 || !inR p3 (-1) 49) (decide (p4 < 0)) false) ∧ (m_code (!inR p2 (-1) 99 || !inR p3 (-1) 49) (decide (p4 < 0)) false = 0 → ∃ q : Nat, q < 2147483648 ∧ p4 = nI q ∧ r = iI (m_fnd u1 p0 p1 p2 p3 q (cu_N u1 0)))) (w_at (dC, dI) vwCl (wR a k) (tC k) (va_A (wR a k u) sz)) (va_A (wR a k u) sz)) 0 0 (va_A (wR a k u) sz) := by
  refine Met.ofW (cc := cX6_find) (maxL := 6) (ret := (some .int)) (by decide) rfl ?_
  intro p e s m args below meth c s₁ B hml hv
  obtain ⟨rfl, hsz, hP, hK, hD0⟩ := hv
  have hx := B.exec
  have hb := B.bytes
  have hr := B.returns
  have hts := atoms_spec (ws := wsX6_find) B.pre
  have htg : ∀ w ∈ wG, w.before _ s = true := fun w h => hts w (List.mem_cons_of_mem _ h)
  have hown : s.vm.findClass RX6 = some m.cls := findClass_of_methodNamed B.named
  have hlocks := B.notSynchronized
  subst hsz
  have hD := hD0.self (sz := s.heap.size)
  generalize hAe : va_A (wR a k u) s.heap.size = A at hD ⊢
  have hA : ∀ q : Nat, s.heap.size ≤ q → A q := fun q h => by rw [← hAe]; exact Or.inr h
  have hS : va_S A s.heap s.heap [] := va_S.rf
  have hl := lv_entry ([.ref (a 0), .int p0, .int p1, .int p2, .int p3, .int p4]) (n := 6) (Nat.le_of_ble_eq_true rfl)
  rw [lg_entry_eq]
  generalize (lg_sl ([.ref (a 0), .int p0, .int p1, .int p2, .int p3, .int p4]) ++ List.replicate (6 - (lg_sl ([.ref (a 0), .int p0, .int p1, .int p2, .int p3, .int p4])).length) Slot.unset).toArray = ls at hl ⊢
  have hl : lv_has ls 6 [(0, .ref (a 0)), (1, .int p0), (2, .int p1), (3, .int p2), (4, .int p3), (5, .int p4)] := hl
  refine lv_aload_n hx hb dX6_find_0 rfl (lv_at hl 0 rfl) ?_
  refine lv_iload_n hx hb dX6_find_1 rfl (lv_at hl 3 rfl) ?_
  refine lv_iconst (v := (-1)) hx hb dX6_find_2 (by decide) ?_
  refine lv_bipush (v := 99) hx hb dX6_find_3 (by decide) ?_
  refine vp_callSi (W.runS (As := [.int p2, .int (-1), .int 99]) (rest := [.ref (a 0)]) ⟨hx, hb, hml, hown, hts⟩ (c_X6_in l dC dI a k u p2 (-1) 99) (cwS 3 hts (wG_S wG_c q_650 q_651 q_7 q_652) rfl rfl rfl (by decide +kernel) ⟨Nat.le_of_ble_eq_true rfl, Nat.le_of_ble_eq_true rfl⟩) (w_roS hK hP) rfl rfl hl.1 rfl (lv_room (Nat.le_of_ble_eq_true rfl)) dX6_find_5 ⟨Nat.le_of_ble_eq_true rfl, Nat.le_of_ble_eq_true rfl⟩) (fun r_1 hr_1 => ?_)
  subst hr_1
  refine bz_eq (a := (inR p2 (-1) 99)) (tgt := 22) hx hb dX6_find_8 (by decide) (fun c_8 => ?_) (fun c_8 => ?_)
  · refine lv_iconst (v := 1) hx hb dX6_find_22 (by decide) ?_
    refine lv_goto (tgt := 27) hx hb dX6_find_23 (by decide) ?_
    refine lv_iload hx hb dX6_find_27 (lv_at hl 5 rfl) ?_
    refine lv_if_ge (tgt := 36) hx hb dX6_find_29 (by decide) (fun c_29 => ?_) (fun c_29 => ?_)
    · have c_29 : ¬ p4 < 0 := by
        rw [Int32.lt_iff_toInt_lt]
        rw [Int32.le_iff_toInt_le] at c_29
        omega
      refine lv_iconst (v := 0) hx hb dX6_find_36 (by decide) ?_
      refine lv_iconst (v := 0) hx hb dX6_find_37 (by decide) ?_
      refine w_cali (w := wR a k) (va_runV (As := [.int 1, .int 0, .int 0]) (rest := []) ⟨hx, hb, hml, hown, hts⟩ (c_X6_throwing l dC dI a k u _ true false false) (cwV 3 hts (wG_V wG_c q_654 q_656 p_7 q_7 q_657) rfl rfl rfl (by decide +kernel) ⟨Nat.le_of_ble_eq_true rfl, Nat.le_of_ble_eq_true rfl⟩) (w_muV hK hP hD (ci := 6) (q0 := 0) rfl (wR_g0 a k _) rfl) rfl rfl hl.1 rfl (lv_room (Nat.le_of_ble_eq_true rfl)) dX6_find_38 ⟨Nat.le_of_ble_eq_true rfl, Nat.le_of_ble_eq_true rfl⟩) hD hS hA (fun r_2 u_2 H locs hq_2 hP hD hS => ?_)
      obtain ⟨er9, eu9⟩ := hq_2
      subst er9 eu9
      refine wtopi (1) rfl ?_
      refine lv_if_eq (tgt := 46) hx hb dX6_find_41 (by decide) (fun h9 => absurd h9 (by decide)) (fun _ => ?_)
      refine lv_iconst (v := 0) hx hb dX6_find_44 (by decide) ?_
      exact W.iret (v := 0) hx hb hr (fun t9 ht9 hW9 => ⟨⟨_, cs_N u 4 (m_code true false false), rfl, ⟨congrArg (cs_N u 4) (by simp [c_8, c_29]), fun h9 => absurd h9 (by simp [m_code, c_8, c_29])⟩, by rw [ht9]; exact hP, va_K.moved hW9.alike hK, hD⟩, hS.F ht9⟩) hS.2.2 dX6_find_45
    · have c_29 : p4 < 0 := by
        rw [Int32.lt_iff_toInt_lt]
        rw [Int32.le_iff_toInt_le] at c_29
        omega
      refine lv_iconst (v := 1) hx hb dX6_find_32 (by decide) ?_
      refine lv_goto (tgt := 37) hx hb dX6_find_33 (by decide) ?_
      refine lv_iconst (v := 0) hx hb dX6_find_37 (by decide) ?_
      refine w_cali (w := wR a k) (va_runV (As := [.int 1, .int 1, .int 0]) (rest := []) ⟨hx, hb, hml, hown, hts⟩ (c_X6_throwing l dC dI a k u _ true true false) (cwV 3 hts (wG_V wG_c q_654 q_656 p_7 q_7 q_657) rfl rfl rfl (by decide +kernel) ⟨Nat.le_of_ble_eq_true rfl, Nat.le_of_ble_eq_true rfl⟩) (w_muV hK hP hD (ci := 6) (q0 := 0) rfl (wR_g0 a k _) rfl) rfl rfl hl.1 rfl (lv_room (Nat.le_of_ble_eq_true rfl)) dX6_find_38 ⟨Nat.le_of_ble_eq_true rfl, Nat.le_of_ble_eq_true rfl⟩) hD hS hA (fun r_3 u_3 H locs hq_3 hP hD hS => ?_)
      obtain ⟨er9, eu9⟩ := hq_3
      subst er9 eu9
      refine wtopi (1) rfl ?_
      refine lv_if_eq (tgt := 46) hx hb dX6_find_41 (by decide) (fun h9 => absurd h9 (by decide)) (fun _ => ?_)
      refine lv_iconst (v := 0) hx hb dX6_find_44 (by decide) ?_
      exact W.iret (v := 0) hx hb hr (fun t9 ht9 hW9 => ⟨⟨_, cs_N u 4 (m_code true true false), rfl, ⟨congrArg (cs_N u 4) (by simp [c_8, c_29]), fun h9 => absurd h9 (by simp [m_code, c_8, c_29])⟩, by rw [ht9]; exact hP, va_K.moved hW9.alike hK, hD⟩, hS.F ht9⟩) hS.2.2 dX6_find_45
  · refine lv_iload hx hb dX6_find_11 (lv_at hl 4 rfl) ?_
    refine lv_iconst (v := (-1)) hx hb dX6_find_13 (by decide) ?_
    refine lv_bipush (v := 49) hx hb dX6_find_14 (by decide) ?_
    refine vp_callSi (W.runS (As := [.int p3, .int (-1), .int 49]) (rest := [.ref (a 0)]) ⟨hx, hb, hml, hown, hts⟩ (c_X6_in l dC dI a k u p3 (-1) 49) (cwS 3 hts (wG_S wG_c q_650 q_651 q_7 q_652) rfl rfl rfl (by decide +kernel) ⟨Nat.le_of_ble_eq_true rfl, Nat.le_of_ble_eq_true rfl⟩) (w_roS hK hP) rfl rfl hl.1 rfl (lv_room (Nat.le_of_ble_eq_true rfl)) dX6_find_16 ⟨Nat.le_of_ble_eq_true rfl, Nat.le_of_ble_eq_true rfl⟩) (fun r_4 hr_4 => ?_)
    subst hr_4
    refine bz_ne (a := (inR p3 (-1) 49)) (tgt := 26) hx hb dX6_find_19 (by decide) (fun c_19 => ?_) (fun c_19 => ?_)
    · refine lv_iconst (v := 0) hx hb dX6_find_26 (by decide) ?_
      refine lv_iload hx hb dX6_find_27 (lv_at hl 5 rfl) ?_
      refine lv_if_ge (tgt := 36) hx hb dX6_find_29 (by decide) (fun c_29 => ?_) (fun c_29 => ?_)
      · have c_29 : ¬ p4 < 0 := by
          rw [Int32.lt_iff_toInt_lt]
          rw [Int32.le_iff_toInt_le] at c_29
          omega
        refine lv_iconst (v := 0) hx hb dX6_find_36 (by decide) ?_
        refine lv_iconst (v := 0) hx hb dX6_find_37 (by decide) ?_
        refine w_cali (w := wR a k) (va_runV (As := [.int 0, .int 0, .int 0]) (rest := []) ⟨hx, hb, hml, hown, hts⟩ (c_X6_throwing l dC dI a k u _ false false false) (cwV 3 hts (wG_V wG_c q_654 q_656 p_7 q_7 q_657) rfl rfl rfl (by decide +kernel) ⟨Nat.le_of_ble_eq_true rfl, Nat.le_of_ble_eq_true rfl⟩) (w_muV hK hP hD (ci := 6) (q0 := 0) rfl (wR_g0 a k _) rfl) rfl rfl hl.1 rfl (lv_room (Nat.le_of_ble_eq_true rfl)) dX6_find_38 ⟨Nat.le_of_ble_eq_true rfl, Nat.le_of_ble_eq_true rfl⟩) hD hS hA (fun r_5 u_5 H locs hq_5 hP hD hS => ?_)
        obtain ⟨er9, eu9⟩ := hq_5
        subst er9 eu9
        refine wtopi (0) rfl ?_
        refine lv_if_eq (tgt := 46) hx hb dX6_find_41 (by decide) (fun _ => ?_) (fun h9 => absurd h9 (by decide))
        obtain ⟨q, hq, eq9⟩ := nI_of (x := p4) c_29
        subst eq9
        obtain ⟨v, ev⟩ : ∃ v, v = cs_N u 4 (m_code false false false) := ⟨_, rfl⟩
        rw [← ev] at hP hD
        have hv : m_ok v := by rw [ev]; exact h
        have evN : ∀ k, k ≠ 4 → cu_N v k = cu_N u k := fun k hk => by rw [ev, cx_NN, if_neg hk]
        have evF : cu_F v = cu_F u := by rw [ev]; rfl
        have evB : cu_B v = cu_B u := by rw [ev]; rfl
        have evG : cu_G v = cu_G u := by rw [ev]; rfl
        have evD : cu_D v = cu_D u := by rw [ev]; rfl
        have v0 := evN 0 (by decide)
        have v1 := evN 1 (by decide)
        have v2 := evN 2 (by decide)
        have v3 := evN 3 (by decide)
        refine lv_aload_n hx hb dX6_find_46 rfl (lv_at hl 0 rfl) ?_
        refine lv_iload_n hx hb dX6_find_47 rfl (lv_at hl 1 rfl) ?_
        refine lv_iload_n hx hb dX6_find_48 rfl (lv_at hl 2 rfl) ?_
        refine lv_iload_n hx hb dX6_find_49 rfl (lv_at hl 3 rfl) ?_
        refine lv_iload hx hb dX6_find_50 (lv_at hl 4 rfl) ?_
        refine lv_iload hx hb dX6_find_52 (lv_at hl 5 rfl) ?_
        refine vp_callSi (W.runV (As := [.int p0, .int p1, .int p2, .int p3, .int (nI q)]) (rest := []) ⟨hx, hb, hml, hown, hts⟩ (c_X6_found l dC dI a k v hv p0 p1 p2 p3 q hq) (cwV 5 hts (wG_V wG_c q_690 q_692 p_11 q_7 q_693) rfl rfl rfl (by decide +kernel) ⟨Nat.le_of_ble_eq_true rfl, Nat.le_of_ble_eq_true rfl⟩) (w_roV hK hP (ci := 6) (q0 := 0) rfl (wR_g0 a k _) rfl) rfl rfl hl.1 rfl (lv_room (Nat.le_of_ble_eq_true rfl)) dX6_find_54 ⟨Nat.le_of_ble_eq_true rfl, Nat.le_of_ble_eq_true rfl⟩) (fun r_6 hr_6 => ?_)
        subst hr_6
        exact W.iret (v := iI (m_fnd v p0 p1 p2 p3 q (cu_N v 0))) hx hb hr (fun t9 ht9 hW9 => ⟨⟨_, v, rfl, ⟨by rw [ev]; exact congrArg (cs_N u 4) (by simp [c_8, c_19, c_29]), fun h9 => ⟨q, hq, rfl, rfl⟩⟩, by rw [ht9]; exact hP, va_K.moved hW9.alike hK, hD⟩, hS.F ht9⟩) hS.2.2 dX6_find_57
      · have c_29 : p4 < 0 := by
          rw [Int32.lt_iff_toInt_lt]
          rw [Int32.le_iff_toInt_le] at c_29
          omega
        refine lv_iconst (v := 1) hx hb dX6_find_32 (by decide) ?_
        refine lv_goto (tgt := 37) hx hb dX6_find_33 (by decide) ?_
        refine lv_iconst (v := 0) hx hb dX6_find_37 (by decide) ?_
        refine w_cali (w := wR a k) (va_runV (As := [.int 0, .int 1, .int 0]) (rest := []) ⟨hx, hb, hml, hown, hts⟩ (c_X6_throwing l dC dI a k u _ false true false) (cwV 3 hts (wG_V wG_c q_654 q_656 p_7 q_7 q_657) rfl rfl rfl (by decide +kernel) ⟨Nat.le_of_ble_eq_true rfl, Nat.le_of_ble_eq_true rfl⟩) (w_muV hK hP hD (ci := 6) (q0 := 0) rfl (wR_g0 a k _) rfl) rfl rfl hl.1 rfl (lv_room (Nat.le_of_ble_eq_true rfl)) dX6_find_38 ⟨Nat.le_of_ble_eq_true rfl, Nat.le_of_ble_eq_true rfl⟩) hD hS hA (fun r_7 u_7 H locs hq_7 hP hD hS => ?_)
        obtain ⟨er9, eu9⟩ := hq_7
        subst er9 eu9
        refine wtopi (1) rfl ?_
        refine lv_if_eq (tgt := 46) hx hb dX6_find_41 (by decide) (fun h9 => absurd h9 (by decide)) (fun _ => ?_)
        refine lv_iconst (v := 0) hx hb dX6_find_44 (by decide) ?_
        exact W.iret (v := 0) hx hb hr (fun t9 ht9 hW9 => ⟨⟨_, cs_N u 4 (m_code false true false), rfl, ⟨congrArg (cs_N u 4) (by simp [c_8, c_19, c_29]), fun h9 => absurd h9 (by simp [m_code, c_8, c_19, c_29])⟩, by rw [ht9]; exact hP, va_K.moved hW9.alike hK, hD⟩, hS.F ht9⟩) hS.2.2 dX6_find_45
    · refine lv_iconst (v := 1) hx hb dX6_find_22 (by decide) ?_
      refine lv_goto (tgt := 27) hx hb dX6_find_23 (by decide) ?_
      refine lv_iload hx hb dX6_find_27 (lv_at hl 5 rfl) ?_
      refine lv_if_ge (tgt := 36) hx hb dX6_find_29 (by decide) (fun c_29 => ?_) (fun c_29 => ?_)
      · have c_29 : ¬ p4 < 0 := by
          rw [Int32.lt_iff_toInt_lt]
          rw [Int32.le_iff_toInt_le] at c_29
          omega
        refine lv_iconst (v := 0) hx hb dX6_find_36 (by decide) ?_
        refine lv_iconst (v := 0) hx hb dX6_find_37 (by decide) ?_
        refine w_cali (w := wR a k) (va_runV (As := [.int 1, .int 0, .int 0]) (rest := []) ⟨hx, hb, hml, hown, hts⟩ (c_X6_throwing l dC dI a k u _ true false false) (cwV 3 hts (wG_V wG_c q_654 q_656 p_7 q_7 q_657) rfl rfl rfl (by decide +kernel) ⟨Nat.le_of_ble_eq_true rfl, Nat.le_of_ble_eq_true rfl⟩) (w_muV hK hP hD (ci := 6) (q0 := 0) rfl (wR_g0 a k _) rfl) rfl rfl hl.1 rfl (lv_room (Nat.le_of_ble_eq_true rfl)) dX6_find_38 ⟨Nat.le_of_ble_eq_true rfl, Nat.le_of_ble_eq_true rfl⟩) hD hS hA (fun r_8 u_8 H locs hq_8 hP hD hS => ?_)
        obtain ⟨er9, eu9⟩ := hq_8
        subst er9 eu9
        refine wtopi (1) rfl ?_
        refine lv_if_eq (tgt := 46) hx hb dX6_find_41 (by decide) (fun h9 => absurd h9 (by decide)) (fun _ => ?_)
        refine lv_iconst (v := 0) hx hb dX6_find_44 (by decide) ?_
        exact W.iret (v := 0) hx hb hr (fun t9 ht9 hW9 => ⟨⟨_, cs_N u 4 (m_code true false false), rfl, ⟨congrArg (cs_N u 4) (by simp [c_8, c_19, c_29]), fun h9 => absurd h9 (by simp [m_code, c_8, c_19, c_29])⟩, by rw [ht9]; exact hP, va_K.moved hW9.alike hK, hD⟩, hS.F ht9⟩) hS.2.2 dX6_find_45
      · have c_29 : p4 < 0 := by
          rw [Int32.lt_iff_toInt_lt]
          rw [Int32.le_iff_toInt_le] at c_29
          omega
        refine lv_iconst (v := 1) hx hb dX6_find_32 (by decide) ?_
        refine lv_goto (tgt := 37) hx hb dX6_find_33 (by decide) ?_
        refine lv_iconst (v := 0) hx hb dX6_find_37 (by decide) ?_
        refine w_cali (w := wR a k) (va_runV (As := [.int 1, .int 1, .int 0]) (rest := []) ⟨hx, hb, hml, hown, hts⟩ (c_X6_throwing l dC dI a k u _ true true false) (cwV 3 hts (wG_V wG_c q_654 q_656 p_7 q_7 q_657) rfl rfl rfl (by decide +kernel) ⟨Nat.le_of_ble_eq_true rfl, Nat.le_of_ble_eq_true rfl⟩) (w_muV hK hP hD (ci := 6) (q0 := 0) rfl (wR_g0 a k _) rfl) rfl rfl hl.1 rfl (lv_room (Nat.le_of_ble_eq_true rfl)) dX6_find_38 ⟨Nat.le_of_ble_eq_true rfl, Nat.le_of_ble_eq_true rfl⟩) hD hS hA (fun r_9 u_9 H locs hq_9 hP hD hS => ?_)
        obtain ⟨er9, eu9⟩ := hq_9
        subst er9 eu9
        refine wtopi (1) rfl ?_
        refine lv_if_eq (tgt := 46) hx hb dX6_find_41 (by decide) (fun h9 => absurd h9 (by decide)) (fun _ => ?_)
        refine lv_iconst (v := 0) hx hb dX6_find_44 (by decide) ?_
        exact W.iret (v := 0) hx hb hr (fun t9 ht9 hW9 => ⟨⟨_, cs_N u 4 (m_code true true false), rfl, ⟨congrArg (cs_N u 4) (by simp [c_8, c_19, c_29]), fun h9 => absurd h9 (by simp [m_code, c_8, c_19, c_29])⟩, by rw [ht9]; exact hP, va_K.moved hW9.alike hK, hD⟩, hS.F ht9⟩) hS.2.2 dX6_find_45
set_option maxHeartbeats 4000000 in
set_option maxRecDepth 100000 in
theorem c_X6_time (l : Launch) (dC : Nat → ClassId) (dI : Nat → Nat → Nat) (a : Nat → Nat) (k : c_K) (u : c_St) (sz : Nat) (h : m_ok u) (p0 : Int32) : Met l yX6_time wsX6_time ({ frames := 3, cells := 0, slots := 0, locals := 65 }) (va_Pc [.ref (a 0), .int p0] (w_mu (dC, dI) vwCl (wR a k u) (tC k) sz)) (va_Qi (fun (r : Int32) (u1 : c_St) => u1 = cs_N u 4 (m_code (!isS (cu_N u 0) p0) (isS (cu_N u 0) p0 && cu_B u 0 p0.toInt.toNat) false) ∧ (m_code (!isS (cu_N u 0) p0) (isS (cu_N u 0) p0 && cu_B u 0 p0.toInt.toNat) false = 0 → ∃ n : Nat, n < cu_N u 0 ∧ p0 = nI n ∧ cu_B u 0 n = false ∧ r = iI (m_beg u1 n))) (w_at (dC, dI) vwCl (wR a k) (tC k) (va_A (wR a k u) sz)) (va_A (wR a k u) sz)) 0 0 (va_A (wR a k u) sz) := by
  refine Met.ofW (cc := cX6_time) (maxL := 2) (ret := (some .int)) (by decide) rfl ?_
  intro p e s m args below meth c s₁ B hml hv
  obtain ⟨rfl, hsz, hP, hK, hD0⟩ := hv
  have hx := B.exec
  have hb := B.bytes
  have hr := B.returns
  have hts := atoms_spec (ws := wsX6_time) B.pre
  have htg : ∀ w ∈ wG, w.before _ s = true := fun w h => hts w (List.mem_cons_of_mem _ h)
  have hown : s.vm.findClass RX6 = some m.cls := findClass_of_methodNamed B.named
  have hlocks := B.notSynchronized
  subst hsz
  have hD := hD0.self (sz := s.heap.size)
  generalize hAe : va_A (wR a k u) s.heap.size = A at hD ⊢
  have hA : ∀ q : Nat, s.heap.size ≤ q → A q := fun q h => by rw [← hAe]; exact Or.inr h
  have hS : va_S A s.heap s.heap [] := va_S.rf
  have hl := lv_entry ([.ref (a 0), .int p0]) (n := 2) (Nat.le_of_ble_eq_true rfl)
  rw [lg_entry_eq]
  generalize (lg_sl ([.ref (a 0), .int p0]) ++ List.replicate (2 - (lg_sl ([.ref (a 0), .int p0])).length) Slot.unset).toArray = ls at hl ⊢
  have hl : lv_has ls 2 [(0, .ref (a 0)), (1, .int p0)] := hl
  have h20 := h.1
  refine lv_aload_n hx hb dX6_time_0 rfl (lv_at hl 0 rfl) ?_
  refine lv_aload_n hx hb dX6_time_1 rfl (lv_at hl 0 rfl) ?_
  refine lv_iload_n hx hb dX6_time_2 rfl (lv_at hl 1 rfl) ?_
  refine vp_callSi (W.runV (As := [.int p0]) (rest := [.ref (a 0)]) ⟨hx, hb, hml, hown, hts⟩ (c_X6_isSlot l dC dI a k u h20 p0) (cwV 1 hts (wG_V wG_c q_714 q_716 p_16 q_7 q_717) rfl rfl rfl (by decide +kernel) ⟨Nat.le_of_ble_eq_true rfl, Nat.le_of_ble_eq_true rfl⟩) (w_roV hK hP (ci := 6) (q0 := 0) rfl (wR_g0 a k _) rfl) rfl rfl hl.1 rfl (lv_room (Nat.le_of_ble_eq_true rfl)) dX6_time_3 ⟨Nat.le_of_ble_eq_true rfl, Nat.le_of_ble_eq_true rfl⟩) (fun r_1 hr_1 => ?_)
  subst hr_1
  refine bz_ne (a := (isS (cu_N u 0) p0)) (tgt := 13) hx hb dX6_time_6 (by decide) (fun c_6 => ?_) (fun c_6 => ?_)
  · refine lv_iconst (v := 0) hx hb dX6_time_13 (by decide) ?_
    refine lv_aload_n hx hb dX6_time_14 rfl (lv_at hl 0 rfl) ?_
    refine lv_iload_n hx hb dX6_time_15 rfl (lv_at hl 1 rfl) ?_
    refine vp_callSi (W.runV (As := [.int p0]) (rest := [.int 0, .ref (a 0)]) ⟨hx, hb, hml, hown, hts⟩ (c_X6_isGone l dC dI a k u h20 p0) (cwV 1 hts (wG_V wG_c q_718 q_720 p_17 q_7 q_721) rfl rfl rfl (by decide +kernel) ⟨Nat.le_of_ble_eq_true rfl, Nat.le_of_ble_eq_true rfl⟩) (w_roV hK hP (ci := 6) (q0 := 0) rfl (wR_g0 a k _) rfl) rfl rfl hl.1 rfl (lv_room (Nat.le_of_ble_eq_true rfl)) dX6_time_16 ⟨Nat.le_of_ble_eq_true rfl, Nat.le_of_ble_eq_true rfl⟩) (fun r_2 hr_2 => ?_)
    subst hr_2
    refine lv_iconst (v := 0) hx hb dX6_time_19 (by decide) ?_
    refine w_cali (w := wR a k) (va_runV (As := [.int 0, .int (bI (isS (cu_N u 0) p0 && cu_B u 0 p0.toInt.toNat)), .int 0]) (rest := []) ⟨hx, hb, hml, hown, hts⟩ (c_X6_throwing l dC dI a k u _ false (isS (cu_N u 0) p0 && cu_B u 0 p0.toInt.toNat) false) (cwV 3 hts (wG_V wG_c q_654 q_656 p_7 q_7 q_657) rfl rfl rfl (by decide +kernel) ⟨Nat.le_of_ble_eq_true rfl, Nat.le_of_ble_eq_true rfl⟩) (w_muV hK hP hD (ci := 6) (q0 := 0) rfl (wR_g0 a k _) rfl) rfl rfl hl.1 rfl (lv_room (Nat.le_of_ble_eq_true rfl)) dX6_time_20 ⟨Nat.le_of_ble_eq_true rfl, Nat.le_of_ble_eq_true rfl⟩) hD hS hA (fun r_3 u_3 H locs hq_3 hP hD hS => ?_)
    obtain ⟨er9, eu9⟩ := hq_3
    subst er9 eu9
    refine bz_eq (a := (false || (isS (cu_N u 0) p0 && cu_B u 0 p0.toInt.toNat) || false)) (tgt := 28) hx hb dX6_time_23 (by decide) (fun c_23 => ?_) (fun c_23 => ?_)
    · obtain ⟨n, h_n, e_n⟩ := isS_of (n := cu_N u 0) (by omega) c_6
      have ent : p0.toInt.toNat = n := by rw [e_n, nI_toInt (by omega)]; rfl
      have hbn : cu_B u 0 n = false := by rw [c_6, ent] at c_23; simpa using c_23
      subst e_n
      obtain ⟨v, ev⟩ : ∃ v, v = cs_N u 4 (m_code false (isS (cu_N u 0) (nI n) && cu_B u 0 (nI n).toInt.toNat) false) := ⟨_, rfl⟩
      rw [← ev] at hP hD
      have hv : m_ok v := by rw [ev]; exact h
      have evN : ∀ k, k ≠ 4 → cu_N v k = cu_N u k := fun k hk => by rw [ev, cx_NN, if_neg hk]
      have evF : cu_F v = cu_F u := by rw [ev]; rfl
      have evB : cu_B v = cu_B u := by rw [ev]; rfl
      have evG : cu_G v = cu_G u := by rw [ev]; rfl
      have evD : cu_D v = cu_D u := by rw [ev]; rfl
      have v0 := evN 0 (by decide)
      have v1 := evN 1 (by decide)
      have v2 := evN 2 (by decide)
      have v3 := evN 3 (by decide)
      have hn2 := hv.2.2.1 n (by omega)
      refine lv_aload_n hx hb dX6_time_28 rfl (lv_at hl 0 rfl) ?_
      refine lv_iload_n hx hb dX6_time_29 rfl (lv_at hl 1 rfl) ?_
      refine vp_callSi (W.runV (As := [.int (nI n)]) (rest := []) ⟨hx, hb, hml, hown, hts⟩ (c_X6_begin l dC dI a k v hv n (by omega)) (cwV 1 hts (wG_V wG_c q_702 q_704 p_14 q_7 q_705) rfl rfl rfl (by decide +kernel) ⟨Nat.le_of_ble_eq_true rfl, Nat.le_of_ble_eq_true rfl⟩) (w_roV hK hP (ci := 6) (q0 := 0) rfl (wR_g0 a k _) rfl) rfl rfl hl.1 rfl (lv_room (Nat.le_of_ble_eq_true rfl)) dX6_time_30 ⟨Nat.le_of_ble_eq_true rfl, Nat.le_of_ble_eq_true rfl⟩) (fun r_4 hr_4 => ?_)
      subst hr_4
      exact W.iret (v := iI (m_beg v n)) hx hb hr (fun t9 ht9 hW9 => ⟨⟨_, v, rfl, ⟨by rw [ev]; exact congrArg (cs_N u 4) (by rw [c_6]; rfl), fun h9 => ⟨n, h_n, rfl, hbn, rfl⟩⟩, by rw [ht9]; exact hP, va_K.moved hW9.alike hK, hD⟩, hS.F ht9⟩) hS.2.2 dX6_time_33
    · refine lv_iconst (v := 0) hx hb dX6_time_26 (by decide) ?_
      exact W.iret (v := 0) hx hb hr (fun t9 ht9 hW9 => ⟨⟨_, cs_N u 4 (m_code false (isS (cu_N u 0) p0 && cu_B u 0 p0.toInt.toNat) false), rfl, ⟨congrArg (cs_N u 4) (by simp [c_6]), fun h9 => absurd h9 (by simp [m_code, c_6] at c_23 ⊢ <;> simp_all)⟩, by rw [ht9]; exact hP, va_K.moved hW9.alike hK, hD⟩, hS.F ht9⟩) hS.2.2 dX6_time_27
  · have e9 : (isS (cu_N u 0) p0 && cu_B u 0 p0.toInt.toNat) = false := by rw [c_6]; rfl
    refine lv_iconst (v := 1) hx hb dX6_time_9 (by decide) ?_
    refine lv_goto (tgt := 14) hx hb dX6_time_10 (by decide) ?_
    refine lv_aload_n hx hb dX6_time_14 rfl (lv_at hl 0 rfl) ?_
    refine lv_iload_n hx hb dX6_time_15 rfl (lv_at hl 1 rfl) ?_
    refine vp_callSi (W.runV (As := [.int p0]) (rest := [.int 1, .ref (a 0)]) ⟨hx, hb, hml, hown, hts⟩ (c_X6_isGone l dC dI a k u h20 p0) (cwV 1 hts (wG_V wG_c q_718 q_720 p_17 q_7 q_721) rfl rfl rfl (by decide +kernel) ⟨Nat.le_of_ble_eq_true rfl, Nat.le_of_ble_eq_true rfl⟩) (w_roV hK hP (ci := 6) (q0 := 0) rfl (wR_g0 a k _) rfl) rfl rfl hl.1 rfl (lv_room (Nat.le_of_ble_eq_true rfl)) dX6_time_16 ⟨Nat.le_of_ble_eq_true rfl, Nat.le_of_ble_eq_true rfl⟩) (fun r_5 hr_5 => ?_)
    subst hr_5
    refine lv_iconst (v := 0) hx hb dX6_time_19 (by decide) ?_
    refine w_cali (w := wR a k) (va_runV (As := [.int 1, .int (bI (isS (cu_N u 0) p0 && cu_B u 0 p0.toInt.toNat)), .int 0]) (rest := []) ⟨hx, hb, hml, hown, hts⟩ (c_X6_throwing l dC dI a k u _ true (isS (cu_N u 0) p0 && cu_B u 0 p0.toInt.toNat) false) (cwV 3 hts (wG_V wG_c q_654 q_656 p_7 q_7 q_657) rfl rfl rfl (by decide +kernel) ⟨Nat.le_of_ble_eq_true rfl, Nat.le_of_ble_eq_true rfl⟩) (w_muV hK hP hD (ci := 6) (q0 := 0) rfl (wR_g0 a k _) rfl) rfl rfl hl.1 rfl (lv_room (Nat.le_of_ble_eq_true rfl)) dX6_time_20 ⟨Nat.le_of_ble_eq_true rfl, Nat.le_of_ble_eq_true rfl⟩) hD hS hA (fun r_6 u_6 H locs hq_6 hP hD hS => ?_)
    obtain ⟨er9, eu9⟩ := hq_6
    subst er9 eu9
    refine wtopi (1) rfl ?_
    refine lv_if_eq (tgt := 28) hx hb dX6_time_23 (by decide) (fun h9 => absurd h9 (by decide)) (fun _ => ?_)
    refine lv_iconst (v := 0) hx hb dX6_time_26 (by decide) ?_
    exact W.iret (v := 0) hx hb hr (fun t9 ht9 hW9 => ⟨⟨_, cs_N u 4 (m_code true (isS (cu_N u 0) p0 && cu_B u 0 p0.toInt.toNat) false), rfl, ⟨congrArg (cs_N u 4) (by simp [c_6]), fun h9 => absurd h9 (by simp [m_code, c_6])⟩, by rw [ht9]; exact hP, va_K.moved hW9.alike hK, hD⟩, hS.F ht9⟩) hS.2.2 dX6_time_27
set_option maxHeartbeats 4000000 in
set_option maxRecDepth 100000 in
theorem c_X6_sum (l : Launch) (dC : Nat → ClassId) (dI : Nat → Nat → Nat) (a : Nat → Nat) (k : c_K) (u : c_St) (sz : Nat) (h : m_ok u) (p0 : Int32) : Met l yX6_sum wsX6_sum ({ frames := 3, cells := 0, slots := 0, locals := 64 }) (va_Pc [.ref (a 0), .int p0] (w_mu (dC, dI) vwCl (wR a k u) (tC k) sz)) (va_Qi (fun (r : Int32) (u1 : c_St) => u1 = cs_N u 4 (m_code (!isS (cu_N u 0) p0) (isS (cu_N u 0) p0 && cu_B u 0 p0.toInt.toNat) false) ∧ (m_code (!isS (cu_N u 0) p0) (isS (cu_N u 0) p0 && cu_B u 0 p0.toInt.toNat) false = 0 → ∃ n : Nat, n < cu_N u 0 ∧ p0 = nI n ∧ cu_B u 0 n = false ∧ r = m_sm (fun i => cu_G u1 2 (8 * n + i)) 0 (cu_F u1 2 n))) (w_at (dC, dI) vwCl (wR a k) (tC k) (va_A (wR a k u) sz)) (va_A (wR a k u) sz)) 0 0 (va_A (wR a k u) sz) := by
  refine Met.ofW (cc := cX6_sum) (maxL := 2) (ret := (some .int)) (by decide) rfl ?_
  intro p e s m args below meth c s₁ B hml hv
  obtain ⟨rfl, hsz, hP, hK, hD0⟩ := hv
  have hx := B.exec
  have hb := B.bytes
  have hr := B.returns
  have hts := atoms_spec (ws := wsX6_sum) B.pre
  have htg : ∀ w ∈ wG, w.before _ s = true := fun w h => hts w (List.mem_cons_of_mem _ h)
  have hown : s.vm.findClass RX6 = some m.cls := findClass_of_methodNamed B.named
  have hlocks := B.notSynchronized
  subst hsz
  have hD := hD0.self (sz := s.heap.size)
  generalize hAe : va_A (wR a k u) s.heap.size = A at hD ⊢
  have hA : ∀ q : Nat, s.heap.size ≤ q → A q := fun q h => by rw [← hAe]; exact Or.inr h
  have hS : va_S A s.heap s.heap [] := va_S.rf
  have hl := lv_entry ([.ref (a 0), .int p0]) (n := 2) (Nat.le_of_ble_eq_true rfl)
  rw [lg_entry_eq]
  generalize (lg_sl ([.ref (a 0), .int p0]) ++ List.replicate (2 - (lg_sl ([.ref (a 0), .int p0])).length) Slot.unset).toArray = ls at hl ⊢
  have hl : lv_has ls 2 [(0, .ref (a 0)), (1, .int p0)] := hl
  have h20 := h.1
  refine lv_aload_n hx hb dX6_sum_0 rfl (lv_at hl 0 rfl) ?_
  refine lv_aload_n hx hb dX6_sum_1 rfl (lv_at hl 0 rfl) ?_
  refine lv_iload_n hx hb dX6_sum_2 rfl (lv_at hl 1 rfl) ?_
  refine vp_callSi (W.runV (As := [.int p0]) (rest := [.ref (a 0)]) ⟨hx, hb, hml, hown, hts⟩ (c_X6_isSlot l dC dI a k u h20 p0) (cwV 1 hts (wG_V wG_c q_714 q_716 p_16 q_7 q_717) rfl rfl rfl (by decide +kernel) ⟨Nat.le_of_ble_eq_true rfl, Nat.le_of_ble_eq_true rfl⟩) (w_roV hK hP (ci := 6) (q0 := 0) rfl (wR_g0 a k _) rfl) rfl rfl hl.1 rfl (lv_room (Nat.le_of_ble_eq_true rfl)) dX6_sum_3 ⟨Nat.le_of_ble_eq_true rfl, Nat.le_of_ble_eq_true rfl⟩) (fun r_1 hr_1 => ?_)
  subst hr_1
  refine bz_ne (a := (isS (cu_N u 0) p0)) (tgt := 13) hx hb dX6_sum_6 (by decide) (fun c_6 => ?_) (fun c_6 => ?_)
  · refine lv_iconst (v := 0) hx hb dX6_sum_13 (by decide) ?_
    refine lv_aload_n hx hb dX6_sum_14 rfl (lv_at hl 0 rfl) ?_
    refine lv_iload_n hx hb dX6_sum_15 rfl (lv_at hl 1 rfl) ?_
    refine vp_callSi (W.runV (As := [.int p0]) (rest := [.int 0, .ref (a 0)]) ⟨hx, hb, hml, hown, hts⟩ (c_X6_isGone l dC dI a k u h20 p0) (cwV 1 hts (wG_V wG_c q_718 q_720 p_17 q_7 q_721) rfl rfl rfl (by decide +kernel) ⟨Nat.le_of_ble_eq_true rfl, Nat.le_of_ble_eq_true rfl⟩) (w_roV hK hP (ci := 6) (q0 := 0) rfl (wR_g0 a k _) rfl) rfl rfl hl.1 rfl (lv_room (Nat.le_of_ble_eq_true rfl)) dX6_sum_16 ⟨Nat.le_of_ble_eq_true rfl, Nat.le_of_ble_eq_true rfl⟩) (fun r_2 hr_2 => ?_)
    subst hr_2
    refine lv_iconst (v := 0) hx hb dX6_sum_19 (by decide) ?_
    refine w_cali (w := wR a k) (va_runV (As := [.int 0, .int (bI (isS (cu_N u 0) p0 && cu_B u 0 p0.toInt.toNat)), .int 0]) (rest := []) ⟨hx, hb, hml, hown, hts⟩ (c_X6_throwing l dC dI a k u _ false (isS (cu_N u 0) p0 && cu_B u 0 p0.toInt.toNat) false) (cwV 3 hts (wG_V wG_c q_654 q_656 p_7 q_7 q_657) rfl rfl rfl (by decide +kernel) ⟨Nat.le_of_ble_eq_true rfl, Nat.le_of_ble_eq_true rfl⟩) (w_muV hK hP hD (ci := 6) (q0 := 0) rfl (wR_g0 a k _) rfl) rfl rfl hl.1 rfl (lv_room (Nat.le_of_ble_eq_true rfl)) dX6_sum_20 ⟨Nat.le_of_ble_eq_true rfl, Nat.le_of_ble_eq_true rfl⟩) hD hS hA (fun r_3 u_3 H locs hq_3 hP hD hS => ?_)
    obtain ⟨er9, eu9⟩ := hq_3
    subst er9 eu9
    refine bz_eq (a := (false || (isS (cu_N u 0) p0 && cu_B u 0 p0.toInt.toNat) || false)) (tgt := 28) hx hb dX6_sum_23 (by decide) (fun c_23 => ?_) (fun c_23 => ?_)
    · obtain ⟨n, h_n, e_n⟩ := isS_of (n := cu_N u 0) (by omega) c_6
      have ent : p0.toInt.toNat = n := by rw [e_n, nI_toInt (by omega)]; rfl
      have hbn : cu_B u 0 n = false := by rw [c_6, ent] at c_23; simpa using c_23
      subst e_n
      obtain ⟨v, ev⟩ : ∃ v, v = cs_N u 4 (m_code false (isS (cu_N u 0) (nI n) && cu_B u 0 (nI n).toInt.toNat) false) := ⟨_, rfl⟩
      rw [← ev] at hP hD
      have hv : m_ok v := by rw [ev]; exact h
      have evN : ∀ k, k ≠ 4 → cu_N v k = cu_N u k := fun k hk => by rw [ev, cx_NN, if_neg hk]
      have evF : cu_F v = cu_F u := by rw [ev]; rfl
      have evB : cu_B v = cu_B u := by rw [ev]; rfl
      have evG : cu_G v = cu_G u := by rw [ev]; rfl
      have evD : cu_D v = cu_D u := by rw [ev]; rfl
      have v0 := evN 0 (by decide)
      have v1 := evN 1 (by decide)
      have v2 := evN 2 (by decide)
      have v3 := evN 3 (by decide)
      have hn2 := hv.2.2.1 n (by omega)
      refine lv_aload_n hx hb dX6_sum_28 rfl (lv_at hl 0 rfl) ?_
      refine lv_iload_n hx hb dX6_sum_29 rfl (lv_at hl 1 rfl) ?_
      refine vp_callSi (W.runV (As := [.int (nI n)]) (rest := []) ⟨hx, hb, hml, hown, hts⟩ (c_X6_sumOf l dC dI a k v n (by omega) hn2.2.2.2.1) (cwV 1 hts (wG_V wG_c q_658 q_660 p_8 q_7 q_661) rfl rfl rfl (by decide +kernel) ⟨Nat.le_of_ble_eq_true rfl, Nat.le_of_ble_eq_true rfl⟩) (w_roV hK hP (ci := 6) (q0 := 0) rfl (wR_g0 a k _) rfl) rfl rfl hl.1 rfl (lv_room (Nat.le_of_ble_eq_true rfl)) dX6_sum_30 ⟨Nat.le_of_ble_eq_true rfl, Nat.le_of_ble_eq_true rfl⟩) (fun r_4 hr_4 => ?_)
      subst hr_4
      exact W.iret (v := m_sm (fun i => cu_G v 2 (8 * n + i)) 0 (cu_F v 2 n)) hx hb hr (fun t9 ht9 hW9 => ⟨⟨_, v, rfl, ⟨by rw [ev]; exact congrArg (cs_N u 4) (by rw [c_6]; rfl), fun h9 => ⟨n, h_n, rfl, hbn, rfl⟩⟩, by rw [ht9]; exact hP, va_K.moved hW9.alike hK, hD⟩, hS.F ht9⟩) hS.2.2 dX6_sum_33
    · refine lv_iconst (v := 0) hx hb dX6_sum_26 (by decide) ?_
      exact W.iret (v := 0) hx hb hr (fun t9 ht9 hW9 => ⟨⟨_, cs_N u 4 (m_code false (isS (cu_N u 0) p0 && cu_B u 0 p0.toInt.toNat) false), rfl, ⟨congrArg (cs_N u 4) (by simp [c_6]), fun h9 => absurd h9 (by simp [m_code, c_6] at c_23 ⊢ <;> simp_all)⟩, by rw [ht9]; exact hP, va_K.moved hW9.alike hK, hD⟩, hS.F ht9⟩) hS.2.2 dX6_sum_27
  · have e9 : (isS (cu_N u 0) p0 && cu_B u 0 p0.toInt.toNat) = false := by rw [c_6]; rfl
    refine lv_iconst (v := 1) hx hb dX6_sum_9 (by decide) ?_
    refine lv_goto (tgt := 14) hx hb dX6_sum_10 (by decide) ?_
    refine lv_aload_n hx hb dX6_sum_14 rfl (lv_at hl 0 rfl) ?_
    refine lv_iload_n hx hb dX6_sum_15 rfl (lv_at hl 1 rfl) ?_
    refine vp_callSi (W.runV (As := [.int p0]) (rest := [.int 1, .ref (a 0)]) ⟨hx, hb, hml, hown, hts⟩ (c_X6_isGone l dC dI a k u h20 p0) (cwV 1 hts (wG_V wG_c q_718 q_720 p_17 q_7 q_721) rfl rfl rfl (by decide +kernel) ⟨Nat.le_of_ble_eq_true rfl, Nat.le_of_ble_eq_true rfl⟩) (w_roV hK hP (ci := 6) (q0 := 0) rfl (wR_g0 a k _) rfl) rfl rfl hl.1 rfl (lv_room (Nat.le_of_ble_eq_true rfl)) dX6_sum_16 ⟨Nat.le_of_ble_eq_true rfl, Nat.le_of_ble_eq_true rfl⟩) (fun r_5 hr_5 => ?_)
    subst hr_5
    refine lv_iconst (v := 0) hx hb dX6_sum_19 (by decide) ?_
    refine w_cali (w := wR a k) (va_runV (As := [.int 1, .int (bI (isS (cu_N u 0) p0 && cu_B u 0 p0.toInt.toNat)), .int 0]) (rest := []) ⟨hx, hb, hml, hown, hts⟩ (c_X6_throwing l dC dI a k u _ true (isS (cu_N u 0) p0 && cu_B u 0 p0.toInt.toNat) false) (cwV 3 hts (wG_V wG_c q_654 q_656 p_7 q_7 q_657) rfl rfl rfl (by decide +kernel) ⟨Nat.le_of_ble_eq_true rfl, Nat.le_of_ble_eq_true rfl⟩) (w_muV hK hP hD (ci := 6) (q0 := 0) rfl (wR_g0 a k _) rfl) rfl rfl hl.1 rfl (lv_room (Nat.le_of_ble_eq_true rfl)) dX6_sum_20 ⟨Nat.le_of_ble_eq_true rfl, Nat.le_of_ble_eq_true rfl⟩) hD hS hA (fun r_6 u_6 H locs hq_6 hP hD hS => ?_)
    obtain ⟨er9, eu9⟩ := hq_6
    subst er9 eu9
    refine wtopi (1) rfl ?_
    refine lv_if_eq (tgt := 28) hx hb dX6_sum_23 (by decide) (fun h9 => absurd h9 (by decide)) (fun _ => ?_)
    refine lv_iconst (v := 0) hx hb dX6_sum_26 (by decide) ?_
    exact W.iret (v := 0) hx hb hr (fun t9 ht9 hW9 => ⟨⟨_, cs_N u 4 (m_code true (isS (cu_N u 0) p0 && cu_B u 0 p0.toInt.toNat) false), rfl, ⟨congrArg (cs_N u 4) (by simp [c_6]), fun h9 => absurd h9 (by simp [m_code, c_6])⟩, by rw [ht9]; exact hP, va_K.moved hW9.alike hK, hD⟩, hS.F ht9⟩) hS.2.2 dX6_sum_27
set_option maxHeartbeats 4000000 in
set_option maxRecDepth 100000 in
theorem c_X6_part (l : Launch) (dC : Nat → ClassId) (dI : Nat → Nat → Nat) (a : Nat → Nat) (k : c_K) (u : c_St) (sz : Nat) (h : m_ok u) (p0 t1 t2 : Int32) : Met l yX6_part wsX6_part ({ frames := 4, cells := 0, slots := 0, locals := 91 }) (va_Pc [.ref (a 0), .int p0, .int t1, .int t2] (w_mu (dC, dI) vwCl (wR a k u) (tC k) sz)) (va_Qi (fun (r : Int32) (u1 : c_St) => u1 = cs_N u 4 (m_code (!isS (cu_N u 0) p0) (isS (cu_N u 0) p0 && cu_B u 0 p0.toInt.toNat) false) ∧ (m_code (!isS (cu_N u 0) p0) (isS (cu_N u 0) p0 && cu_B u 0 p0.toInt.toNat) false = 0 → ∃ n : Nat, n < cu_N u 0 ∧ p0 = nI n ∧ cu_B u 0 n = false ∧ r = m_sw (fun i => cu_G u1 2 (8 * n + i)) (m_beg u1 n) t1 t2 0 (cu_F u1 2 n))) (w_at (dC, dI) vwCl (wR a k) (tC k) (va_A (wR a k u) sz)) (va_A (wR a k u) sz)) 0 0 (va_A (wR a k u) sz) := by
  refine Met.ofW (cc := cX6_part) (maxL := 4) (ret := (some .int)) (by decide) rfl ?_
  intro p e s m args below meth c s₁ B hml hv
  obtain ⟨rfl, hsz, hP, hK, hD0⟩ := hv
  have hx := B.exec
  have hb := B.bytes
  have hr := B.returns
  have hts := atoms_spec (ws := wsX6_part) B.pre
  have htg : ∀ w ∈ wG, w.before _ s = true := fun w h => hts w (List.mem_cons_of_mem _ h)
  have hown : s.vm.findClass RX6 = some m.cls := findClass_of_methodNamed B.named
  have hlocks := B.notSynchronized
  subst hsz
  have hD := hD0.self (sz := s.heap.size)
  generalize hAe : va_A (wR a k u) s.heap.size = A at hD ⊢
  have hA : ∀ q : Nat, s.heap.size ≤ q → A q := fun q h => by rw [← hAe]; exact Or.inr h
  have hS : va_S A s.heap s.heap [] := va_S.rf
  have hl := lv_entry ([.ref (a 0), .int p0, .int t1, .int t2]) (n := 4) (Nat.le_of_ble_eq_true rfl)
  rw [lg_entry_eq]
  generalize (lg_sl ([.ref (a 0), .int p0, .int t1, .int t2]) ++ List.replicate (4 - (lg_sl ([.ref (a 0), .int p0, .int t1, .int t2])).length) Slot.unset).toArray = ls at hl ⊢
  have hl : lv_has ls 4 [(0, .ref (a 0)), (1, .int p0), (2, .int t1), (3, .int t2)] := hl
  have h20 := h.1
  refine lv_aload_n hx hb dX6_part_0 rfl (lv_at hl 0 rfl) ?_
  refine lv_aload_n hx hb dX6_part_1 rfl (lv_at hl 0 rfl) ?_
  refine lv_iload_n hx hb dX6_part_2 rfl (lv_at hl 1 rfl) ?_
  refine vp_callSi (W.runV (As := [.int p0]) (rest := [.ref (a 0)]) ⟨hx, hb, hml, hown, hts⟩ (c_X6_isSlot l dC dI a k u h20 p0) (cwV 1 hts (wG_V wG_c q_714 q_716 p_16 q_7 q_717) rfl rfl rfl (by decide +kernel) ⟨Nat.le_of_ble_eq_true rfl, Nat.le_of_ble_eq_true rfl⟩) (w_roV hK hP (ci := 6) (q0 := 0) rfl (wR_g0 a k _) rfl) rfl rfl hl.1 rfl (lv_room (Nat.le_of_ble_eq_true rfl)) dX6_part_3 ⟨Nat.le_of_ble_eq_true rfl, Nat.le_of_ble_eq_true rfl⟩) (fun r_1 hr_1 => ?_)
  subst hr_1
  refine bz_ne (a := (isS (cu_N u 0) p0)) (tgt := 13) hx hb dX6_part_6 (by decide) (fun c_6 => ?_) (fun c_6 => ?_)
  · refine lv_iconst (v := 0) hx hb dX6_part_13 (by decide) ?_
    refine lv_aload_n hx hb dX6_part_14 rfl (lv_at hl 0 rfl) ?_
    refine lv_iload_n hx hb dX6_part_15 rfl (lv_at hl 1 rfl) ?_
    refine vp_callSi (W.runV (As := [.int p0]) (rest := [.int 0, .ref (a 0)]) ⟨hx, hb, hml, hown, hts⟩ (c_X6_isGone l dC dI a k u h20 p0) (cwV 1 hts (wG_V wG_c q_718 q_720 p_17 q_7 q_721) rfl rfl rfl (by decide +kernel) ⟨Nat.le_of_ble_eq_true rfl, Nat.le_of_ble_eq_true rfl⟩) (w_roV hK hP (ci := 6) (q0 := 0) rfl (wR_g0 a k _) rfl) rfl rfl hl.1 rfl (lv_room (Nat.le_of_ble_eq_true rfl)) dX6_part_16 ⟨Nat.le_of_ble_eq_true rfl, Nat.le_of_ble_eq_true rfl⟩) (fun r_2 hr_2 => ?_)
    subst hr_2
    refine lv_iconst (v := 0) hx hb dX6_part_19 (by decide) ?_
    refine w_cali (w := wR a k) (va_runV (As := [.int 0, .int (bI (isS (cu_N u 0) p0 && cu_B u 0 p0.toInt.toNat)), .int 0]) (rest := []) ⟨hx, hb, hml, hown, hts⟩ (c_X6_throwing l dC dI a k u _ false (isS (cu_N u 0) p0 && cu_B u 0 p0.toInt.toNat) false) (cwV 3 hts (wG_V wG_c q_654 q_656 p_7 q_7 q_657) rfl rfl rfl (by decide +kernel) ⟨Nat.le_of_ble_eq_true rfl, Nat.le_of_ble_eq_true rfl⟩) (w_muV hK hP hD (ci := 6) (q0 := 0) rfl (wR_g0 a k _) rfl) rfl rfl hl.1 rfl (lv_room (Nat.le_of_ble_eq_true rfl)) dX6_part_20 ⟨Nat.le_of_ble_eq_true rfl, Nat.le_of_ble_eq_true rfl⟩) hD hS hA (fun r_3 u_3 H locs hq_3 hP hD hS => ?_)
    obtain ⟨er9, eu9⟩ := hq_3
    subst er9 eu9
    refine bz_eq (a := (false || (isS (cu_N u 0) p0 && cu_B u 0 p0.toInt.toNat) || false)) (tgt := 28) hx hb dX6_part_23 (by decide) (fun c_23 => ?_) (fun c_23 => ?_)
    · obtain ⟨n, h_n, e_n⟩ := isS_of (n := cu_N u 0) (by omega) c_6
      have ent : p0.toInt.toNat = n := by rw [e_n, nI_toInt (by omega)]; rfl
      have hbn : cu_B u 0 n = false := by rw [c_6, ent] at c_23; simpa using c_23
      subst e_n
      obtain ⟨v, ev⟩ : ∃ v, v = cs_N u 4 (m_code false (isS (cu_N u 0) (nI n) && cu_B u 0 (nI n).toInt.toNat) false) := ⟨_, rfl⟩
      rw [← ev] at hP hD
      have hv : m_ok v := by rw [ev]; exact h
      have evN : ∀ k, k ≠ 4 → cu_N v k = cu_N u k := fun k hk => by rw [ev, cx_NN, if_neg hk]
      have evF : cu_F v = cu_F u := by rw [ev]; rfl
      have evB : cu_B v = cu_B u := by rw [ev]; rfl
      have evG : cu_G v = cu_G u := by rw [ev]; rfl
      have evD : cu_D v = cu_D u := by rw [ev]; rfl
      have v0 := evN 0 (by decide)
      have v1 := evN 1 (by decide)
      have v2 := evN 2 (by decide)
      have v3 := evN 3 (by decide)
      have hn2 := hv.2.2.1 n (by omega)
      refine lv_aload_n hx hb dX6_part_28 rfl (lv_at hl 0 rfl) ?_
      refine lv_iconst (v := 0) hx hb dX6_part_29 (by decide) ?_
      refine lv_iload_n hx hb dX6_part_30 rfl (lv_at hl 1 rfl) ?_
      refine lv_iload_n hx hb dX6_part_31 rfl (lv_at hl 2 rfl) ?_
      refine lv_iload_n hx hb dX6_part_32 rfl (lv_at hl 3 rfl) ?_
      refine vp_callSi (W.runV (As := [.int 0, .int (nI n), .int t1, .int t2]) (rest := []) ⟨hx, hb, hml, hown, hts⟩ (c_X6_sumWithin l dC dI a k v hv 0 n (by omega) t1 t2) (cwV 4 hts (wG_V wG_c q_730 q_732 p_18 q_7 q_733) rfl rfl rfl (by decide +kernel) ⟨Nat.le_of_ble_eq_true rfl, Nat.le_of_ble_eq_true rfl⟩) (w_roV hK hP (ci := 6) (q0 := 0) rfl (wR_g0 a k _) rfl) rfl rfl hl.1 rfl (lv_room (Nat.le_of_ble_eq_true rfl)) dX6_part_33 ⟨Nat.le_of_ble_eq_true rfl, Nat.le_of_ble_eq_true rfl⟩) (fun r_4 hr_4 => ?_)
      subst hr_4
      exact W.iret (v := m_sw (fun i => cu_G v 2 (8 * n + i)) (m_beg v n) t1 t2 0 (cu_F v 2 n)) hx hb hr (fun t9 ht9 hW9 => ⟨⟨_, v, rfl, ⟨by rw [ev]; exact congrArg (cs_N u 4) (by rw [c_6]; rfl), fun h9 => ⟨n, h_n, rfl, hbn, rfl⟩⟩, by rw [ht9]; exact hP, va_K.moved hW9.alike hK, hD⟩, hS.F ht9⟩) hS.2.2 dX6_part_36
    · refine lv_iconst (v := 0) hx hb dX6_part_26 (by decide) ?_
      exact W.iret (v := 0) hx hb hr (fun t9 ht9 hW9 => ⟨⟨_, cs_N u 4 (m_code false (isS (cu_N u 0) p0 && cu_B u 0 p0.toInt.toNat) false), rfl, ⟨congrArg (cs_N u 4) (by simp [c_6]), fun h9 => absurd h9 (by simp [m_code, c_6] at c_23 ⊢ <;> simp_all)⟩, by rw [ht9]; exact hP, va_K.moved hW9.alike hK, hD⟩, hS.F ht9⟩) hS.2.2 dX6_part_27
  · have e9 : (isS (cu_N u 0) p0 && cu_B u 0 p0.toInt.toNat) = false := by rw [c_6]; rfl
    refine lv_iconst (v := 1) hx hb dX6_part_9 (by decide) ?_
    refine lv_goto (tgt := 14) hx hb dX6_part_10 (by decide) ?_
    refine lv_aload_n hx hb dX6_part_14 rfl (lv_at hl 0 rfl) ?_
    refine lv_iload_n hx hb dX6_part_15 rfl (lv_at hl 1 rfl) ?_
    refine vp_callSi (W.runV (As := [.int p0]) (rest := [.int 1, .ref (a 0)]) ⟨hx, hb, hml, hown, hts⟩ (c_X6_isGone l dC dI a k u h20 p0) (cwV 1 hts (wG_V wG_c q_718 q_720 p_17 q_7 q_721) rfl rfl rfl (by decide +kernel) ⟨Nat.le_of_ble_eq_true rfl, Nat.le_of_ble_eq_true rfl⟩) (w_roV hK hP (ci := 6) (q0 := 0) rfl (wR_g0 a k _) rfl) rfl rfl hl.1 rfl (lv_room (Nat.le_of_ble_eq_true rfl)) dX6_part_16 ⟨Nat.le_of_ble_eq_true rfl, Nat.le_of_ble_eq_true rfl⟩) (fun r_5 hr_5 => ?_)
    subst hr_5
    refine lv_iconst (v := 0) hx hb dX6_part_19 (by decide) ?_
    refine w_cali (w := wR a k) (va_runV (As := [.int 1, .int (bI (isS (cu_N u 0) p0 && cu_B u 0 p0.toInt.toNat)), .int 0]) (rest := []) ⟨hx, hb, hml, hown, hts⟩ (c_X6_throwing l dC dI a k u _ true (isS (cu_N u 0) p0 && cu_B u 0 p0.toInt.toNat) false) (cwV 3 hts (wG_V wG_c q_654 q_656 p_7 q_7 q_657) rfl rfl rfl (by decide +kernel) ⟨Nat.le_of_ble_eq_true rfl, Nat.le_of_ble_eq_true rfl⟩) (w_muV hK hP hD (ci := 6) (q0 := 0) rfl (wR_g0 a k _) rfl) rfl rfl hl.1 rfl (lv_room (Nat.le_of_ble_eq_true rfl)) dX6_part_20 ⟨Nat.le_of_ble_eq_true rfl, Nat.le_of_ble_eq_true rfl⟩) hD hS hA (fun r_6 u_6 H locs hq_6 hP hD hS => ?_)
    obtain ⟨er9, eu9⟩ := hq_6
    subst er9 eu9
    refine wtopi (1) rfl ?_
    refine lv_if_eq (tgt := 28) hx hb dX6_part_23 (by decide) (fun h9 => absurd h9 (by decide)) (fun _ => ?_)
    refine lv_iconst (v := 0) hx hb dX6_part_26 (by decide) ?_
    exact W.iret (v := 0) hx hb hr (fun t9 ht9 hW9 => ⟨⟨_, cs_N u 4 (m_code true (isS (cu_N u 0) p0 && cu_B u 0 p0.toInt.toNat) false), rfl, ⟨congrArg (cs_N u 4) (by simp [c_6]), fun h9 => absurd h9 (by simp [m_code, c_6])⟩, by rw [ht9]; exact hP, va_K.moved hW9.alike hK, hD⟩, hS.F ht9⟩) hS.2.2 dX6_part_27
end
section
theorem tnI {i : Nat} (h : i < 2147483648) : (nI i).toInt.toNat = i := by rw [nI_toInt (by omega)]; rfl
theorem m_sz_t {u : c_St} {t1 t2 : Int32} {j : Nat} (h : cu_B u 0 j = true) : nI (m_sz u t1 t2 j) + 0 = nI (m_sz u t1 t2 (j + 1)) := by
  show _ = nI (m_sz u t1 t2 j + _)
  rw [if_pos h]
  exact nI_add _ 0
theorem m_sz_f {u : c_St} {t1 t2 : Int32} {j : Nat} (h : cu_B u 0 j = false) : nI (m_sz u t1 t2 j) + nI (m_wi (m_beg u j) t1 t2 (cu_F u 2 j)) = nI (m_sz u t1 t2 (j + 1)) := by
  show _ = nI (m_sz u t1 t2 j + _)
  rw [if_neg (by rw [h]; decide)]
  exact nI_add _ _
theorem m_th_t {u : c_St} {j : Nat} (h : cu_B u 0 j = true) : nI (m_th u j) + 0 = nI (m_th u (j + 1)) := by
  show _ = nI (m_th u j + _)
  rw [if_pos h]
  exact nI_add _ 0
theorem m_th_f {u : c_St} {j : Nat} (h : cu_B u 0 j = false) : nI (m_th u j) + 1 = nI (m_th u (j + 1)) := by
  show _ = nI (m_th u j + _)
  rw [if_neg (by rw [h]; decide)]
  exact nI_1 _
theorem m_vf_n {u : c_St} {s : Nat} (h : m_vf u s = -1) (h2 : ¬ (cu_B u 0 s = false ∧ m_sm (fun i => cu_G u 2 (8 * s + i)) 0 (cu_F u 2 s) ≠ cu_G u 0 s)) : m_vf u (s + 1) = -1 := by
  unfold m_vf
  rw [if_pos h, if_neg h2]
theorem m_vf_y {u : c_St} {s : Nat} (h : m_vf u s = -1) (h2 : cu_B u 0 s = false ∧ m_sm (fun i => cu_G u 2 (8 * s + i)) 0 (cu_F u 2 s) ≠ cu_G u 0 s) : ∀ d, m_vf u (s + 1 + d) = (s : Int)
  | 0 => by
    show m_vf u (s + 1) = _
    unfold m_vf
    rw [if_pos h, if_pos h2]
  | d + 1 => by
    have h3 := m_vf_y h h2 d
    show (if m_vf u (s + 1 + d) = -1 then _ else m_vf u (s + 1 + d)) = _
    rw [h3, if_neg (by omega)]

set_option maxHeartbeats 4000000 in
set_option maxRecDepth 100000 in
theorem c_X6_size (l : Launch) (dC : Nat → ClassId) (dI : Nat → Nat → Nat) (a : Nat → Nat) (k : c_K) (u : c_St) (sz : Nat) (h : m_ok u) (t1 t2 : Int32) : Met l yX6_size wsX6_size ({ frames := 4, cells := 0, slots := 0, locals := 90 }) (va_Pc [.ref (a 0), .int t1, .int t2] (w_mu (dC, dI) vwCl (wR a k u) (tC k) sz)) (va_Qi (fun (r : Int32) (u1 : c_St) => u1 = cs_N u 4 0 ∧ r = nI (m_sz u1 t1 t2 (cu_N u1 0))) (w_at (dC, dI) vwCl (wR a k) (tC k) (va_A (wR a k u) sz)) (va_A (wR a k u) sz)) 0 0 (va_A (wR a k u) sz) := by
  refine Met.ofW (cc := cX6_size) (maxL := 5) (ret := (some .int)) (by decide) rfl ?_
  intro p e s m args below meth c s₁ B hml hv
  obtain ⟨rfl, hsz, hP, hK, hD0⟩ := hv
  have hx := B.exec
  have hb := B.bytes
  have hr := B.returns
  have hts := atoms_spec (ws := wsX6_size) B.pre
  have htg : ∀ w ∈ wG, w.before _ s = true := fun w h => hts w (List.mem_cons_of_mem _ h)
  have hown : s.vm.findClass RX6 = some m.cls := findClass_of_methodNamed B.named
  have hlocks := B.notSynchronized
  subst hsz
  have hD := hD0.self (sz := s.heap.size)
  generalize hAe : va_A (wR a k u) s.heap.size = A at hD ⊢
  have hA : ∀ q : Nat, s.heap.size ≤ q → A q := fun q h => by rw [← hAe]; exact Or.inr h
  have hS : va_S A s.heap s.heap [] := va_S.rf
  have hl := lv_entry ([.ref (a 0), .int t1, .int t2]) (n := 5) (Nat.le_of_ble_eq_true rfl)
  rw [lg_entry_eq]
  generalize (lg_sl ([.ref (a 0), .int t1, .int t2]) ++ List.replicate (5 - (lg_sl ([.ref (a 0), .int t1, .int t2])).length) Slot.unset).toArray = ls at hl ⊢
  have hl : lv_has ls 5 [(0, .ref (a 0)), (1, .int t1), (2, .int t2)] := hl
  refine lv_aload_n hx hb dX6_size_0 rfl (lv_at hl 0 rfl) ?_
  refine lv_iconst (v := 0) hx hb dX6_size_1 (by decide) ?_
  refine va_put (D := (dC, dI)) (ci := 6) (v := .int 0) (ty := .int) (C := RX6) (T := TX6) (N := 20) hx hb htg inX6 tyX6 tyX6_ok nmX6 hown hK hP hD hS 0 (wR_g0 a k _) rfl 0 (by decide) (htg _ q_581) (fun _ h9 => h9) rfl (by decide +kernel) rfl rfl (Nat.le_of_ble_eq_true rfl) dX6_size_2 (fun H locs hP hD hS => ?_)
  have hP := w_pE (wR_n4 a k _ 0) hP
  have hD := w_dE (wR_n4 a k _ 0) hD
  obtain ⟨v, ev⟩ : ∃ v, v = cs_N u 4 0 := ⟨_, rfl⟩
  rw [← ev] at hP hD
  have hv : m_ok v := by rw [ev]; exact h
  have hv0 := hv.1
  refine lv_iconst (v := 0) hx hb dX6_size_5 (by decide) ?_
  refine lv_istore_n (lv' := [(3, .int 0), (0, .ref (a 0)), (1, .int t1), (2, .int t2)]) hx hb dX6_size_6 rfl hl (by decide) rfl (fun ls hl => ?_)
  refine lv_iconst (v := 0) hx hb dX6_size_7 (by decide) ?_
  refine lv_istore (lv' := [(4, .int 0), (3, .int 0), (0, .ref (a 0)), (1, .int t1), (2, .int t2)]) hx hb dX6_size_8 hl (by decide) rfl (fun ls hl => ?_)
  refine w_loop (fun j : Nat => cu_N v 0 - j) (fun j ls => j ≤ cu_N v 0 ∧ lv_has ls 5 [(0, .ref (a 0)), (1, .int t1), (2, .int t2), (3, .int (nI (m_sz v t1 t2 j))), (4, .int (nI j))]) ?_ (0) ls ⟨Nat.zero_le _, lv_sub hl [2, 3, 4, 1, 0] rfl⟩
  clear hl
  intro j ls hI ih
  obtain ⟨hI, hl⟩ := hI
  refine lv_iload hx hb dX6_size_10 (lv_at hl 4 rfl) ?_
  refine lv_aload_n hx hb dX6_size_12 rfl (lv_at hl 0 rfl) ?_
  refine va_get (D := (dC, dI)) (ci := 6) (v := .int (nI (cu_N v 0))) (C := RX6) (T := TX6) (N := 20) hx hb htg inX6 hown hK hP 0 (wR_g0 a k _) rfl 1 (by decide) (htg _ q_582) (fun _ h9 => h9) rfl dX6_size_13 ?_
  refine nb_ge (a := j) (b := (cu_N v 0)) (tgt := 50) hx hb (by omega) (by omega) rfl rfl dX6_size_16 (by decide) (fun c_16 => ?_) (fun c_16 => ?_)
  · refine lv_iload_n hx hb dX6_size_50 rfl (lv_at hl 3 rfl) ?_
    exact W.iret (v := nI (m_sz v t1 t2 j)) hx hb hr (fun t9 ht9 hW9 => ⟨⟨_, v, rfl, ⟨ev, by rw [show cu_N v 0 = j by omega]⟩, by rw [ht9]; exact hP, va_K.moved hW9.alike hK, hD⟩, hS.F ht9⟩) hS.2.2 dX6_size_51
  · refine lv_iload_n hx hb dX6_size_19 rfl (lv_at hl 3 rfl) ?_
    refine lv_aload_n hx hb dX6_size_20 rfl (lv_at hl 0 rfl) ?_
    refine va_get (D := (dC, dI)) (ci := 6) (v := .ref (a 9)) (C := RX6) (T := TX6) (N := 20) hx hb htg inX6 hown hK hP 0 (wR_g0 a k _) rfl 9 (by decide) (htg _ q_590) (fun _ h9 => h9) rfl dX6_size_21 ?_
    refine lv_iload hx hb dX6_size_24 (lv_at hl 4 rfl) ?_
    refine va_zald hx hb hK hP 9 2 (wR_g9 a k _) rfl (vp_in_nI (n := j) (N := 200) (by omega) (by decide)) dX6_size_26 ?_
    refine wtopi (bI (cu_B v 0 j)) (congrArg (fun j9 => bI (cu_B v 0 j9)) (nI_clamp (n := j) (Nat.lt_trans (m := 200) (by omega) (by decide)))) ?_
    refine bz_eq (a := (cu_B v 0 j)) (tgt := 34) hx hb dX6_size_27 (by decide) (fun c_27 => ?_) (fun c_27 => ?_)
    · refine lv_aload_n hx hb dX6_size_34 rfl (lv_at hl 0 rfl) ?_
      refine lv_iload hx hb dX6_size_35 (lv_at hl 4 rfl) ?_
      refine lv_iload_n hx hb dX6_size_37 rfl (lv_at hl 1 rfl) ?_
      refine lv_iload_n hx hb dX6_size_38 rfl (lv_at hl 2 rfl) ?_
      refine vp_callSi (W.runV (As := [.int (nI j), .int t1, .int t2]) (rest := [.int (nI (m_sz v t1 t2 j))]) ⟨hx, hb, hml, hown, hts⟩ (c_X6_within l dC dI a k v hv j (by omega) t1 t2) (cwV 3 hts (wG_V wG_c q_698 q_700 p_13 q_7 q_701) rfl rfl rfl (by decide +kernel) ⟨Nat.le_of_ble_eq_true rfl, Nat.le_of_ble_eq_true rfl⟩) (w_roV hK hP (ci := 6) (q0 := 0) rfl (wR_g0 a k _) rfl) rfl rfl hl.1 rfl (lv_room (Nat.le_of_ble_eq_true rfl)) dX6_size_39 ⟨Nat.le_of_ble_eq_true rfl, Nat.le_of_ble_eq_true rfl⟩) (fun r_1 hr_1 => ?_)
      subst hr_1
      refine lv_iadd hx hb dX6_size_42 ?_
      refine wtopi (y := nI (m_sz v t1 t2 (j + 1))) (m_sz_f c_27) ?_
      refine lv_istore_n (lv' := [(3, .int (nI (m_sz v t1 t2 (j + 1)))), (0, .ref (a 0)), (1, .int t1), (2, .int t2), (4, .int (nI j))]) hx hb dX6_size_43 rfl hl (by decide) rfl (fun ls hl => ?_)
      refine lv_iinc (v := nI (j + 1)) (lv' := [(4, .int (nI (j + 1))), (3, .int (nI (m_sz v t1 t2 (j + 1)))), (0, .ref (a 0)), (1, .int t1), (2, .int t2)]) hx hb dX6_size_44 hl (k := 4) rfl (nI_1 j) (by decide) rfl (fun ls hl => ?_)
      refine lv_goto (tgt := 10) hx hb dX6_size_47 (by decide) ?_
      exact ih (j + 1) ls (by omega) ⟨by omega, lv_sub hl [2, 3, 4, 1, 0] rfl⟩
    · refine lv_iconst (v := 0) hx hb dX6_size_30 (by decide) ?_
      refine lv_goto (tgt := 42) hx hb dX6_size_31 (by decide) ?_
      refine lv_iadd hx hb dX6_size_42 ?_
      refine wtopi (y := nI (m_sz v t1 t2 (j + 1))) (m_sz_t c_27) ?_
      refine lv_istore_n (lv' := [(3, .int (nI (m_sz v t1 t2 (j + 1)))), (0, .ref (a 0)), (1, .int t1), (2, .int t2), (4, .int (nI j))]) hx hb dX6_size_43 rfl hl (by decide) rfl (fun ls hl => ?_)
      refine lv_iinc (v := nI (j + 1)) (lv' := [(4, .int (nI (j + 1))), (3, .int (nI (m_sz v t1 t2 (j + 1)))), (0, .ref (a 0)), (1, .int t1), (2, .int t2)]) hx hb dX6_size_44 hl (k := 4) rfl (nI_1 j) (by decide) rfl (fun ls hl => ?_)
      refine lv_goto (tgt := 10) hx hb dX6_size_47 (by decide) ?_
      exact ih (j + 1) ls (by omega) ⟨by omega, lv_sub hl [2, 3, 4, 1, 0] rfl⟩
set_option maxHeartbeats 4000000 in
set_option maxRecDepth 100000 in
theorem c_X6_export (l : Launch) (dC : Nat → ClassId) (dI : Nat → Nat → Nat) (a : Nat → Nat) (k : c_K) (u : c_St) (sz : Nat) (h : m_ok u) (t1 t2 : Int32) : Met l yX6_export wsX6_export ({ frames := 6, cells := 0, slots := 0, locals := 143 }) (va_Pc [.ref (a 0), .int t1, .int t2] (w_mu (dC, dI) vwCl (wR a k u) (tC k) sz)) (va_Qi (fun (r : Int32) (u1 : c_St) => u1 = cs_N u 4 0 ∧ ∃ q : Nat, r = m_ex u1 t1 t2 q ∧ m_fnd u1 t1 t2 (-1) (-1) q (cu_N u1 0) = -1 ∧ ∀ j, j < q → 0 ≤ m_fnd u1 t1 t2 (-1) (-1) j (cu_N u1 0)) (w_at (dC, dI) vwCl (wR a k) (tC k) (va_A (wR a k u) sz)) (va_A (wR a k u) sz)) 0 0 (va_A (wR a k u) sz) := by
  refine Met.ofW (cc := cX6_export) (maxL := 6) (ret := (some .int)) (by decide) rfl ?_
  intro p e s m args below meth c s₁ B hml hv
  obtain ⟨rfl, hsz, hP, hK, hD0⟩ := hv
  have hx := B.exec
  have hb := B.bytes
  have hr := B.returns
  have hts := atoms_spec (ws := wsX6_export) B.pre
  have htg : ∀ w ∈ wG, w.before _ s = true := fun w h => hts w (List.mem_cons_of_mem _ h)
  have hown : s.vm.findClass RX6 = some m.cls := findClass_of_methodNamed B.named
  have hlocks := B.notSynchronized
  subst hsz
  have hD := hD0.self (sz := s.heap.size)
  generalize hAe : va_A (wR a k u) s.heap.size = A at hD ⊢
  have hA : ∀ q : Nat, s.heap.size ≤ q → A q := fun q h => by rw [← hAe]; exact Or.inr h
  have hS : va_S A s.heap s.heap [] := va_S.rf
  have hl := lv_entry ([.ref (a 0), .int t1, .int t2]) (n := 6) (Nat.le_of_ble_eq_true rfl)
  rw [lg_entry_eq]
  generalize (lg_sl ([.ref (a 0), .int t1, .int t2]) ++ List.replicate (6 - (lg_sl ([.ref (a 0), .int t1, .int t2])).length) Slot.unset).toArray = ls at hl ⊢
  have hl : lv_has ls 6 [(0, .ref (a 0)), (1, .int t1), (2, .int t2)] := hl
  refine lv_aload_n hx hb dX6_export_0 rfl (lv_at hl 0 rfl) ?_
  refine lv_iconst (v := 0) hx hb dX6_export_1 (by decide) ?_
  refine va_put (D := (dC, dI)) (ci := 6) (v := .int 0) (ty := .int) (C := RX6) (T := TX6) (N := 20) hx hb htg inX6 tyX6 tyX6_ok nmX6 hown hK hP hD hS 0 (wR_g0 a k _) rfl 0 (by decide) (htg _ q_581) (fun _ h9 => h9) rfl (by decide +kernel) rfl rfl (Nat.le_of_ble_eq_true rfl) dX6_export_2 (fun H locs hP hD hS => ?_)
  have hP := w_pE (wR_n4 a k _ 0) hP
  have hD := w_dE (wR_n4 a k _ 0) hD
  obtain ⟨v, ev⟩ : ∃ v, v = cs_N u 4 0 := ⟨_, rfl⟩
  rw [← ev] at hP hD
  have hv : m_ok v := by rw [ev]; exact h
  have hv0 := hv.1
  refine lv_iconst (v := 0) hx hb dX6_export_5 (by decide) ?_
  refine lv_istore_n (lv' := [(3, .int 0), (0, .ref (a 0)), (1, .int t1), (2, .int t2)]) hx hb dX6_export_6 rfl hl (by decide) rfl (fun ls hl => ?_)
  refine lv_iconst (v := 0) hx hb dX6_export_7 (by decide) ?_
  refine lv_istore (lv' := [(4, .int 0), (3, .int 0), (0, .ref (a 0)), (1, .int t1), (2, .int t2)]) hx hb dX6_export_8 hl (by decide) rfl (fun ls hl => ?_)
  refine lv_aload_n hx hb dX6_export_10 rfl (lv_at hl 2 rfl) ?_
  refine lv_iload_n hx hb dX6_export_11 rfl (lv_at hl 3 rfl) ?_
  refine lv_iload_n hx hb dX6_export_12 rfl (lv_at hl 4 rfl) ?_
  refine lv_iconst (v := (-1)) hx hb dX6_export_13 (by decide) ?_
  refine lv_iconst (v := (-1)) hx hb dX6_export_14 (by decide) ?_
  refine lv_iconst (v := 0) hx hb dX6_export_15 (by decide) ?_
  refine vp_callSi (W.runV (As := [.int t1, .int t2, .int (-1), .int (-1), .int 0]) (rest := []) ⟨hx, hb, hml, hown, hts⟩ (c_X6_found l dC dI a k v hv t1 t2 (-1) (-1) 0 (by decide)) (cwV 5 hts (wG_V wG_c q_690 q_692 p_11 q_7 q_693) rfl rfl rfl (by decide +kernel) ⟨Nat.le_of_ble_eq_true rfl, Nat.le_of_ble_eq_true rfl⟩) (w_roV hK hP (ci := 6) (q0 := 0) rfl (wR_g0 a k _) rfl) rfl rfl hl.1 rfl (lv_room (Nat.le_of_ble_eq_true rfl)) dX6_export_16 ⟨Nat.le_of_ble_eq_true rfl, Nat.le_of_ble_eq_true rfl⟩) (fun r_1 hr_1 => ?_)
  subst hr_1
  refine lv_istore (lv' := [(5, .int (iI (m_fnd v t1 t2 (-1) (-1) 0 (cu_N v 0)))), (4, .int 0), (3, .int 0), (0, .ref (a 0)), (1, .int t1), (2, .int t2)]) hx hb dX6_export_19 hl (by decide) rfl (fun ls hl => ?_)
  refine w_loop (fun q : Nat => 202 - q) (fun q ls => (q ≤ 201 ∧ ∀ j, j < q → 0 ≤ m_fnd v t1 t2 (-1) (-1) j (cu_N v 0)) ∧ lv_has ls 6 [(0, .ref (a 0)), (1, .int t1), (2, .int t2), (3, .int (m_ex v t1 t2 q)), (4, .int (nI q)), (5, .int (iI (m_fnd v t1 t2 (-1) (-1) q (cu_N v 0))))]) ?_ (0) ls ⟨⟨by decide, fun j hj => absurd hj (Nat.not_lt_zero j)⟩, lv_sub hl [3, 4, 5, 2, 1, 0] rfl⟩
  clear hl
  intro q ls hI ih
  obtain ⟨hI, hl⟩ := hI
  have hfb := m_fnd_b v t1 t2 (-1) (-1) q (cu_N v 0)
  refine lv_iload hx hb dX6_export_21 (lv_at hl 5 rfl) ?_
  refine iz_lt (a := (m_fnd v t1 t2 (-1) (-1) q (cu_N v 0))) (tgt := 54) hx hb (by omega) (by omega) rfl dX6_export_23 (by decide) (fun c_23 => ?_) (fun c_23 => ?_)
  · refine lv_iload_n hx hb dX6_export_54 rfl (lv_at hl 3 rfl) ?_
    exact W.iret (v := m_ex v t1 t2 q) hx hb hr (fun t9 ht9 hW9 => ⟨⟨_, v, rfl, ⟨ev, q, rfl, by omega, hI.2⟩, by rw [ht9]; exact hP, va_K.moved hW9.alike hK, hD⟩, hS.F ht9⟩) hS.2.2 dX6_export_55
  · have hfq := m_fnd_q (cu_N v 0) c_23
    have hal := m_ah_le v t1 t2 (-1) (-1) (m_fnd v t1 t2 (-1) (-1) q (cu_N v 0)).toNat (cu_N v 0)
    have hq9 : q ≤ 200 := by omega
    have hI2 : ∀ j, j < q + 1 → 0 ≤ m_fnd v t1 t2 (-1) (-1) j (cu_N v 0) := by
      intro j hj
      by_cases hjq : j = q
      · rw [hjq]; exact c_23
      · exact hI.2 j (by omega)
    refine lv_aload_n hx hb dX6_export_26 rfl (lv_at hl 0 rfl) ?_
    refine lv_iload_n hx hb dX6_export_27 rfl (lv_at hl 3 rfl) ?_
    refine lv_iload hx hb dX6_export_28 (lv_at hl 5 rfl) ?_
    refine wtopi (y := nI ((m_fnd v t1 t2 (-1) (-1) q (cu_N v 0)).toNat)) (show iI _ = nI _ from by rw [nI_iI, Int.toNat_of_nonneg c_23]) ?_
    refine lv_iload_n hx hb dX6_export_30 rfl (lv_at hl 1 rfl) ?_
    refine lv_iload_n hx hb dX6_export_31 rfl (lv_at hl 2 rfl) ?_
    refine vp_callSi (W.runV (As := [.int (m_ex v t1 t2 q), .int (nI ((m_fnd v t1 t2 (-1) (-1) q (cu_N v 0)).toNat)), .int t1, .int t2]) (rest := []) ⟨hx, hb, hml, hown, hts⟩ (c_X6_sumWithin l dC dI a k v hv (m_ex v t1 t2 q) (m_fnd v t1 t2 (-1) (-1) q (cu_N v 0)).toNat (by omega) t1 t2) (cwV 4 hts (wG_V wG_c q_730 q_732 p_18 q_7 q_733) rfl rfl rfl (by decide +kernel) ⟨Nat.le_of_ble_eq_true rfl, Nat.le_of_ble_eq_true rfl⟩) (w_roV hK hP (ci := 6) (q0 := 0) rfl (wR_g0 a k _) rfl) rfl rfl hl.1 rfl (lv_room (Nat.le_of_ble_eq_true rfl)) dX6_export_32 ⟨Nat.le_of_ble_eq_true rfl, Nat.le_of_ble_eq_true rfl⟩) (fun r_2 hr_2 => ?_)
    subst hr_2
    refine lv_istore_n (lv' := [(3, .int (m_ex v t1 t2 (q + 1))), (0, .ref (a 0)), (1, .int t1), (2, .int t2), (4, .int (nI q)), (5, .int (iI (m_fnd v t1 t2 (-1) (-1) q (cu_N v 0))))]) hx hb dX6_export_35 rfl hl (by decide) rfl (fun ls hl => ?_)
    refine lv_iinc (v := nI (q + 1)) (lv' := [(4, .int (nI (q + 1))), (3, .int (m_ex v t1 t2 (q + 1))), (0, .ref (a 0)), (1, .int t1), (2, .int t2), (5, .int (iI (m_fnd v t1 t2 (-1) (-1) q (cu_N v 0))))]) hx hb dX6_export_36 hl (k := 4) rfl (nI_1 q) (by decide) rfl (fun ls hl => ?_)
    refine lv_aload_n hx hb dX6_export_39 rfl (lv_at hl 2 rfl) ?_
    refine lv_iload_n hx hb dX6_export_40 rfl (lv_at hl 3 rfl) ?_
    refine lv_iload_n hx hb dX6_export_41 rfl (lv_at hl 4 rfl) ?_
    refine lv_iconst (v := (-1)) hx hb dX6_export_42 (by decide) ?_
    refine lv_iconst (v := (-1)) hx hb dX6_export_43 (by decide) ?_
    refine lv_iload hx hb dX6_export_44 (lv_at hl 0 rfl) ?_
    refine vp_callSi (W.runV (As := [.int t1, .int t2, .int (-1), .int (-1), .int (nI (q + 1))]) (rest := []) ⟨hx, hb, hml, hown, hts⟩ (c_X6_found l dC dI a k v hv t1 t2 (-1) (-1) (q + 1) (by omega)) (cwV 5 hts (wG_V wG_c q_690 q_692 p_11 q_7 q_693) rfl rfl rfl (by decide +kernel) ⟨Nat.le_of_ble_eq_true rfl, Nat.le_of_ble_eq_true rfl⟩) (w_roV hK hP (ci := 6) (q0 := 0) rfl (wR_g0 a k _) rfl) rfl rfl hl.1 rfl (lv_room (Nat.le_of_ble_eq_true rfl)) dX6_export_46 ⟨Nat.le_of_ble_eq_true rfl, Nat.le_of_ble_eq_true rfl⟩) (fun r_3 hr_3 => ?_)
    subst hr_3
    refine lv_istore (lv' := [(5, .int (iI (m_fnd v t1 t2 (-1) (-1) (q + 1) (cu_N v 0)))), (4, .int (nI (q + 1))), (3, .int (m_ex v t1 t2 (q + 1))), (0, .ref (a 0)), (1, .int t1), (2, .int t2)]) hx hb dX6_export_49 hl (by decide) rfl (fun ls hl => ?_)
    refine lv_goto (tgt := 21) hx hb dX6_export_51 (by decide) ?_
    exact ih (q + 1) ls (by omega) ⟨⟨by omega, hI2⟩, lv_sub hl [3, 4, 5, 2, 1, 0] rfl⟩
set_option maxHeartbeats 4000000 in
set_option maxRecDepth 100000 in
theorem c_X6_hold (l : Launch) (dC : Nat → ClassId) (dI : Nat → Nat → Nat) (a : Nat → Nat) (k : c_K) (u : c_St) (sz : Nat) (p0 : Int32) (on : Bool) : Met l yX6_hold wsX6_hold ({ frames := 1, cells := 0, slots := 0, locals := 23 }) (va_Pc [.ref (a 0), .int p0, .int (bI on)] (w_mu (dC, dI) vwCl (wR a k u) (tC k) sz)) (va_Qv (fun (u1 : c_St) => (m_code (!inR p0 0 49) (inR p0 0 49 && (cu_B u 1 p0.toInt.toNat == on)) false ≠ 0 → u1 = cs_N u 4 (m_code (!inR p0 0 49) (inR p0 0 49 && (cu_B u 1 p0.toInt.toNat == on)) false)) ∧ (m_code (!inR p0 0 49) (inR p0 0 49 && (cu_B u 1 p0.toInt.toNat == on)) false = 0 → ∃ i : Nat, p0 = nI i ∧ i ≤ 49 ∧ u1 = cs_B (cs_N u 4 0) 1 i on)) (w_at (dC, dI) vwCl (wR a k) (tC k) (va_A (wR a k u) sz)) (va_A (wR a k u) sz)) 0 0 (va_A (wR a k u) sz) := by
  refine Met.ofW (cc := cX6_hold) (maxL := 4) (ret := none) (by decide) rfl ?_
  intro p e s m args below meth c s₁ B hml hv
  obtain ⟨rfl, hsz, hP, hK, hD0⟩ := hv
  have hx := B.exec
  have hb := B.bytes
  have hr := B.returns
  have hts := atoms_spec (ws := wsX6_hold) B.pre
  have htg : ∀ w ∈ wG, w.before _ s = true := fun w h => hts w (List.mem_cons_of_mem _ h)
  have hown : s.vm.findClass RX6 = some m.cls := findClass_of_methodNamed B.named
  have hlocks := B.notSynchronized
  subst hsz
  have hD := hD0.self (sz := s.heap.size)
  generalize hAe : va_A (wR a k u) s.heap.size = A at hD ⊢
  have hA : ∀ q : Nat, s.heap.size ≤ q → A q := fun q h => by rw [← hAe]; exact Or.inr h
  have hS : va_S A s.heap s.heap [] := va_S.rf
  have hl := lv_entry ([.ref (a 0), .int p0, .int (bI on)]) (n := 4) (Nat.le_of_ble_eq_true rfl)
  rw [lg_entry_eq]
  generalize (lg_sl ([.ref (a 0), .int p0, .int (bI on)]) ++ List.replicate (4 - (lg_sl ([.ref (a 0), .int p0, .int (bI on)])).length) Slot.unset).toArray = ls at hl ⊢
  have hl : lv_has ls 4 [(0, .ref (a 0)), (1, .int p0), (2, .int (bI on))] := hl
  refine lv_iload_n hx hb dX6_hold_0 rfl (lv_at hl 1 rfl) ?_
  refine lv_iconst (v := 0) hx hb dX6_hold_1 (by decide) ?_
  refine lv_bipush (v := 49) hx hb dX6_hold_2 (by decide) ?_
  refine vp_callSi (W.runS (As := [.int p0, .int 0, .int 49]) (rest := []) ⟨hx, hb, hml, hown, hts⟩ (c_X6_in l dC dI a k u p0 0 49) (cwS 3 hts (wG_S wG_c q_650 q_651 q_7 q_652) rfl rfl rfl (by decide +kernel) ⟨Nat.le_of_ble_eq_true rfl, Nat.le_of_ble_eq_true rfl⟩) (w_roS hK hP) rfl rfl hl.1 rfl (lv_room (Nat.le_of_ble_eq_true rfl)) dX6_hold_4 ⟨Nat.le_of_ble_eq_true rfl, Nat.le_of_ble_eq_true rfl⟩) (fun r_1 hr_1 => ?_)
  subst hr_1
  refine bz_ne (a := (inR p0 0 49)) (tgt := 14) hx hb dX6_hold_7 (by decide) (fun c_7 => ?_) (fun c_7 => ?_)
  · refine lv_iconst (v := 0) hx hb dX6_hold_14 (by decide) ?_
    refine lv_istore_n (lv' := [(3, .int 0), (0, .ref (a 0)), (1, .int p0), (2, .int (bI on))]) hx hb dX6_hold_15 rfl hl (by decide) rfl (fun ls hl => ?_)
    refine lv_aload_n hx hb dX6_hold_16 rfl (lv_at hl 1 rfl) ?_
    refine lv_iload_n hx hb dX6_hold_17 rfl (lv_at hl 0 rfl) ?_
    refine lv_iload_n hx hb dX6_hold_18 rfl (lv_at hl 0 rfl) ?_
    refine lv_if_ne (tgt := 36) hx hb dX6_hold_19 (by decide) (fun h9 => absurd h9 (by decide)) (fun _ => ?_)
    obtain ⟨i9, l_i9, h_i9, e_i9⟩ := inR_nat (l9 := 0) (h9 := 49) c_7 rfl rfl (by decide)
    subst e_i9
    have et9 := tnI (i := i9) (by omega)
    refine lv_aload_n hx hb dX6_hold_22 rfl (lv_at hl 1 rfl) ?_
    refine va_get (D := (dC, dI)) (ci := 6) (v := .ref (a 10)) (C := RX6) (T := TX6) (N := 20) hx hb htg inX6 hown hK hP 0 (wR_g0 a k _) rfl 13 (by decide) (htg _ q_594) (fun _ h9 => h9) rfl dX6_hold_23 ?_
    refine lv_iload_n hx hb dX6_hold_26 rfl (lv_at hl 2 rfl) ?_
    refine va_zald hx hb hK hP 10 2 (wR_g10 a k _) rfl (vp_in_nI (n := i9) (N := 50) (show i9 < 50 by omega) (by decide)) dX6_hold_27 ?_
    refine wtopi (bI (cu_B u 1 i9)) (congrArg (fun j9 => bI (cu_B u 1 j9)) (nI_clamp (n := i9) (Nat.lt_trans (m := 50) (show i9 < 50 by omega) (by decide)))) ?_
    refine lv_iload_n hx hb dX6_hold_28 rfl (lv_at hl 3 rfl) ?_
    refine lv_icmp_ne (tgt := 36) hx hb dX6_hold_29 (by decide) (fun c_29 => ?_) (fun c_29 => ?_)
    · have c_29 : (cu_B u 1 i9 == on) = false := by
        rw [beq_eq_false_iff_ne]
        exact fun z => c_29 (bI_inj.mpr z)
      refine lv_iconst (v := 0) hx hb dX6_hold_36 (by decide) ?_
      refine lv_iconst (v := 0) hx hb dX6_hold_37 (by decide) ?_
      refine w_cali (w := wR a k) (va_runV (As := [.int 0, .int 0, .int 0]) (rest := []) ⟨hx, hb, hml, hown, hts⟩ (c_X6_throwing l dC dI a k u _ false false false) (cwV 3 hts (wG_V wG_c q_654 q_656 p_7 q_7 q_657) rfl rfl rfl (by decide +kernel) ⟨Nat.le_of_ble_eq_true rfl, Nat.le_of_ble_eq_true rfl⟩) (w_muV hK hP hD (ci := 6) (q0 := 0) rfl (wR_g0 a k _) rfl) rfl rfl hl.1 rfl (lv_room (Nat.le_of_ble_eq_true rfl)) dX6_hold_38 ⟨Nat.le_of_ble_eq_true rfl, Nat.le_of_ble_eq_true rfl⟩) hD hS hA (fun r_2 u_2 H locs hq_2 hP hD hS => ?_)
      obtain ⟨er9, eu9⟩ := hq_2
      subst er9 eu9
      refine wtopi (0) rfl ?_
      refine lv_if_eq (tgt := 45) hx hb dX6_hold_41 (by decide) (fun _ => ?_) (fun h9 => absurd h9 (by decide))
      refine lv_aload_n hx hb dX6_hold_45 rfl (lv_at hl 1 rfl) ?_
      refine va_get (D := (dC, dI)) (ci := 6) (v := .ref (a 10)) (C := RX6) (T := TX6) (N := 20) hx hb htg inX6 hown hK hP 0 (wR_g0 a k _) rfl 13 (by decide) (htg _ q_594) (fun _ h9 => h9) rfl dX6_hold_46 ?_
      refine lv_iload_n hx hb dX6_hold_49 rfl (lv_at hl 2 rfl) ?_
      refine lv_iload_n hx hb dX6_hold_50 rfl (lv_at hl 3 rfl) ?_
      refine va_zast hx hb hK hP hD hS 10 2 (wR_g10 a k _) rfl (vp_in_nI (n := i9) (N := 50) (show i9 < 50 by omega) (by decide)) dX6_hold_51 (fun H locs hP hD hS => ?_)
      have hP := w_pE (wR_s10 a k _ i9 on (Nat.lt_trans (m := 50) (show i9 < 50 by omega) (by decide))) hP
      have hD := w_dE (wR_s10 a k _ i9 on (Nat.lt_trans (m := 50) (show i9 < 50 by omega) (by decide))) hD
      exact W.vret hx hb hr (fun t9 ht9 hW9 => ⟨⟨cs_B (cs_N u 4 (m_code false false false)) 1 i9 on, rfl, ⟨fun h9 => absurd (by simp [m_code, c_7, c_29, et9]) h9, fun _ => ⟨i9, rfl, h_i9, rfl⟩⟩, by rw [ht9]; exact hP, va_K.moved hW9.alike hK, hD⟩, hS.F ht9⟩) hS.2.2 dX6_hold_52
    · have c_29 : (cu_B u 1 i9 == on) = true := by
        rw [beq_iff_eq]
        exact bI_inj.mp c_29
      refine lv_iconst (v := 1) hx hb dX6_hold_32 (by decide) ?_
      refine lv_goto (tgt := 37) hx hb dX6_hold_33 (by decide) ?_
      refine lv_iconst (v := 0) hx hb dX6_hold_37 (by decide) ?_
      refine w_cali (w := wR a k) (va_runV (As := [.int 0, .int 1, .int 0]) (rest := []) ⟨hx, hb, hml, hown, hts⟩ (c_X6_throwing l dC dI a k u _ false true false) (cwV 3 hts (wG_V wG_c q_654 q_656 p_7 q_7 q_657) rfl rfl rfl (by decide +kernel) ⟨Nat.le_of_ble_eq_true rfl, Nat.le_of_ble_eq_true rfl⟩) (w_muV hK hP hD (ci := 6) (q0 := 0) rfl (wR_g0 a k _) rfl) rfl rfl hl.1 rfl (lv_room (Nat.le_of_ble_eq_true rfl)) dX6_hold_38 ⟨Nat.le_of_ble_eq_true rfl, Nat.le_of_ble_eq_true rfl⟩) hD hS hA (fun r_3 u_3 H locs hq_3 hP hD hS => ?_)
      obtain ⟨er9, eu9⟩ := hq_3
      subst er9 eu9
      refine wtopi (1) rfl ?_
      refine lv_if_eq (tgt := 45) hx hb dX6_hold_41 (by decide) (fun h9 => absurd h9 (by decide)) (fun _ => ?_)
      exact W.vret hx hb hr (fun t9 ht9 hW9 => ⟨⟨cs_N u 4 (m_code false true false), rfl, ⟨fun _ => congrArg (cs_N u 4) (by simp [c_7, c_29, et9]), fun h9 => absurd h9 (by simp [m_code, c_7, c_29, et9])⟩, by rw [ht9]; exact hP, va_K.moved hW9.alike hK, hD⟩, hS.F ht9⟩) hS.2.2 dX6_hold_44
  · refine lv_iconst (v := 1) hx hb dX6_hold_10 (by decide) ?_
    refine lv_goto (tgt := 15) hx hb dX6_hold_11 (by decide) ?_
    refine lv_istore_n (lv' := [(3, .int 1), (0, .ref (a 0)), (1, .int p0), (2, .int (bI on))]) hx hb dX6_hold_15 rfl hl (by decide) rfl (fun ls hl => ?_)
    refine lv_aload_n hx hb dX6_hold_16 rfl (lv_at hl 1 rfl) ?_
    refine lv_iload_n hx hb dX6_hold_17 rfl (lv_at hl 0 rfl) ?_
    refine lv_iload_n hx hb dX6_hold_18 rfl (lv_at hl 0 rfl) ?_
    refine lv_if_ne (tgt := 36) hx hb dX6_hold_19 (by decide) (fun _ => ?_) (fun h9 => absurd h9 (by decide))
    refine lv_iconst (v := 0) hx hb dX6_hold_36 (by decide) ?_
    refine lv_iconst (v := 0) hx hb dX6_hold_37 (by decide) ?_
    refine w_cali (w := wR a k) (va_runV (As := [.int 1, .int 0, .int 0]) (rest := []) ⟨hx, hb, hml, hown, hts⟩ (c_X6_throwing l dC dI a k u _ true false false) (cwV 3 hts (wG_V wG_c q_654 q_656 p_7 q_7 q_657) rfl rfl rfl (by decide +kernel) ⟨Nat.le_of_ble_eq_true rfl, Nat.le_of_ble_eq_true rfl⟩) (w_muV hK hP hD (ci := 6) (q0 := 0) rfl (wR_g0 a k _) rfl) rfl rfl hl.1 rfl (lv_room (Nat.le_of_ble_eq_true rfl)) dX6_hold_38 ⟨Nat.le_of_ble_eq_true rfl, Nat.le_of_ble_eq_true rfl⟩) hD hS hA (fun r_4 u_4 H locs hq_4 hP hD hS => ?_)
    obtain ⟨er9, eu9⟩ := hq_4
    subst er9 eu9
    refine wtopi (1) rfl ?_
    refine lv_if_eq (tgt := 45) hx hb dX6_hold_41 (by decide) (fun h9 => absurd h9 (by decide)) (fun _ => ?_)
    exact W.vret hx hb hr (fun t9 ht9 hW9 => ⟨⟨cs_N u 4 (m_code true false false), rfl, ⟨fun _ => congrArg (cs_N u 4) (by simp [c_7]), fun h9 => absurd h9 (by simp [m_code, c_7])⟩, by rw [ht9]; exact hP, va_K.moved hW9.alike hK, hD⟩, hS.F ht9⟩) hS.2.2 dX6_hold_44
set_option maxHeartbeats 4000000 in
set_option maxRecDepth 100000 in
theorem c_X6_drop (l : Launch) (dC : Nat → ClassId) (dI : Nat → Nat → Nat) (a : Nat → Nat) (k : c_K) (u : c_St) (sz : Nat) (h : m_ok u) (hC : cu_N u 2 < 200) (p0 : Int32) : Met l yX6_drop wsX6_drop ({ frames := 2, cells := 0, slots := 0, locals := 45 }) (va_Pc [.ref (a 0), .int p0] (w_mu (dC, dI) vwCl (wR a k u) (tC k) sz)) (va_Qi (fun (r : Int32) (u1 : c_St) => (m_code (!isS (cu_N u 0) p0) (isS (cu_N u 0) p0 && (cu_B u 0 p0.toInt.toNat || cu_B u 1 (cu_F u 4 p0.toInt.toNat))) false ≠ 0 → u1 = cs_N u 4 (m_code (!isS (cu_N u 0) p0) (isS (cu_N u 0) p0 && (cu_B u 0 p0.toInt.toNat || cu_B u 1 (cu_F u 4 p0.toInt.toNat))) false)) ∧ (m_code (!isS (cu_N u 0) p0) (isS (cu_N u 0) p0 && (cu_B u 0 p0.toInt.toNat || cu_B u 1 (cu_F u 4 p0.toInt.toNat))) false = 0 → ∃ n : Nat, n < cu_N u 0 ∧ p0 = nI n ∧ cu_B u 0 n = false ∧ cu_B u 1 (cu_F u 4 n) = false ∧ r = nI (cu_N u 2) ∧ u1 = cs_N (cs_G (cs_F (cs_B (cs_N u 4 0) 0 n true) 6 (cu_N u 2) n) 1 (cu_N u 2) (m_sm (fun i => cu_G u 2 (8 * n + i)) 0 (cu_F u 2 n))) 2 (cu_N u 2 + 1))) (w_at (dC, dI) vwCl (wR a k) (tC k) (va_A (wR a k u) sz)) (va_A (wR a k u) sz)) 0 0 (va_A (wR a k u) sz) := by
  refine Met.ofW (cc := cX6_drop) (maxL := 2) (ret := (some .int)) (by decide) rfl ?_
  intro p e s m args below meth c s₁ B hml hv
  obtain ⟨rfl, hsz, hP, hK, hD0⟩ := hv
  have hx := B.exec
  have hb := B.bytes
  have hr := B.returns
  have hts := atoms_spec (ws := wsX6_drop) B.pre
  have htg : ∀ w ∈ wG, w.before _ s = true := fun w h => hts w (List.mem_cons_of_mem _ h)
  have hown : s.vm.findClass RX6 = some m.cls := findClass_of_methodNamed B.named
  have hlocks := B.notSynchronized
  subst hsz
  have hD := hD0.self (sz := s.heap.size)
  generalize hAe : va_A (wR a k u) s.heap.size = A at hD ⊢
  have hA : ∀ q : Nat, s.heap.size ≤ q → A q := fun q h => by rw [← hAe]; exact Or.inr h
  have hS : va_S A s.heap s.heap [] := va_S.rf
  have hl := lv_entry ([.ref (a 0), .int p0]) (n := 2) (Nat.le_of_ble_eq_true rfl)
  rw [lg_entry_eq]
  generalize (lg_sl ([.ref (a 0), .int p0]) ++ List.replicate (2 - (lg_sl ([.ref (a 0), .int p0])).length) Slot.unset).toArray = ls at hl ⊢
  have hl : lv_has ls 2 [(0, .ref (a 0)), (1, .int p0)] := hl
  have h20 := h.1
  refine lv_aload_n hx hb dX6_drop_0 rfl (lv_at hl 0 rfl) ?_
  refine lv_aload_n hx hb dX6_drop_1 rfl (lv_at hl 0 rfl) ?_
  refine lv_iload_n hx hb dX6_drop_2 rfl (lv_at hl 1 rfl) ?_
  refine vp_callSi (W.runV (As := [.int p0]) (rest := [.ref (a 0)]) ⟨hx, hb, hml, hown, hts⟩ (c_X6_isSlot l dC dI a k u h20 p0) (cwV 1 hts (wG_V wG_c q_714 q_716 p_16 q_7 q_717) rfl rfl rfl (by decide +kernel) ⟨Nat.le_of_ble_eq_true rfl, Nat.le_of_ble_eq_true rfl⟩) (w_roV hK hP (ci := 6) (q0 := 0) rfl (wR_g0 a k _) rfl) rfl rfl hl.1 rfl (lv_room (Nat.le_of_ble_eq_true rfl)) dX6_drop_3 ⟨Nat.le_of_ble_eq_true rfl, Nat.le_of_ble_eq_true rfl⟩) (fun r_1 hr_1 => ?_)
  subst hr_1
  refine bz_ne (a := (isS (cu_N u 0) p0)) (tgt := 13) hx hb dX6_drop_6 (by decide) (fun c_6 => ?_) (fun c_6 => ?_)
  · obtain ⟨n, h_n, e_n⟩ := isS_of (n := (cu_N u 0)) (by omega) c_6
    subst e_n
    have et9 := tnI (i := n) (by omega)
    have hn2 := h.2.2.1 n h_n
    refine lv_iconst (v := 0) hx hb dX6_drop_13 (by decide) ?_
    refine lv_aload_n hx hb dX6_drop_14 rfl (lv_at hl 0 rfl) ?_
    refine lv_iload_n hx hb dX6_drop_15 rfl (lv_at hl 1 rfl) ?_
    refine vp_callSi (W.runV (As := [.int (nI n)]) (rest := [.int 0, .ref (a 0)]) ⟨hx, hb, hml, hown, hts⟩ (c_X6_isSlot l dC dI a k u h20 (nI n)) (cwV 1 hts (wG_V wG_c q_714 q_716 p_16 q_7 q_717) rfl rfl rfl (by decide +kernel) ⟨Nat.le_of_ble_eq_true rfl, Nat.le_of_ble_eq_true rfl⟩) (w_roV hK hP (ci := 6) (q0 := 0) rfl (wR_g0 a k _) rfl) rfl rfl hl.1 rfl (lv_room (Nat.le_of_ble_eq_true rfl)) dX6_drop_16 ⟨Nat.le_of_ble_eq_true rfl, Nat.le_of_ble_eq_true rfl⟩) (fun r_2 hr_2 => ?_)
    subst hr_2
    refine wtopi (1) (by rw [c_6]; rfl) ?_
    refine lv_if_eq (tgt := 49) hx hb dX6_drop_19 (by decide) (fun h9 => absurd h9 (by decide)) (fun _ => ?_)
    refine lv_aload_n hx hb dX6_drop_22 rfl (lv_at hl 0 rfl) ?_
    refine va_get (D := (dC, dI)) (ci := 6) (v := .ref (a 9)) (C := RX6) (T := TX6) (N := 20) hx hb htg inX6 hown hK hP 0 (wR_g0 a k _) rfl 9 (by decide) (htg _ q_590) (fun _ h9 => h9) rfl dX6_drop_23 ?_
    refine lv_iload_n hx hb dX6_drop_26 rfl (lv_at hl 1 rfl) ?_
    refine va_zald hx hb hK hP 9 2 (wR_g9 a k _) rfl (vp_in_nI (n := n) (N := 200) (show n < 200 by omega) (by decide)) dX6_drop_27 ?_
    refine wtopi (bI (cu_B u 0 n)) (congrArg (fun j9 => bI (cu_B u 0 j9)) (nI_clamp (n := n) (Nat.lt_trans (m := 200) (show n < 200 by omega) (by decide)))) ?_
    refine bz_ne (a := (cu_B u 0 n)) (tgt := 45) hx hb dX6_drop_28 (by decide) (fun c_28 => ?_) (fun c_28 => ?_)
    · refine lv_iconst (v := 1) hx hb dX6_drop_45 (by decide) ?_
      refine lv_goto (tgt := 50) hx hb dX6_drop_46 (by decide) ?_
      refine lv_iconst (v := 0) hx hb dX6_drop_50 (by decide) ?_
      refine w_cali (w := wR a k) (va_runV (As := [.int 0, .int 1, .int 0]) (rest := []) ⟨hx, hb, hml, hown, hts⟩ (c_X6_throwing l dC dI a k u _ false true false) (cwV 3 hts (wG_V wG_c q_654 q_656 p_7 q_7 q_657) rfl rfl rfl (by decide +kernel) ⟨Nat.le_of_ble_eq_true rfl, Nat.le_of_ble_eq_true rfl⟩) (w_muV hK hP hD (ci := 6) (q0 := 0) rfl (wR_g0 a k _) rfl) rfl rfl hl.1 rfl (lv_room (Nat.le_of_ble_eq_true rfl)) dX6_drop_51 ⟨Nat.le_of_ble_eq_true rfl, Nat.le_of_ble_eq_true rfl⟩) hD hS hA (fun r_3 u_3 H locs hq_3 hP hD hS => ?_)
      obtain ⟨er9, eu9⟩ := hq_3
      subst er9 eu9
      refine wtopi (1) rfl ?_
      refine lv_if_eq (tgt := 59) hx hb dX6_drop_54 (by decide) (fun h9 => absurd h9 (by decide)) (fun _ => ?_)
      refine lv_iconst (v := 0) hx hb dX6_drop_57 (by decide) ?_
      exact W.iret (v := 0) hx hb hr (fun t9 ht9 hW9 => ⟨⟨_, cs_N u 4 (m_code false true false), rfl, ⟨fun _ => congrArg (cs_N u 4) (by simp [c_6, c_28, et9]), fun h9 => absurd h9 (by simp [m_code, c_6, c_28, et9])⟩, by rw [ht9]; exact hP, va_K.moved hW9.alike hK, hD⟩, hS.F ht9⟩) hS.2.2 dX6_drop_58
    · refine lv_aload_n hx hb dX6_drop_31 rfl (lv_at hl 0 rfl) ?_
      refine va_get (D := (dC, dI)) (ci := 6) (v := .ref (a 10)) (C := RX6) (T := TX6) (N := 20) hx hb htg inX6 hown hK hP 0 (wR_g0 a k _) rfl 13 (by decide) (htg _ q_594) (fun _ h9 => h9) rfl dX6_drop_32 ?_
      refine lv_aload_n hx hb dX6_drop_35 rfl (lv_at hl 0 rfl) ?_
      refine va_get (D := (dC, dI)) (ci := 6) (v := .ref (a 5)) (C := RX6) (T := TX6) (N := 20) hx hb htg inX6 hown hK hP 0 (wR_g0 a k _) rfl 7 (by decide) (htg _ q_588) (fun _ h9 => h9) rfl dX6_drop_36 ?_
      refine lv_iload_n hx hb dX6_drop_39 rfl (lv_at hl 1 rfl) ?_
      refine va_iald hx hb hK hP 5 0 (wR_g5 a k _) rfl (vp_in_nI (n := n) (N := 200) (show n < 200 by omega) (by decide)) dX6_drop_40 ?_
      refine wtopi (nI (cu_F u 4 n)) (congrArg (fun j9 => nI (cu_F u 4 j9)) (nI_clamp (n := n) (Nat.lt_trans (m := 200) (show n < 200 by omega) (by decide)))) ?_
      refine va_zald hx hb hK hP 10 2 (wR_g10 a k _) rfl (vp_in_nI (n := (cu_F u 4 n)) (N := 50) hn2.2.2.2.2.2 (by decide)) dX6_drop_41 ?_
      refine wtopi (bI (cu_B u 1 (cu_F u 4 n))) (congrArg (fun j9 => bI (cu_B u 1 j9)) (nI_clamp (n := (cu_F u 4 n)) (Nat.lt_trans (m := 50) hn2.2.2.2.2.2 (by decide)))) ?_
      refine bz_eq (a := (cu_B u 1 (cu_F u 4 n))) (tgt := 49) hx hb dX6_drop_42 (by decide) (fun c_42 => ?_) (fun c_42 => ?_)
      · refine lv_iconst (v := 0) hx hb dX6_drop_49 (by decide) ?_
        refine lv_iconst (v := 0) hx hb dX6_drop_50 (by decide) ?_
        refine w_cali (w := wR a k) (va_runV (As := [.int 0, .int 0, .int 0]) (rest := []) ⟨hx, hb, hml, hown, hts⟩ (c_X6_throwing l dC dI a k u _ false false false) (cwV 3 hts (wG_V wG_c q_654 q_656 p_7 q_7 q_657) rfl rfl rfl (by decide +kernel) ⟨Nat.le_of_ble_eq_true rfl, Nat.le_of_ble_eq_true rfl⟩) (w_muV hK hP hD (ci := 6) (q0 := 0) rfl (wR_g0 a k _) rfl) rfl rfl hl.1 rfl (lv_room (Nat.le_of_ble_eq_true rfl)) dX6_drop_51 ⟨Nat.le_of_ble_eq_true rfl, Nat.le_of_ble_eq_true rfl⟩) hD hS hA (fun r_4 u_4 H locs hq_4 hP hD hS => ?_)
        obtain ⟨er9, eu9⟩ := hq_4
        subst er9 eu9
        refine wtopi (0) rfl ?_
        refine lv_if_eq (tgt := 59) hx hb dX6_drop_54 (by decide) (fun _ => ?_) (fun h9 => absurd h9 (by decide))
        refine lv_aload_n hx hb dX6_drop_59 rfl (lv_at hl 0 rfl) ?_
        refine va_get (D := (dC, dI)) (ci := 6) (v := .ref (a 9)) (C := RX6) (T := TX6) (N := 20) hx hb htg inX6 hown hK hP 0 (wR_g0 a k _) rfl 9 (by decide) (htg _ q_590) (fun _ h9 => h9) rfl dX6_drop_60 ?_
        refine lv_iload_n hx hb dX6_drop_63 rfl (lv_at hl 1 rfl) ?_
        refine lv_iconst (v := 1) hx hb dX6_drop_64 (by decide) ?_
        refine va_zast hx hb hK hP hD hS 9 2 (wR_g9 a k _) rfl (vp_in_nI (n := n) (N := 200) (show n < 200 by omega) (by decide)) dX6_drop_65 (fun H locs hP hD hS => ?_)
        have hP := w_pE (wR_s9 a k _ n true (Nat.lt_trans (m := 200) (show n < 200 by omega) (by decide))) hP
        have hD := w_dE (wR_s9 a k _ n true (Nat.lt_trans (m := 200) (show n < 200 by omega) (by decide))) hD
        refine lv_aload_n hx hb dX6_drop_66 rfl (lv_at hl 0 rfl) ?_
        refine va_get (D := (dC, dI)) (ci := 6) (v := .ref (a 7)) (C := RX6) (T := TX6) (N := 20) hx hb htg inX6 hown hK hP 0 (wR_g0 a k _) rfl 16 (by decide) (htg _ q_597) (fun _ h9 => h9) rfl dX6_drop_67 ?_
        refine lv_aload_n hx hb dX6_drop_70 rfl (lv_at hl 0 rfl) ?_
        refine va_get (D := (dC, dI)) (ci := 6) (v := .int (nI (cu_N (cs_B (cs_N u 4 (m_code false false false)) 0 n true) 2))) (C := RX6) (T := TX6) (N := 20) hx hb htg inX6 hown hK hP 0 (wR_g0 a k _) rfl 15 (by decide) (htg _ q_596) (fun _ h9 => h9) rfl dX6_drop_71 ?_
        refine wtopi (y := nI (cu_N u 2)) rfl ?_
        refine lv_iload_n hx hb dX6_drop_74 rfl (lv_at hl 1 rfl) ?_
        refine va_iast hx hb hK hP hD hS 7 0 (wR_g7 a k _) rfl (vp_in_nI (n := (cu_N u 2)) (N := 200) hC (by decide)) dX6_drop_75 (fun H locs hP hD hS => ?_)
        have hP := w_pE (wR_s7 a k _ (cu_N u 2) n (Nat.lt_trans (m := 200) hC (by decide))) hP
        have hD := w_dE (wR_s7 a k _ (cu_N u 2) n (Nat.lt_trans (m := 200) hC (by decide))) hD
        refine lv_aload_n hx hb dX6_drop_76 rfl (lv_at hl 0 rfl) ?_
        refine va_get (D := (dC, dI)) (ci := 6) (v := .ref (a 13)) (C := RX6) (T := TX6) (N := 20) hx hb htg inX6 hown hK hP 0 (wR_g0 a k _) rfl 17 (by decide) (htg _ q_598) (fun _ h9 => h9) rfl dX6_drop_77 ?_
        refine lv_aload_n hx hb dX6_drop_80 rfl (lv_at hl 0 rfl) ?_
        refine va_get (D := (dC, dI)) (ci := 6) (v := .int (nI (cu_N (cs_F (cs_B (cs_N u 4 (m_code false false false)) 0 n true) 6 (cu_N u 2) n) 2))) (C := RX6) (T := TX6) (N := 20) hx hb htg inX6 hown hK hP 0 (wR_g0 a k _) rfl 15 (by decide) (htg _ q_596) (fun _ h9 => h9) rfl dX6_drop_81 ?_
        refine wtopi (y := nI (cu_N u 2)) rfl ?_
        refine lv_aload_n hx hb dX6_drop_84 rfl (lv_at hl 0 rfl) ?_
        refine lv_iload_n hx hb dX6_drop_85 rfl (lv_at hl 1 rfl) ?_
        refine vp_callSi (W.runV (As := [.int (nI n)]) (rest := [.int (nI (cu_N u 2)), .ref (a 13)]) ⟨hx, hb, hml, hown, hts⟩ (c_X6_sumOf l dC dI a k (cs_F (cs_B (cs_N u 4 (m_code false false false)) 0 n true) 6 (cu_N u 2) n) n (by omega) hn2.2.2.2.1) (cwV 1 hts (wG_V wG_c q_658 q_660 p_8 q_7 q_661) rfl rfl rfl (by decide +kernel) ⟨Nat.le_of_ble_eq_true rfl, Nat.le_of_ble_eq_true rfl⟩) (w_roV hK hP (ci := 6) (q0 := 0) rfl (wR_g0 a k _) rfl) rfl rfl hl.1 rfl (lv_room (Nat.le_of_ble_eq_true rfl)) dX6_drop_86 ⟨Nat.le_of_ble_eq_true rfl, Nat.le_of_ble_eq_true rfl⟩) (fun r_5 hr_5 => ?_)
        subst hr_5
        refine va_iast hx hb hK hP hD hS 13 0 (wR_g13 a k _) rfl (vp_in_nI (n := (cu_N u 2)) (N := 200) hC (by decide)) dX6_drop_89 (fun H locs hP hD hS => ?_)
        have hP := w_pE (wR_s13 a k _ (cu_N u 2) (m_sm (fun i => cu_G u 2 (8 * n + i)) 0 (cu_F u 2 n)) (Nat.lt_trans (m := 200) hC (by decide))) hP
        have hD := w_dE (wR_s13 a k _ (cu_N u 2) (m_sm (fun i => cu_G u 2 (8 * n + i)) 0 (cu_F u 2 n)) (Nat.lt_trans (m := 200) hC (by decide))) hD
        refine lv_aload_n hx hb dX6_drop_90 rfl (lv_at hl 0 rfl) ?_
        refine lv_dup hx hb dX6_drop_91 rfl ?_
        refine va_get (D := (dC, dI)) (ci := 6) (v := .int (nI (cu_N (cs_G (cs_F (cs_B (cs_N u 4 (m_code false false false)) 0 n true) 6 (cu_N u 2) n) 1 (cu_N u 2) (m_sm (fun i => cu_G u 2 (8 * n + i)) 0 (cu_F u 2 n))) 2))) (C := RX6) (T := TX6) (N := 20) hx hb htg inX6 hown hK hP 0 (wR_g0 a k _) rfl 15 (by decide) (htg _ q_596) (fun _ h9 => h9) rfl dX6_drop_92 ?_
        refine lv_iconst (v := 1) hx hb dX6_drop_95 (by decide) ?_
        refine lv_iadd hx hb dX6_drop_96 ?_
        refine wtopi (y := nI (cu_N u 2 + 1)) (nI_1 (cu_N u 2)) ?_
        refine va_put (D := (dC, dI)) (ci := 6) (v := .int (nI (cu_N u 2 + 1))) (ty := .int) (C := RX6) (T := TX6) (N := 20) hx hb htg inX6 tyX6 tyX6_ok nmX6 hown hK hP hD hS 0 (wR_g0 a k _) rfl 15 (by decide) (htg _ q_596) (fun _ h9 => h9) rfl (by decide +kernel) rfl rfl (Nat.le_of_ble_eq_true rfl) dX6_drop_97 (fun H locs hP hD hS => ?_)
        have hP := w_pE (wR_n2 a k _ (cu_N u 2 + 1)) hP
        have hD := w_dE (wR_n2 a k _ (cu_N u 2 + 1)) hD
        refine lv_aload_n hx hb dX6_drop_100 rfl (lv_at hl 0 rfl) ?_
        refine va_get (D := (dC, dI)) (ci := 6) (v := .int (nI (cu_N (cs_N (cs_G (cs_F (cs_B (cs_N u 4 (m_code false false false)) 0 n true) 6 (cu_N u 2) n) 1 (cu_N u 2) (m_sm (fun i => cu_G u 2 (8 * n + i)) 0 (cu_F u 2 n))) 2 (cu_N u 2 + 1)) 2))) (C := RX6) (T := TX6) (N := 20) hx hb htg inX6 hown hK hP 0 (wR_g0 a k _) rfl 15 (by decide) (htg _ q_596) (fun _ h9 => h9) rfl dX6_drop_101 ?_
        refine wtopi (y := nI (cu_N u 2 + 1)) rfl ?_
        refine lv_iconst (v := 1) hx hb dX6_drop_104 (by decide) ?_
        refine lv_isub hx hb dX6_drop_105 ?_
        refine wtopi (y := nI (cu_N u 2)) (pk_sub (a := cu_N u 2 + 1) (b := 1) (by omega)) ?_
        exact W.iret (v := nI (cu_N u 2)) hx hb hr (fun t9 ht9 hW9 => ⟨⟨_, cs_N (cs_G (cs_F (cs_B (cs_N u 4 (m_code false false false)) 0 n true) 6 (cu_N u 2) n) 1 (cu_N u 2) (m_sm (fun i => cu_G u 2 (8 * n + i)) 0 (cu_F u 2 n))) 2 (cu_N u 2 + 1), rfl, ⟨fun h9 => absurd (by simp [m_code, c_6, c_28, c_42, et9]) h9, fun _ => ⟨n, h_n, rfl, c_28, c_42, rfl, rfl⟩⟩, by rw [ht9]; exact hP, va_K.moved hW9.alike hK, hD⟩, hS.F ht9⟩) hS.2.2 dX6_drop_106
      · refine lv_iconst (v := 1) hx hb dX6_drop_45 (by decide) ?_
        refine lv_goto (tgt := 50) hx hb dX6_drop_46 (by decide) ?_
        refine lv_iconst (v := 0) hx hb dX6_drop_50 (by decide) ?_
        refine w_cali (w := wR a k) (va_runV (As := [.int 0, .int 1, .int 0]) (rest := []) ⟨hx, hb, hml, hown, hts⟩ (c_X6_throwing l dC dI a k u _ false true false) (cwV 3 hts (wG_V wG_c q_654 q_656 p_7 q_7 q_657) rfl rfl rfl (by decide +kernel) ⟨Nat.le_of_ble_eq_true rfl, Nat.le_of_ble_eq_true rfl⟩) (w_muV hK hP hD (ci := 6) (q0 := 0) rfl (wR_g0 a k _) rfl) rfl rfl hl.1 rfl (lv_room (Nat.le_of_ble_eq_true rfl)) dX6_drop_51 ⟨Nat.le_of_ble_eq_true rfl, Nat.le_of_ble_eq_true rfl⟩) hD hS hA (fun r_6 u_6 H locs hq_6 hP hD hS => ?_)
        obtain ⟨er9, eu9⟩ := hq_6
        subst er9 eu9
        refine wtopi (1) rfl ?_
        refine lv_if_eq (tgt := 59) hx hb dX6_drop_54 (by decide) (fun h9 => absurd h9 (by decide)) (fun _ => ?_)
        refine lv_iconst (v := 0) hx hb dX6_drop_57 (by decide) ?_
        exact W.iret (v := 0) hx hb hr (fun t9 ht9 hW9 => ⟨⟨_, cs_N u 4 (m_code false true false), rfl, ⟨fun _ => congrArg (cs_N u 4) (by simp [c_6, c_28, c_42, et9]), fun h9 => absurd h9 (by simp [m_code, c_6, c_28, c_42, et9])⟩, by rw [ht9]; exact hP, va_K.moved hW9.alike hK, hD⟩, hS.F ht9⟩) hS.2.2 dX6_drop_58
  · refine lv_iconst (v := 1) hx hb dX6_drop_9 (by decide) ?_
    refine lv_goto (tgt := 14) hx hb dX6_drop_10 (by decide) ?_
    refine lv_aload_n hx hb dX6_drop_14 rfl (lv_at hl 0 rfl) ?_
    refine lv_iload_n hx hb dX6_drop_15 rfl (lv_at hl 1 rfl) ?_
    refine vp_callSi (W.runV (As := [.int p0]) (rest := [.int 1, .ref (a 0)]) ⟨hx, hb, hml, hown, hts⟩ (c_X6_isSlot l dC dI a k u h20 p0) (cwV 1 hts (wG_V wG_c q_714 q_716 p_16 q_7 q_717) rfl rfl rfl (by decide +kernel) ⟨Nat.le_of_ble_eq_true rfl, Nat.le_of_ble_eq_true rfl⟩) (w_roV hK hP (ci := 6) (q0 := 0) rfl (wR_g0 a k _) rfl) rfl rfl hl.1 rfl (lv_room (Nat.le_of_ble_eq_true rfl)) dX6_drop_16 ⟨Nat.le_of_ble_eq_true rfl, Nat.le_of_ble_eq_true rfl⟩) (fun r_7 hr_7 => ?_)
    subst hr_7
    refine wtopi (0) (by rw [c_6]; rfl) ?_
    refine lv_if_eq (tgt := 49) hx hb dX6_drop_19 (by decide) (fun _ => ?_) (fun h9 => absurd h9 (by decide))
    refine lv_iconst (v := 0) hx hb dX6_drop_49 (by decide) ?_
    refine lv_iconst (v := 0) hx hb dX6_drop_50 (by decide) ?_
    refine w_cali (w := wR a k) (va_runV (As := [.int 1, .int 0, .int 0]) (rest := []) ⟨hx, hb, hml, hown, hts⟩ (c_X6_throwing l dC dI a k u _ true false false) (cwV 3 hts (wG_V wG_c q_654 q_656 p_7 q_7 q_657) rfl rfl rfl (by decide +kernel) ⟨Nat.le_of_ble_eq_true rfl, Nat.le_of_ble_eq_true rfl⟩) (w_muV hK hP hD (ci := 6) (q0 := 0) rfl (wR_g0 a k _) rfl) rfl rfl hl.1 rfl (lv_room (Nat.le_of_ble_eq_true rfl)) dX6_drop_51 ⟨Nat.le_of_ble_eq_true rfl, Nat.le_of_ble_eq_true rfl⟩) hD hS hA (fun r_8 u_8 H locs hq_8 hP hD hS => ?_)
    obtain ⟨er9, eu9⟩ := hq_8
    subst er9 eu9
    refine wtopi (1) rfl ?_
    refine lv_if_eq (tgt := 59) hx hb dX6_drop_54 (by decide) (fun h9 => absurd h9 (by decide)) (fun _ => ?_)
    refine lv_iconst (v := 0) hx hb dX6_drop_57 (by decide) ?_
    exact W.iret (v := 0) hx hb hr (fun t9 ht9 hW9 => ⟨⟨_, cs_N u 4 (m_code true false false), rfl, ⟨fun _ => congrArg (cs_N u 4) (by simp [c_6]), fun h9 => absurd h9 (by simp [m_code, c_6])⟩, by rw [ht9]; exact hP, va_K.moved hW9.alike hK, hD⟩, hS.F ht9⟩) hS.2.2 dX6_drop_58
set_option maxHeartbeats 4000000 in
set_option maxRecDepth 100000 in
theorem c_X6_certificate (l : Launch) (dC : Nat → ClassId) (dI : Nat → Nat → Nat) (a : Nat → Nat) (k : c_K) (u : c_St) (sz : Nat) (hC : cu_N u 2 ≤ 200) (hF : ∀ j, j < cu_N u 2 → cu_F u 6 j < 200) (p0 p1 : Int32) : Met l yX6_certificate wsX6_certificate ({ frames := 1, cells := 0, slots := 0, locals := 23 }) (va_Pc [.ref (a 0), .int p0, .int p1] (w_mu (dC, dI) vwCl (wR a k u) (tC k) sz)) (va_Qi (fun (r : Int32) (u1 : c_St) => u1 = cs_N u 4 (m_code (!isS (cu_N u 2) p0 || !inR p1 0 2) false false) ∧ (m_code (!isS (cu_N u 2) p0 || !inR p1 0 2) false false = 0 → ∃ c9 w9 : Nat, c9 < cu_N u 2 ∧ w9 ≤ 2 ∧ p0 = nI c9 ∧ p1 = nI w9 ∧ r = (if w9 = 0 then nI (cu_F u 6 c9) else if w9 = 1 then cu_G u 0 (cu_F u 6 c9) else cu_G u 1 c9))) (w_at (dC, dI) vwCl (wR a k) (tC k) (va_A (wR a k u) sz)) (va_A (wR a k u) sz)) 0 0 (va_A (wR a k u) sz) := by
  refine Met.ofW (cc := cX6_certificate) (maxL := 3) (ret := (some .int)) (by decide) rfl ?_
  intro p e s m args below meth c s₁ B hml hv
  obtain ⟨rfl, hsz, hP, hK, hD0⟩ := hv
  have hx := B.exec
  have hb := B.bytes
  have hr := B.returns
  have hts := atoms_spec (ws := wsX6_certificate) B.pre
  have htg : ∀ w ∈ wG, w.before _ s = true := fun w h => hts w (List.mem_cons_of_mem _ h)
  have hown : s.vm.findClass RX6 = some m.cls := findClass_of_methodNamed B.named
  have hlocks := B.notSynchronized
  subst hsz
  have hD := hD0.self (sz := s.heap.size)
  generalize hAe : va_A (wR a k u) s.heap.size = A at hD ⊢
  have hA : ∀ q : Nat, s.heap.size ≤ q → A q := fun q h => by rw [← hAe]; exact Or.inr h
  have hS : va_S A s.heap s.heap [] := va_S.rf
  have hl := lv_entry ([.ref (a 0), .int p0, .int p1]) (n := 3) (Nat.le_of_ble_eq_true rfl)
  rw [lg_entry_eq]
  generalize (lg_sl ([.ref (a 0), .int p0, .int p1]) ++ List.replicate (3 - (lg_sl ([.ref (a 0), .int p0, .int p1])).length) Slot.unset).toArray = ls at hl ⊢
  have hl : lv_has ls 3 [(0, .ref (a 0)), (1, .int p0), (2, .int p1)] := hl
  refine lv_aload_n hx hb dX6_certificate_0 rfl (lv_at hl 0 rfl) ?_
  refine lv_iload_n hx hb dX6_certificate_1 rfl (lv_at hl 1 rfl) ?_
  refine lv_iconst (v := 0) hx hb dX6_certificate_2 (by decide) ?_
  refine lv_aload_n hx hb dX6_certificate_3 rfl (lv_at hl 0 rfl) ?_
  refine va_get (D := (dC, dI)) (ci := 6) (v := .int (nI (cu_N u 2))) (C := RX6) (T := TX6) (N := 20) hx hb htg inX6 hown hK hP 0 (wR_g0 a k _) rfl 15 (by decide) (htg _ q_596) (fun _ h9 => h9) rfl dX6_certificate_4 ?_
  refine lv_iconst (v := 1) hx hb dX6_certificate_7 (by decide) ?_
  refine lv_isub hx hb dX6_certificate_8 ?_
  refine wtopi (y := iI ((cu_N u 2 : Int) - 1)) (show nI (cu_N u 2) - 1 = iI ((cu_N u 2 : Int) - 1) from by rw [nI_iI]; exact iI_sub _ 1) ?_
  refine vp_callSi (W.runS (As := [.int p0, .int 0, .int (iI ((cu_N u 2 : Int) - 1))]) (rest := [.ref (a 0)]) ⟨hx, hb, hml, hown, hts⟩ (c_X6_in l dC dI a k u p0 0 (iI ((cu_N u 2 : Int) - 1))) (cwS 3 hts (wG_S wG_c q_650 q_651 q_7 q_652) rfl rfl rfl (by decide +kernel) ⟨Nat.le_of_ble_eq_true rfl, Nat.le_of_ble_eq_true rfl⟩) (w_roS hK hP) rfl rfl hl.1 rfl (lv_room (Nat.le_of_ble_eq_true rfl)) dX6_certificate_9 ⟨Nat.le_of_ble_eq_true rfl, Nat.le_of_ble_eq_true rfl⟩) (fun r_1 hr_1 => ?_)
  subst hr_1
  refine wtopi (bI (isS (cu_N u 2) p0)) (congrArg bI (isS_eq (by omega) p0)) ?_
  refine bz_eq (a := (isS (cu_N u 2) p0)) (tgt := 24) hx hb dX6_certificate_12 (by decide) (fun c_12 => ?_) (fun c_12 => ?_)
  · refine lv_iconst (v := 1) hx hb dX6_certificate_24 (by decide) ?_
    refine lv_goto (tgt := 29) hx hb dX6_certificate_25 (by decide) ?_
    refine lv_iconst (v := 0) hx hb dX6_certificate_29 (by decide) ?_
    refine lv_iconst (v := 0) hx hb dX6_certificate_30 (by decide) ?_
    refine w_cali (w := wR a k) (va_runV (As := [.int 1, .int 0, .int 0]) (rest := []) ⟨hx, hb, hml, hown, hts⟩ (c_X6_throwing l dC dI a k u _ true false false) (cwV 3 hts (wG_V wG_c q_654 q_656 p_7 q_7 q_657) rfl rfl rfl (by decide +kernel) ⟨Nat.le_of_ble_eq_true rfl, Nat.le_of_ble_eq_true rfl⟩) (w_muV hK hP hD (ci := 6) (q0 := 0) rfl (wR_g0 a k _) rfl) rfl rfl hl.1 rfl (lv_room (Nat.le_of_ble_eq_true rfl)) dX6_certificate_31 ⟨Nat.le_of_ble_eq_true rfl, Nat.le_of_ble_eq_true rfl⟩) hD hS hA (fun r_2 u_2 H locs hq_2 hP hD hS => ?_)
    obtain ⟨er9, eu9⟩ := hq_2
    subst er9 eu9
    refine wtopi (1) rfl ?_
    refine lv_if_eq (tgt := 39) hx hb dX6_certificate_34 (by decide) (fun h9 => absurd h9 (by decide)) (fun _ => ?_)
    refine lv_iconst (v := 0) hx hb dX6_certificate_37 (by decide) ?_
    exact W.iret (v := 0) hx hb hr (fun t9 ht9 hW9 => ⟨⟨_, cs_N u 4 (m_code true false false), rfl, ⟨congrArg (cs_N u 4) (by simp [c_12]), fun h9 => absurd h9 (by simp [m_code, c_12])⟩, by rw [ht9]; exact hP, va_K.moved hW9.alike hK, hD⟩, hS.F ht9⟩) hS.2.2 dX6_certificate_38
  · refine lv_iload_n hx hb dX6_certificate_15 rfl (lv_at hl 2 rfl) ?_
    refine lv_iconst (v := 0) hx hb dX6_certificate_16 (by decide) ?_
    refine lv_iconst (v := 2) hx hb dX6_certificate_17 (by decide) ?_
    refine vp_callSi (W.runS (As := [.int p1, .int 0, .int 2]) (rest := [.ref (a 0)]) ⟨hx, hb, hml, hown, hts⟩ (c_X6_in l dC dI a k u p1 0 2) (cwS 3 hts (wG_S wG_c q_650 q_651 q_7 q_652) rfl rfl rfl (by decide +kernel) ⟨Nat.le_of_ble_eq_true rfl, Nat.le_of_ble_eq_true rfl⟩) (w_roS hK hP) rfl rfl hl.1 rfl (lv_room (Nat.le_of_ble_eq_true rfl)) dX6_certificate_18 ⟨Nat.le_of_ble_eq_true rfl, Nat.le_of_ble_eq_true rfl⟩) (fun r_3 hr_3 => ?_)
    subst hr_3
    refine bz_ne (a := (inR p1 0 2)) (tgt := 28) hx hb dX6_certificate_21 (by decide) (fun c_21 => ?_) (fun c_21 => ?_)
    · refine lv_iconst (v := 0) hx hb dX6_certificate_28 (by decide) ?_
      refine lv_iconst (v := 0) hx hb dX6_certificate_29 (by decide) ?_
      refine lv_iconst (v := 0) hx hb dX6_certificate_30 (by decide) ?_
      refine w_cali (w := wR a k) (va_runV (As := [.int 0, .int 0, .int 0]) (rest := []) ⟨hx, hb, hml, hown, hts⟩ (c_X6_throwing l dC dI a k u _ false false false) (cwV 3 hts (wG_V wG_c q_654 q_656 p_7 q_7 q_657) rfl rfl rfl (by decide +kernel) ⟨Nat.le_of_ble_eq_true rfl, Nat.le_of_ble_eq_true rfl⟩) (w_muV hK hP hD (ci := 6) (q0 := 0) rfl (wR_g0 a k _) rfl) rfl rfl hl.1 rfl (lv_room (Nat.le_of_ble_eq_true rfl)) dX6_certificate_31 ⟨Nat.le_of_ble_eq_true rfl, Nat.le_of_ble_eq_true rfl⟩) hD hS hA (fun r_4 u_4 H locs hq_4 hP hD hS => ?_)
      obtain ⟨er9, eu9⟩ := hq_4
      subst er9 eu9
      refine wtopi (0) rfl ?_
      refine lv_if_eq (tgt := 39) hx hb dX6_certificate_34 (by decide) (fun _ => ?_) (fun h9 => absurd h9 (by decide))
      obtain ⟨c9, h_c9, e_c9⟩ := isS_of (n := (cu_N u 2)) (by omega) c_12
      subst e_c9
      obtain ⟨w9, l_w9, h_w9, e_w9⟩ := inR_nat (l9 := 0) (h9 := 2) c_21 rfl rfl (by decide)
      subst e_w9
      have hFc := hF c9 h_c9
      refine lv_iload_n hx hb dX6_certificate_39 rfl (lv_at hl 2 rfl) ?_
      refine iz_ne (a := ((w9 : Nat) : Int)) (tgt := 52) hx hb (by omega) (by omega) (nI_iI _) dX6_certificate_40 (by decide) (fun c_40 => ?_) (fun c_40 => ?_)
      · have c_40 : w9 ≠ 0 := by omega
        refine lv_iload_n hx hb dX6_certificate_52 rfl (lv_at hl 2 rfl) ?_
        refine lv_iconst (v := 1) hx hb dX6_certificate_53 (by decide) ?_
        refine nb_ne (a := w9) (b := 1) (tgt := 71) hx hb (by omega) (by omega) rfl rfl dX6_certificate_54 (by decide) (fun c_54 => ?_) (fun c_54 => ?_)
        · refine lv_aload_n hx hb dX6_certificate_71 rfl (lv_at hl 0 rfl) ?_
          refine va_get (D := (dC, dI)) (ci := 6) (v := .ref (a 13)) (C := RX6) (T := TX6) (N := 20) hx hb htg inX6 hown hK hP 0 (wR_g0 a k _) rfl 17 (by decide) (htg _ q_598) (fun _ h9 => h9) rfl dX6_certificate_72 ?_
          refine lv_iload_n hx hb dX6_certificate_75 rfl (lv_at hl 1 rfl) ?_
          refine va_iald hx hb hK hP 13 0 (wR_g13 a k _) rfl (vp_in_nI (n := c9) (N := 200) (show c9 < 200 by omega) (by decide)) dX6_certificate_76 ?_
          refine wtopi (cu_G (cs_N u 4 (m_code false false false)) 1 c9) (congrArg (fun j9 => cu_G (cs_N u 4 (m_code false false false)) 1 j9) (nI_clamp (n := c9) (Nat.lt_trans (m := 200) (show c9 < 200 by omega) (by decide)))) ?_
          exact W.iret (v := cu_G (cs_N u 4 (m_code false false false)) 1 c9) hx hb hr (fun t9 ht9 hW9 => ⟨⟨_, cs_N u 4 (m_code false false false), rfl, ⟨congrArg (cs_N u 4) (by simp [c_12, c_21]), fun _ => ⟨c9, w9, h_c9, h_w9, rfl, rfl, (by rw [if_neg c_40, if_neg c_54]; rfl)⟩⟩, by rw [ht9]; exact hP, va_K.moved hW9.alike hK, hD⟩, hS.F ht9⟩) hS.2.2 dX6_certificate_77
        · refine lv_aload_n hx hb dX6_certificate_57 rfl (lv_at hl 0 rfl) ?_
          refine va_get (D := (dC, dI)) (ci := 6) (v := .ref (a 12)) (C := RX6) (T := TX6) (N := 20) hx hb htg inX6 hown hK hP 0 (wR_g0 a k _) rfl 8 (by decide) (htg _ q_589) (fun _ h9 => h9) rfl dX6_certificate_58 ?_
          refine lv_aload_n hx hb dX6_certificate_61 rfl (lv_at hl 0 rfl) ?_
          refine va_get (D := (dC, dI)) (ci := 6) (v := .ref (a 7)) (C := RX6) (T := TX6) (N := 20) hx hb htg inX6 hown hK hP 0 (wR_g0 a k _) rfl 16 (by decide) (htg _ q_597) (fun _ h9 => h9) rfl dX6_certificate_62 ?_
          refine lv_iload_n hx hb dX6_certificate_65 rfl (lv_at hl 1 rfl) ?_
          refine va_iald hx hb hK hP 7 0 (wR_g7 a k _) rfl (vp_in_nI (n := c9) (N := 200) (show c9 < 200 by omega) (by decide)) dX6_certificate_66 ?_
          refine wtopi (nI (cu_F (cs_N u 4 (m_code false false false)) 6 c9)) (congrArg (fun j9 => nI (cu_F (cs_N u 4 (m_code false false false)) 6 j9)) (nI_clamp (n := c9) (Nat.lt_trans (m := 200) (show c9 < 200 by omega) (by decide)))) ?_
          refine va_iald hx hb hK hP 12 0 (wR_g12 a k _) rfl (vp_in_nI (n := (cu_F (cs_N u 4 (m_code false false false)) 6 c9)) (N := 200) hFc (by decide)) dX6_certificate_67 ?_
          refine wtopi (cu_G (cs_N u 4 (m_code false false false)) 0 (cu_F (cs_N u 4 (m_code false false false)) 6 c9)) (congrArg (fun j9 => cu_G (cs_N u 4 (m_code false false false)) 0 j9) (nI_clamp (n := (cu_F (cs_N u 4 (m_code false false false)) 6 c9)) (Nat.lt_trans (m := 200) hFc (by decide)))) ?_
          refine lv_goto (tgt := 77) hx hb dX6_certificate_68 (by decide) ?_
          exact W.iret (v := cu_G (cs_N u 4 (m_code false false false)) 0 (cu_F (cs_N u 4 (m_code false false false)) 6 c9)) hx hb hr (fun t9 ht9 hW9 => ⟨⟨_, cs_N u 4 (m_code false false false), rfl, ⟨congrArg (cs_N u 4) (by simp [c_12, c_21]), fun _ => ⟨c9, w9, h_c9, h_w9, rfl, rfl, (by rw [if_neg c_40, if_pos c_54]; rfl)⟩⟩, by rw [ht9]; exact hP, va_K.moved hW9.alike hK, hD⟩, hS.F ht9⟩) hS.2.2 dX6_certificate_77
      · have c_40 : w9 = 0 := by omega
        refine lv_aload_n hx hb dX6_certificate_43 rfl (lv_at hl 0 rfl) ?_
        refine va_get (D := (dC, dI)) (ci := 6) (v := .ref (a 7)) (C := RX6) (T := TX6) (N := 20) hx hb htg inX6 hown hK hP 0 (wR_g0 a k _) rfl 16 (by decide) (htg _ q_597) (fun _ h9 => h9) rfl dX6_certificate_44 ?_
        refine lv_iload_n hx hb dX6_certificate_47 rfl (lv_at hl 1 rfl) ?_
        refine va_iald hx hb hK hP 7 0 (wR_g7 a k _) rfl (vp_in_nI (n := c9) (N := 200) (show c9 < 200 by omega) (by decide)) dX6_certificate_48 ?_
        refine wtopi (nI (cu_F (cs_N u 4 (m_code false false false)) 6 c9)) (congrArg (fun j9 => nI (cu_F (cs_N u 4 (m_code false false false)) 6 j9)) (nI_clamp (n := c9) (Nat.lt_trans (m := 200) (show c9 < 200 by omega) (by decide)))) ?_
        refine lv_goto (tgt := 77) hx hb dX6_certificate_49 (by decide) ?_
        exact W.iret (v := nI (cu_F (cs_N u 4 (m_code false false false)) 6 c9)) hx hb hr (fun t9 ht9 hW9 => ⟨⟨_, cs_N u 4 (m_code false false false), rfl, ⟨congrArg (cs_N u 4) (by simp [c_12, c_21]), fun _ => ⟨c9, w9, h_c9, h_w9, rfl, rfl, (by rw [if_pos c_40]; rfl)⟩⟩, by rw [ht9]; exact hP, va_K.moved hW9.alike hK, hD⟩, hS.F ht9⟩) hS.2.2 dX6_certificate_77
    · refine lv_iconst (v := 1) hx hb dX6_certificate_24 (by decide) ?_
      refine lv_goto (tgt := 29) hx hb dX6_certificate_25 (by decide) ?_
      refine lv_iconst (v := 0) hx hb dX6_certificate_29 (by decide) ?_
      refine lv_iconst (v := 0) hx hb dX6_certificate_30 (by decide) ?_
      refine w_cali (w := wR a k) (va_runV (As := [.int 1, .int 0, .int 0]) (rest := []) ⟨hx, hb, hml, hown, hts⟩ (c_X6_throwing l dC dI a k u _ true false false) (cwV 3 hts (wG_V wG_c q_654 q_656 p_7 q_7 q_657) rfl rfl rfl (by decide +kernel) ⟨Nat.le_of_ble_eq_true rfl, Nat.le_of_ble_eq_true rfl⟩) (w_muV hK hP hD (ci := 6) (q0 := 0) rfl (wR_g0 a k _) rfl) rfl rfl hl.1 rfl (lv_room (Nat.le_of_ble_eq_true rfl)) dX6_certificate_31 ⟨Nat.le_of_ble_eq_true rfl, Nat.le_of_ble_eq_true rfl⟩) hD hS hA (fun r_5 u_5 H locs hq_5 hP hD hS => ?_)
      obtain ⟨er9, eu9⟩ := hq_5
      subst er9 eu9
      refine wtopi (1) rfl ?_
      refine lv_if_eq (tgt := 39) hx hb dX6_certificate_34 (by decide) (fun h9 => absurd h9 (by decide)) (fun _ => ?_)
      refine lv_iconst (v := 0) hx hb dX6_certificate_37 (by decide) ?_
      exact W.iret (v := 0) hx hb hr (fun t9 ht9 hW9 => ⟨⟨_, cs_N u 4 (m_code true false false), rfl, ⟨congrArg (cs_N u 4) (by simp [c_12, c_21]), fun h9 => absurd h9 (by simp [m_code, c_12, c_21])⟩, by rw [ht9]; exact hP, va_K.moved hW9.alike hK, hD⟩, hS.F ht9⟩) hS.2.2 dX6_certificate_38
set_option maxHeartbeats 4000000 in
set_option maxRecDepth 100000 in
theorem c_X6_right (l : Launch) (dC : Nat → ClassId) (dI : Nat → Nat → Nat) (a : Nat → Nat) (k : c_K) (u : c_St) (sz : Nat) (p0 p1 : Int32) (on : Bool) : Met l yX6_right wsX6_right ({ frames := 1, cells := 0, slots := 0, locals := 23 }) (va_Pc [.ref (a 0), .int p0, .int p1, .int (bI on)] (w_mu (dC, dI) vwCl (wR a k u) (tC k) sz)) (va_Qv (fun (u1 : c_St) => (m_code (!inR p0 0 19 || !inR p1 0 49) false false ≠ 0 → u1 = cs_N u 4 (m_code (!inR p0 0 19 || !inR p1 0 49) false false)) ∧ (m_code (!inR p0 0 19 || !inR p1 0 49) false false = 0 → ∃ ps ic : Nat, p0 = nI ps ∧ p1 = nI ic ∧ ps ≤ 19 ∧ ic ≤ 49 ∧ u1 = cs_B (cs_N u 4 0) 2 (50 * ps + ic) on)) (w_at (dC, dI) vwCl (wR a k) (tC k) (va_A (wR a k u) sz)) (va_A (wR a k u) sz)) 0 0 (va_A (wR a k u) sz) := by
  refine Met.ofW (cc := cX6_right) (maxL := 4) (ret := none) (by decide) rfl ?_
  intro p e s m args below meth c s₁ B hml hv
  obtain ⟨rfl, hsz, hP, hK, hD0⟩ := hv
  have hx := B.exec
  have hb := B.bytes
  have hr := B.returns
  have hts := atoms_spec (ws := wsX6_right) B.pre
  have htg : ∀ w ∈ wG, w.before _ s = true := fun w h => hts w (List.mem_cons_of_mem _ h)
  have hown : s.vm.findClass RX6 = some m.cls := findClass_of_methodNamed B.named
  have hlocks := B.notSynchronized
  subst hsz
  have hD := hD0.self (sz := s.heap.size)
  generalize hAe : va_A (wR a k u) s.heap.size = A at hD ⊢
  have hA : ∀ q : Nat, s.heap.size ≤ q → A q := fun q h => by rw [← hAe]; exact Or.inr h
  have hS : va_S A s.heap s.heap [] := va_S.rf
  have hl := lv_entry ([.ref (a 0), .int p0, .int p1, .int (bI on)]) (n := 4) (Nat.le_of_ble_eq_true rfl)
  rw [lg_entry_eq]
  generalize (lg_sl ([.ref (a 0), .int p0, .int p1, .int (bI on)]) ++ List.replicate (4 - (lg_sl ([.ref (a 0), .int p0, .int p1, .int (bI on)])).length) Slot.unset).toArray = ls at hl ⊢
  have hl : lv_has ls 4 [(0, .ref (a 0)), (1, .int p0), (2, .int p1), (3, .int (bI on))] := hl
  refine lv_aload_n hx hb dX6_right_0 rfl (lv_at hl 0 rfl) ?_
  refine lv_iload_n hx hb dX6_right_1 rfl (lv_at hl 1 rfl) ?_
  refine lv_iconst (v := 0) hx hb dX6_right_2 (by decide) ?_
  refine lv_bipush (v := 19) hx hb dX6_right_3 (by decide) ?_
  refine vp_callSi (W.runS (As := [.int p0, .int 0, .int 19]) (rest := [.ref (a 0)]) ⟨hx, hb, hml, hown, hts⟩ (c_X6_in l dC dI a k u p0 0 19) (cwS 3 hts (wG_S wG_c q_650 q_651 q_7 q_652) rfl rfl rfl (by decide +kernel) ⟨Nat.le_of_ble_eq_true rfl, Nat.le_of_ble_eq_true rfl⟩) (w_roS hK hP) rfl rfl hl.1 rfl (lv_room (Nat.le_of_ble_eq_true rfl)) dX6_right_5 ⟨Nat.le_of_ble_eq_true rfl, Nat.le_of_ble_eq_true rfl⟩) (fun r_1 hr_1 => ?_)
  subst hr_1
  refine bz_eq (a := (inR p0 0 19)) (tgt := 21) hx hb dX6_right_8 (by decide) (fun c_8 => ?_) (fun c_8 => ?_)
  · refine lv_iconst (v := 1) hx hb dX6_right_21 (by decide) ?_
    refine lv_goto (tgt := 26) hx hb dX6_right_22 (by decide) ?_
    refine lv_iconst (v := 0) hx hb dX6_right_26 (by decide) ?_
    refine lv_iconst (v := 0) hx hb dX6_right_27 (by decide) ?_
    refine w_cali (w := wR a k) (va_runV (As := [.int 1, .int 0, .int 0]) (rest := []) ⟨hx, hb, hml, hown, hts⟩ (c_X6_throwing l dC dI a k u _ true false false) (cwV 3 hts (wG_V wG_c q_654 q_656 p_7 q_7 q_657) rfl rfl rfl (by decide +kernel) ⟨Nat.le_of_ble_eq_true rfl, Nat.le_of_ble_eq_true rfl⟩) (w_muV hK hP hD (ci := 6) (q0 := 0) rfl (wR_g0 a k _) rfl) rfl rfl hl.1 rfl (lv_room (Nat.le_of_ble_eq_true rfl)) dX6_right_28 ⟨Nat.le_of_ble_eq_true rfl, Nat.le_of_ble_eq_true rfl⟩) hD hS hA (fun r_2 u_2 H locs hq_2 hP hD hS => ?_)
    obtain ⟨er9, eu9⟩ := hq_2
    subst er9 eu9
    refine wtopi (1) rfl ?_
    refine lv_if_eq (tgt := 35) hx hb dX6_right_31 (by decide) (fun h9 => absurd h9 (by decide)) (fun _ => ?_)
    exact W.vret hx hb hr (fun t9 ht9 hW9 => ⟨⟨cs_N u 4 (m_code true false false), rfl, ⟨fun _ => congrArg (cs_N u 4) (by simp [c_8]), fun h9 => absurd h9 (by simp [m_code, c_8])⟩, by rw [ht9]; exact hP, va_K.moved hW9.alike hK, hD⟩, hS.F ht9⟩) hS.2.2 dX6_right_34
  · refine lv_iload_n hx hb dX6_right_11 rfl (lv_at hl 2 rfl) ?_
    refine lv_iconst (v := 0) hx hb dX6_right_12 (by decide) ?_
    refine lv_bipush (v := 49) hx hb dX6_right_13 (by decide) ?_
    refine vp_callSi (W.runS (As := [.int p1, .int 0, .int 49]) (rest := [.ref (a 0)]) ⟨hx, hb, hml, hown, hts⟩ (c_X6_in l dC dI a k u p1 0 49) (cwS 3 hts (wG_S wG_c q_650 q_651 q_7 q_652) rfl rfl rfl (by decide +kernel) ⟨Nat.le_of_ble_eq_true rfl, Nat.le_of_ble_eq_true rfl⟩) (w_roS hK hP) rfl rfl hl.1 rfl (lv_room (Nat.le_of_ble_eq_true rfl)) dX6_right_15 ⟨Nat.le_of_ble_eq_true rfl, Nat.le_of_ble_eq_true rfl⟩) (fun r_3 hr_3 => ?_)
    subst hr_3
    refine bz_ne (a := (inR p1 0 49)) (tgt := 25) hx hb dX6_right_18 (by decide) (fun c_18 => ?_) (fun c_18 => ?_)
    · refine lv_iconst (v := 0) hx hb dX6_right_25 (by decide) ?_
      refine lv_iconst (v := 0) hx hb dX6_right_26 (by decide) ?_
      refine lv_iconst (v := 0) hx hb dX6_right_27 (by decide) ?_
      refine w_cali (w := wR a k) (va_runV (As := [.int 0, .int 0, .int 0]) (rest := []) ⟨hx, hb, hml, hown, hts⟩ (c_X6_throwing l dC dI a k u _ false false false) (cwV 3 hts (wG_V wG_c q_654 q_656 p_7 q_7 q_657) rfl rfl rfl (by decide +kernel) ⟨Nat.le_of_ble_eq_true rfl, Nat.le_of_ble_eq_true rfl⟩) (w_muV hK hP hD (ci := 6) (q0 := 0) rfl (wR_g0 a k _) rfl) rfl rfl hl.1 rfl (lv_room (Nat.le_of_ble_eq_true rfl)) dX6_right_28 ⟨Nat.le_of_ble_eq_true rfl, Nat.le_of_ble_eq_true rfl⟩) hD hS hA (fun r_4 u_4 H locs hq_4 hP hD hS => ?_)
      obtain ⟨er9, eu9⟩ := hq_4
      subst er9 eu9
      refine wtopi (0) rfl ?_
      refine lv_if_eq (tgt := 35) hx hb dX6_right_31 (by decide) (fun _ => ?_) (fun h9 => absurd h9 (by decide))
      obtain ⟨ps, l_ps, h_ps, e_ps⟩ := inR_nat (l9 := 0) (h9 := 19) c_8 rfl rfl (by decide)
      subst e_ps
      obtain ⟨ic, l_ic, h_ic, e_ic⟩ := inR_nat (l9 := 0) (h9 := 49) c_18 rfl rfl (by decide)
      subst e_ic
      refine lv_aload_n hx hb dX6_right_35 rfl (lv_at hl 0 rfl) ?_
      refine va_get (D := (dC, dI)) (ci := 6) (v := .ref (a 11)) (C := RX6) (T := TX6) (N := 20) hx hb htg inX6 hown hK hP 0 (wR_g0 a k _) rfl 14 (by decide) (htg _ q_595) (fun _ h9 => h9) rfl dX6_right_36 ?_
      refine lv_bipush (v := 50) hx hb dX6_right_39 (by decide) ?_
      refine lv_iload_n hx hb dX6_right_41 rfl (lv_at hl 1 rfl) ?_
      refine lv_imul hx hb dX6_right_42 ?_
      refine wtopi (y := nI (50 * ps)) (pk_mul 50 ps) ?_
      refine lv_iload_n hx hb dX6_right_43 rfl (lv_at hl 2 rfl) ?_
      refine lv_iadd hx hb dX6_right_44 ?_
      refine wtopi (y := nI (50 * ps + ic)) (nI_add _ _) ?_
      refine lv_iload_n hx hb dX6_right_45 rfl (lv_at hl 3 rfl) ?_
      refine va_zast hx hb hK hP hD hS 11 2 (wR_g11 a k _) rfl (vp_in_nI (n := (50 * ps + ic)) (N := 1000) (show 50 * ps + ic < 1000 by omega) (by decide)) dX6_right_46 (fun H locs hP hD hS => ?_)
      have hP := w_pE (wR_s11 a k _ (50 * ps + ic) on (Nat.lt_trans (m := 1000) (show 50 * ps + ic < 1000 by omega) (by decide))) hP
      have hD := w_dE (wR_s11 a k _ (50 * ps + ic) on (Nat.lt_trans (m := 1000) (show 50 * ps + ic < 1000 by omega) (by decide))) hD
      exact W.vret hx hb hr (fun t9 ht9 hW9 => ⟨⟨cs_B (cs_N u 4 (m_code false false false)) 2 (50 * ps + ic) on, rfl, ⟨fun h9 => absurd (by simp [m_code, c_8, c_18]) h9, fun _ => ⟨ps, ic, rfl, rfl, h_ps, h_ic, rfl⟩⟩, by rw [ht9]; exact hP, va_K.moved hW9.alike hK, hD⟩, hS.F ht9⟩) hS.2.2 dX6_right_47
    · refine lv_iconst (v := 1) hx hb dX6_right_21 (by decide) ?_
      refine lv_goto (tgt := 26) hx hb dX6_right_22 (by decide) ?_
      refine lv_iconst (v := 0) hx hb dX6_right_26 (by decide) ?_
      refine lv_iconst (v := 0) hx hb dX6_right_27 (by decide) ?_
      refine w_cali (w := wR a k) (va_runV (As := [.int 1, .int 0, .int 0]) (rest := []) ⟨hx, hb, hml, hown, hts⟩ (c_X6_throwing l dC dI a k u _ true false false) (cwV 3 hts (wG_V wG_c q_654 q_656 p_7 q_7 q_657) rfl rfl rfl (by decide +kernel) ⟨Nat.le_of_ble_eq_true rfl, Nat.le_of_ble_eq_true rfl⟩) (w_muV hK hP hD (ci := 6) (q0 := 0) rfl (wR_g0 a k _) rfl) rfl rfl hl.1 rfl (lv_room (Nat.le_of_ble_eq_true rfl)) dX6_right_28 ⟨Nat.le_of_ble_eq_true rfl, Nat.le_of_ble_eq_true rfl⟩) hD hS hA (fun r_5 u_5 H locs hq_5 hP hD hS => ?_)
      obtain ⟨er9, eu9⟩ := hq_5
      subst er9 eu9
      refine wtopi (1) rfl ?_
      refine lv_if_eq (tgt := 35) hx hb dX6_right_31 (by decide) (fun h9 => absurd h9 (by decide)) (fun _ => ?_)
      exact W.vret hx hb hr (fun t9 ht9 hW9 => ⟨⟨cs_N u 4 (m_code true false false), rfl, ⟨fun _ => congrArg (cs_N u 4) (by simp [c_8, c_18]), fun h9 => absurd h9 (by simp [m_code, c_8, c_18])⟩, by rw [ht9]; exact hP, va_K.moved hW9.alike hK, hD⟩, hS.F ht9⟩) hS.2.2 dX6_right_34
set_option maxHeartbeats 4000000 in
set_option maxRecDepth 100000 in
theorem c_X6_verify (l : Launch) (dC : Nat → ClassId) (dI : Nat → Nat → Nat) (a : Nat → Nat) (k : c_K) (u : c_St) (sz : Nat) (h : m_ok u) : Met l yX6_verify wsX6_verify ({ frames := 2, cells := 0, slots := 0, locals := 45 }) (va_Pc [.ref (a 0)] (w_mu (dC, dI) vwCl (wR a k u) (tC k) sz)) (va_Qi (fun (r : Int32) (u1 : c_St) => u1 = cs_N u 4 0 ∧ r = iI (m_vf u1 (cu_N u1 0))) (w_at (dC, dI) vwCl (wR a k) (tC k) (va_A (wR a k u) sz)) (va_A (wR a k u) sz)) 0 0 (va_A (wR a k u) sz) := by
  refine Met.ofW (cc := cX6_verify) (maxL := 2) (ret := (some .int)) (by decide) rfl ?_
  intro p e s m args below meth c s₁ B hml hv
  obtain ⟨rfl, hsz, hP, hK, hD0⟩ := hv
  have hx := B.exec
  have hb := B.bytes
  have hr := B.returns
  have hts := atoms_spec (ws := wsX6_verify) B.pre
  have htg : ∀ w ∈ wG, w.before _ s = true := fun w h => hts w (List.mem_cons_of_mem _ h)
  have hown : s.vm.findClass RX6 = some m.cls := findClass_of_methodNamed B.named
  have hlocks := B.notSynchronized
  subst hsz
  have hD := hD0.self (sz := s.heap.size)
  generalize hAe : va_A (wR a k u) s.heap.size = A at hD ⊢
  have hA : ∀ q : Nat, s.heap.size ≤ q → A q := fun q h => by rw [← hAe]; exact Or.inr h
  have hS : va_S A s.heap s.heap [] := va_S.rf
  have hl := lv_entry ([.ref (a 0)]) (n := 2) (Nat.le_of_ble_eq_true rfl)
  rw [lg_entry_eq]
  generalize (lg_sl ([.ref (a 0)]) ++ List.replicate (2 - (lg_sl ([.ref (a 0)])).length) Slot.unset).toArray = ls at hl ⊢
  have hl : lv_has ls 2 [(0, .ref (a 0))] := hl
  refine lv_aload_n hx hb dX6_verify_0 rfl (lv_at hl 0 rfl) ?_
  refine lv_iconst (v := 0) hx hb dX6_verify_1 (by decide) ?_
  refine va_put (D := (dC, dI)) (ci := 6) (v := .int 0) (ty := .int) (C := RX6) (T := TX6) (N := 20) hx hb htg inX6 tyX6 tyX6_ok nmX6 hown hK hP hD hS 0 (wR_g0 a k _) rfl 0 (by decide) (htg _ q_581) (fun _ h9 => h9) rfl (by decide +kernel) rfl rfl (Nat.le_of_ble_eq_true rfl) dX6_verify_2 (fun H locs hP hD hS => ?_)
  have hP := w_pE (wR_n4 a k _ 0) hP
  have hD := w_dE (wR_n4 a k _ 0) hD
  obtain ⟨v, ev⟩ : ∃ v, v = cs_N u 4 0 := ⟨_, rfl⟩
  rw [← ev] at hP hD
  have hv : m_ok v := by rw [ev]; exact h
  have hv0 := hv.1
  refine lv_iconst (v := 0) hx hb dX6_verify_5 (by decide) ?_
  refine lv_istore_n (lv' := [(1, .int 0), (0, .ref (a 0))]) hx hb dX6_verify_6 rfl hl (by decide) rfl (fun ls hl => ?_)
  refine w_loop (fun j : Nat => cu_N v 0 - j) (fun j ls => (j ≤ cu_N v 0 ∧ m_vf v j = -1) ∧ lv_has ls 2 [(0, .ref (a 0)), (1, .int (nI j))]) ?_ (0) ls ⟨⟨Nat.zero_le _, rfl⟩, lv_sub hl [1, 0] rfl⟩
  clear hl
  intro j ls hI ih
  obtain ⟨hI, hl⟩ := hI
  refine lv_iload_n hx hb dX6_verify_7 rfl (lv_at hl 1 rfl) ?_
  refine lv_aload_n hx hb dX6_verify_8 rfl (lv_at hl 0 rfl) ?_
  refine va_get (D := (dC, dI)) (ci := 6) (v := .int (nI (cu_N v 0))) (C := RX6) (T := TX6) (N := 20) hx hb htg inX6 hown hK hP 0 (wR_g0 a k _) rfl 1 (by decide) (htg _ q_582) (fun _ h9 => h9) rfl dX6_verify_9 ?_
  refine nb_ge (a := j) (b := (cu_N v 0)) (tgt := 46) hx hb (by omega) (by omega) rfl rfl dX6_verify_12 (by decide) (fun c_12 => ?_) (fun c_12 => ?_)
  · refine lv_iconst (v := (-1)) hx hb dX6_verify_46 (by decide) ?_
    exact W.iret (v := (-1)) hx hb hr (fun t9 ht9 hW9 => ⟨⟨_, v, rfl, ⟨ev, by rw [show cu_N v 0 = j by omega, hI.2]; rfl⟩, by rw [ht9]; exact hP, va_K.moved hW9.alike hK, hD⟩, hS.F ht9⟩) hS.2.2 dX6_verify_47
  · refine lv_aload_n hx hb dX6_verify_15 rfl (lv_at hl 0 rfl) ?_
    refine va_get (D := (dC, dI)) (ci := 6) (v := .ref (a 9)) (C := RX6) (T := TX6) (N := 20) hx hb htg inX6 hown hK hP 0 (wR_g0 a k _) rfl 9 (by decide) (htg _ q_590) (fun _ h9 => h9) rfl dX6_verify_16 ?_
    refine lv_iload_n hx hb dX6_verify_19 rfl (lv_at hl 1 rfl) ?_
    refine va_zald hx hb hK hP 9 2 (wR_g9 a k _) rfl (vp_in_nI (n := j) (N := 200) (by omega) (by decide)) dX6_verify_20 ?_
    refine wtopi (bI (cu_B v 0 j)) (congrArg (fun j9 => bI (cu_B v 0 j9)) (nI_clamp (n := j) (Nat.lt_trans (m := 200) (by omega) (by decide)))) ?_
    refine bz_ne (a := (cu_B v 0 j)) (tgt := 40) hx hb dX6_verify_21 (by decide) (fun c_21 => ?_) (fun c_21 => ?_)
    · refine lv_iinc (v := nI (j + 1)) (lv' := [(1, .int (nI (j + 1))), (0, .ref (a 0))]) hx hb dX6_verify_40 hl (k := 1) rfl (nI_1 j) (by decide) rfl (fun ls hl => ?_)
      refine lv_goto (tgt := 7) hx hb dX6_verify_43 (by decide) ?_
      exact ih (j + 1) ls (by omega) ⟨⟨by omega, m_vf_n hI.2 (fun z => by rw [c_21] at z; cases z.1)⟩, lv_sub hl [1, 0] rfl⟩
    · refine lv_aload_n hx hb dX6_verify_24 rfl (lv_at hl 0 rfl) ?_
      refine lv_iload_n hx hb dX6_verify_25 rfl (lv_at hl 1 rfl) ?_
      refine vp_callSi (W.runV (As := [.int (nI j)]) (rest := []) ⟨hx, hb, hml, hown, hts⟩ (c_X6_sumOf l dC dI a k v j (by omega) (hv.2.2.1 j (by omega)).2.2.2.1) (cwV 1 hts (wG_V wG_c q_658 q_660 p_8 q_7 q_661) rfl rfl rfl (by decide +kernel) ⟨Nat.le_of_ble_eq_true rfl, Nat.le_of_ble_eq_true rfl⟩) (w_roV hK hP (ci := 6) (q0 := 0) rfl (wR_g0 a k _) rfl) rfl rfl hl.1 rfl (lv_room (Nat.le_of_ble_eq_true rfl)) dX6_verify_26 ⟨Nat.le_of_ble_eq_true rfl, Nat.le_of_ble_eq_true rfl⟩) (fun r_1 hr_1 => ?_)
      subst hr_1
      refine lv_aload_n hx hb dX6_verify_29 rfl (lv_at hl 0 rfl) ?_
      refine va_get (D := (dC, dI)) (ci := 6) (v := .ref (a 12)) (C := RX6) (T := TX6) (N := 20) hx hb htg inX6 hown hK hP 0 (wR_g0 a k _) rfl 8 (by decide) (htg _ q_589) (fun _ h9 => h9) rfl dX6_verify_30 ?_
      refine lv_iload_n hx hb dX6_verify_33 rfl (lv_at hl 1 rfl) ?_
      refine va_iald hx hb hK hP 12 0 (wR_g12 a k _) rfl (vp_in_nI (n := j) (N := 200) (by omega) (by decide)) dX6_verify_34 ?_
      refine wtopi (cu_G v 0 j) (congrArg (fun j9 => cu_G v 0 j9) (nI_clamp (n := j) (Nat.lt_trans (m := 200) (by omega) (by decide)))) ?_
      refine lv_icmp_eq (tgt := 40) hx hb dX6_verify_35 (by decide) (fun c_35 => ?_) (fun c_35 => ?_)
      · refine lv_iinc (v := nI (j + 1)) (lv' := [(1, .int (nI (j + 1))), (0, .ref (a 0))]) hx hb dX6_verify_40 hl (k := 1) rfl (nI_1 j) (by decide) rfl (fun ls hl => ?_)
        refine lv_goto (tgt := 7) hx hb dX6_verify_43 (by decide) ?_
        exact ih (j + 1) ls (by omega) ⟨⟨by omega, m_vf_n hI.2 (fun z => z.2 c_35)⟩, lv_sub hl [1, 0] rfl⟩
      · refine lv_iload_n hx hb dX6_verify_38 rfl (lv_at hl 1 rfl) ?_
        exact W.iret (v := nI j) hx hb hr (fun t9 ht9 hW9 => ⟨⟨_, v, rfl, ⟨ev, by rw [nI_iI, ← m_vf_y hI.2 ⟨c_21, c_35⟩ (cu_N v 0 - j - 1), show j + 1 + (cu_N v 0 - j - 1) = cu_N v 0 by omega]⟩, by rw [ht9]; exact hP, va_K.moved hW9.alike hK, hD⟩, hS.F ht9⟩) hS.2.2 dX6_verify_39
end
